section
-- ===== PART A: goes FIRST, ahead of the names: the tables' words, and 'selects' of the private methods out of them =====
/-- a private method of a class that the tables say can be made, by its rows of tables_1 -/
def lw_okq (q : MethodName × Nat) : Prop := (q.1.cls ≠ "java/lang/invoke/MethodHandle" ∧ q.1.cls ≠ "java/lang/invoke/VarHandle") ∧ Cond.instantiable q.1.cls q.2 ∈ tables_1 ∧ Cond.privateMethod q.1 ∈ tables_1 ∧ Cond.instanceMethod q.1 ∈ tables_1
theorem lw_p0 : lw_okq (⟨"NameHouse", "refused", "(I)I"⟩, 15) := ⟨⟨by decide +kernel, by decide +kernel⟩, List.mem_of_getElem? (i := 16) (by decide +kernel), List.mem_of_getElem? (i := 226) (by decide +kernel), List.mem_of_getElem? (i := 227) (by decide +kernel)⟩
theorem lw_p1 : lw_okq (⟨"NameHouse", "accepted", "(I)I"⟩, 15) := ⟨⟨by decide +kernel, by decide +kernel⟩, List.mem_of_getElem? (i := 16) (by decide +kernel), List.mem_of_getElem? (i := 240) (by decide +kernel), List.mem_of_getElem? (i := 241) (by decide +kernel)⟩
theorem lw_p2 : lw_okq (⟨"NameHouse", "takesName", "(I)Z"⟩, 15) := ⟨⟨by decide +kernel, by decide +kernel⟩, List.mem_of_getElem? (i := 16) (by decide +kernel), List.mem_of_getElem? (i := 251) (by decide +kernel), List.mem_of_getElem? (i := 252) (by decide +kernel)⟩
theorem lw_p3 : lw_okq (⟨"NameHouse", "isOnTape", "(I)Z"⟩, 15) := ⟨⟨by decide +kernel, by decide +kernel⟩, List.mem_of_getElem? (i := 16) (by decide +kernel), List.mem_of_getElem? (i := 255) (by decide +kernel), List.mem_of_getElem? (i := 256) (by decide +kernel)⟩
theorem lw_p4 : lw_okq (⟨"NameHouse", "take", "(I)V"⟩, 15) := ⟨⟨by decide +kernel, by decide +kernel⟩, List.mem_of_getElem? (i := 16) (by decide +kernel), List.mem_of_getElem? (i := 259) (by decide +kernel), List.mem_of_getElem? (i := 260) (by decide +kernel)⟩
theorem lw_p5 : lw_okq (⟨"NameHouse", "isNameOfOther", "(IILNameHouse$Text;Z)Z"⟩, 15) := ⟨⟨by decide +kernel, by decide +kernel⟩, List.mem_of_getElem? (i := 16) (by decide +kernel), List.mem_of_getElem? (i := 292) (by decide +kernel), List.mem_of_getElem? (i := 293) (by decide +kernel)⟩
theorem lw_p6 : lw_okq (⟨"NameHouse", "nameNowOrThen", "(IZ)LNameHouse$Text;"⟩, 15) := ⟨⟨by decide +kernel, by decide +kernel⟩, List.mem_of_getElem? (i := 16) (by decide +kernel), List.mem_of_getElem? (i := 308) (by decide +kernel), List.mem_of_getElem? (i := 309) (by decide +kernel)⟩
theorem lw_p7 : lw_okq (⟨"NameHouse", "wouldCatchUse", "(ILNameHouse$Text;Z)Z"⟩, 15) := ⟨⟨by decide +kernel, by decide +kernel⟩, List.mem_of_getElem? (i := 16) (by decide +kernel), List.mem_of_getElem? (i := 328) (by decide +kernel), List.mem_of_getElem? (i := 329) (by decide +kernel)⟩
theorem lw_p8 : lw_okq (⟨"NameHouse", "thingMeant", "(ILNameHouse$Text;Z)I"⟩, 15) := ⟨⟨by decide +kernel, by decide +kernel⟩, List.mem_of_getElem? (i := 16) (by decide +kernel), List.mem_of_getElem? (i := 370) (by decide +kernel), List.mem_of_getElem? (i := 371) (by decide +kernel)⟩
theorem lw_p9 : lw_okq (⟨"NameHouse$Cut", "add", "(II)V"⟩, 4) := ⟨⟨by decide +kernel, by decide +kernel⟩, List.mem_of_getElem? (i := 41) (by decide +kernel), List.mem_of_getElem? (i := 404) (by decide +kernel), List.mem_of_getElem? (i := 405) (by decide +kernel)⟩
theorem lw_p10 : lw_okq (⟨"NameHouse", "patternOf", "(I)I"⟩, 15) := ⟨⟨by decide +kernel, by decide +kernel⟩, List.mem_of_getElem? (i := 16) (by decide +kernel), List.mem_of_getElem? (i := 424) (by decide +kernel), List.mem_of_getElem? (i := 425) (by decide +kernel)⟩
theorem lw_p11 : lw_okq (⟨"NameHouse", "takesWord", "(I)Z"⟩, 15) := ⟨⟨by decide +kernel, by decide +kernel⟩, List.mem_of_getElem? (i := 16) (by decide +kernel), List.mem_of_getElem? (i := 482) (by decide +kernel), List.mem_of_getElem? (i := 483) (by decide +kernel)⟩
theorem lw_p12 : lw_okq (⟨"NameHouse", "countUsed", "()V"⟩, 15) := ⟨⟨by decide +kernel, by decide +kernel⟩, List.mem_of_getElem? (i := 16) (by decide +kernel), List.mem_of_getElem? (i := 525) (by decide +kernel), List.mem_of_getElem? (i := 526) (by decide +kernel)⟩
theorem lw_p13 : lw_okq (⟨"NameHouse", "wayOf", "(I)I"⟩, 15) := ⟨⟨by decide +kernel, by decide +kernel⟩, List.mem_of_getElem? (i := 16) (by decide +kernel), List.mem_of_getElem? (i := 564) (by decide +kernel), List.mem_of_getElem? (i := 565) (by decide +kernel)⟩
theorem lw_p14 : lw_okq (⟨"NameHouse", "howOften", "(II)I"⟩, 15) := ⟨⟨by decide +kernel, by decide +kernel⟩, List.mem_of_getElem? (i := 16) (by decide +kernel), List.mem_of_getElem? (i := 568) (by decide +kernel), List.mem_of_getElem? (i := 569) (by decide +kernel)⟩
theorem lw_p15 : lw_okq (⟨"NameHouse", "draftsOffer", "(I)Z"⟩, 15) := ⟨⟨by decide +kernel, by decide +kernel⟩, List.mem_of_getElem? (i := 16) (by decide +kernel), List.mem_of_getElem? (i := 597) (by decide +kernel), List.mem_of_getElem? (i := 598) (by decide +kernel)⟩
def lw_privs_1 : List (MethodName × Nat) := [(⟨"NameHouse", "refused", "(I)I"⟩, 15), (⟨"NameHouse", "accepted", "(I)I"⟩, 15), (⟨"NameHouse", "takesName", "(I)Z"⟩, 15), (⟨"NameHouse", "isOnTape", "(I)Z"⟩, 15), (⟨"NameHouse", "take", "(I)V"⟩, 15), (⟨"NameHouse", "isNameOfOther", "(IILNameHouse$Text;Z)Z"⟩, 15), (⟨"NameHouse", "nameNowOrThen", "(IZ)LNameHouse$Text;"⟩, 15), (⟨"NameHouse", "wouldCatchUse", "(ILNameHouse$Text;Z)Z"⟩, 15), (⟨"NameHouse", "thingMeant", "(ILNameHouse$Text;Z)I"⟩, 15), (⟨"NameHouse$Cut", "add", "(II)V"⟩, 4), (⟨"NameHouse", "patternOf", "(I)I"⟩, 15), (⟨"NameHouse", "takesWord", "(I)Z"⟩, 15), (⟨"NameHouse", "countUsed", "()V"⟩, 15), (⟨"NameHouse", "wayOf", "(I)I"⟩, 15), (⟨"NameHouse", "howOften", "(II)I"⟩, 15), (⟨"NameHouse", "draftsOffer", "(I)Z"⟩, 15)]
theorem lw_r1 : ∀ q ∈ lw_privs_1, lw_okq q := List.forall_mem_cons.mpr ⟨lw_p0, List.forall_mem_cons.mpr ⟨lw_p1, List.forall_mem_cons.mpr ⟨lw_p2, List.forall_mem_cons.mpr ⟨lw_p3, List.forall_mem_cons.mpr ⟨lw_p4, List.forall_mem_cons.mpr ⟨lw_p5, List.forall_mem_cons.mpr ⟨lw_p6, List.forall_mem_cons.mpr ⟨lw_p7, List.forall_mem_cons.mpr ⟨lw_p8, List.forall_mem_cons.mpr ⟨lw_p9, List.forall_mem_cons.mpr ⟨lw_p10, List.forall_mem_cons.mpr ⟨lw_p11, List.forall_mem_cons.mpr ⟨lw_p12, List.forall_mem_cons.mpr ⟨lw_p13, List.forall_mem_cons.mpr ⟨lw_p14, List.forall_mem_cons.mpr ⟨lw_p15, fun _ h => absurd h List.not_mem_nil⟩⟩⟩⟩⟩⟩⟩⟩⟩⟩⟩⟩⟩⟩⟩⟩
theorem lw_p16 : lw_okq (⟨"NameHouse", "writePart", "(IZZ)V"⟩, 15) := ⟨⟨by decide +kernel, by decide +kernel⟩, List.mem_of_getElem? (i := 16) (by decide +kernel), List.mem_of_getElem? (i := 601) (by decide +kernel), List.mem_of_getElem? (i := 602) (by decide +kernel)⟩
theorem lw_p17 : lw_okq (⟨"NameHouse", "firstDoubled", "()I"⟩, 15) := ⟨⟨by decide +kernel, by decide +kernel⟩, List.mem_of_getElem? (i := 16) (by decide +kernel), List.mem_of_getElem? (i := 655) (by decide +kernel), List.mem_of_getElem? (i := 656) (by decide +kernel)⟩
theorem lw_p18 : lw_okq (⟨"NameHouse", "firstStrayed", "()I"⟩, 15) := ⟨⟨by decide +kernel, by decide +kernel⟩, List.mem_of_getElem? (i := 16) (by decide +kernel), List.mem_of_getElem? (i := 659) (by decide +kernel), List.mem_of_getElem? (i := 660) (by decide +kernel)⟩
theorem lw_p19 : lw_okq (⟨"NameHouse", "isStrayed", "(I)Z"⟩, 15) := ⟨⟨by decide +kernel, by decide +kernel⟩, List.mem_of_getElem? (i := 16) (by decide +kernel), List.mem_of_getElem? (i := 663) (by decide +kernel), List.mem_of_getElem? (i := 664) (by decide +kernel)⟩
theorem lw_p20 : lw_okq (⟨"NameHouse", "isSafe", "()Z"⟩, 15) := ⟨⟨by decide +kernel, by decide +kernel⟩, List.mem_of_getElem? (i := 16) (by decide +kernel), List.mem_of_getElem? (i := 671) (by decide +kernel), List.mem_of_getElem? (i := 672) (by decide +kernel)⟩
theorem lw_p21 : lw_okq (⟨"NameHouse", "staysSafe", "(I)Z"⟩, 15) := ⟨⟨by decide +kernel, by decide +kernel⟩, List.mem_of_getElem? (i := 16) (by decide +kernel), List.mem_of_getElem? (i := 684) (by decide +kernel), List.mem_of_getElem? (i := 685) (by decide +kernel)⟩
theorem lw_p22 : lw_okq (⟨"java/lang/Throwable", "fillInStackTrace", "(I)Ljava/lang/Throwable;"⟩, 6) := ⟨⟨by decide +kernel, by decide +kernel⟩, List.mem_of_getElem? (i := 754) (by decide +kernel), List.mem_of_getElem? (i := 752) (by decide +kernel), List.mem_of_getElem? (i := 753) (by decide +kernel)⟩
theorem lw_p23 : lw_okq (⟨"NameHouseModel", "isScope", "(I)Z"⟩, 38) := ⟨⟨by decide +kernel, by decide +kernel⟩, List.mem_of_getElem? (i := 800) (by decide +kernel), List.mem_of_getElem? (i := 925) (by decide +kernel), List.mem_of_getElem? (i := 926) (by decide +kernel)⟩
theorem lw_p24 : lw_okq (⟨"NameHouseModel", "refused", "(I)I"⟩, 38) := ⟨⟨by decide +kernel, by decide +kernel⟩, List.mem_of_getElem? (i := 800) (by decide +kernel), List.mem_of_getElem? (i := 929) (by decide +kernel), List.mem_of_getElem? (i := 930) (by decide +kernel)⟩
theorem lw_p25 : lw_okq (⟨"NameHouseModel", "done", "(I)I"⟩, 38) := ⟨⟨by decide +kernel, by decide +kernel⟩, List.mem_of_getElem? (i := 800) (by decide +kernel), List.mem_of_getElem? (i := 933) (by decide +kernel), List.mem_of_getElem? (i := 934) (by decide +kernel)⟩
theorem lw_p26 : lw_okq (⟨"NameHouseModel", "isTaped", "(I)Z"⟩, 38) := ⟨⟨by decide +kernel, by decide +kernel⟩, List.mem_of_getElem? (i := 800) (by decide +kernel), List.mem_of_getElem? (i := 944) (by decide +kernel), List.mem_of_getElem? (i := 945) (by decide +kernel)⟩
theorem lw_p27 : lw_okq (⟨"NameHouseModel", "takesUse", "(II)Z"⟩, 38) := ⟨⟨by decide +kernel, by decide +kernel⟩, List.mem_of_getElem? (i := 800) (by decide +kernel), List.mem_of_getElem? (i := 966) (by decide +kernel), List.mem_of_getElem? (i := 967) (by decide +kernel)⟩
theorem lw_p28 : lw_okq (⟨"NameHouseModel", "meaningOf", "(I[BII[B[I)I"⟩, 38) := ⟨⟨by decide +kernel, by decide +kernel⟩, List.mem_of_getElem? (i := 800) (by decide +kernel), List.mem_of_getElem? (i := 974) (by decide +kernel), List.mem_of_getElem? (i := 975) (by decide +kernel)⟩
theorem lw_p29 : lw_okq (⟨"NameHouseModel", "isThing", "(I)Z"⟩, 38) := ⟨⟨by decide +kernel, by decide +kernel⟩, List.mem_of_getElem? (i := 800) (by decide +kernel), List.mem_of_getElem? (i := 990) (by decide +kernel), List.mem_of_getElem? (i := 991) (by decide +kernel)⟩
theorem lw_p30 : lw_okq (⟨"NameHouseModel", "isWord", "(I)Z"⟩, 38) := ⟨⟨by decide +kernel, by decide +kernel⟩, List.mem_of_getElem? (i := 800) (by decide +kernel), List.mem_of_getElem? (i := 1002) (by decide +kernel), List.mem_of_getElem? (i := 1003) (by decide +kernel)⟩
theorem lw_p31 : lw_okq (⟨"NameHouseModel", "denied", "(I)Z"⟩, 38) := ⟨⟨by decide +kernel, by decide +kernel⟩, List.mem_of_getElem? (i := 800) (by decide +kernel), List.mem_of_getElem? (i := 1006) (by decide +kernel), List.mem_of_getElem? (i := 1007) (by decide +kernel)⟩
def lw_privs_2 : List (MethodName × Nat) := [(⟨"NameHouse", "writePart", "(IZZ)V"⟩, 15), (⟨"NameHouse", "firstDoubled", "()I"⟩, 15), (⟨"NameHouse", "firstStrayed", "()I"⟩, 15), (⟨"NameHouse", "isStrayed", "(I)Z"⟩, 15), (⟨"NameHouse", "isSafe", "()Z"⟩, 15), (⟨"NameHouse", "staysSafe", "(I)Z"⟩, 15), (⟨"java/lang/Throwable", "fillInStackTrace", "(I)Ljava/lang/Throwable;"⟩, 6), (⟨"NameHouseModel", "isScope", "(I)Z"⟩, 38), (⟨"NameHouseModel", "refused", "(I)I"⟩, 38), (⟨"NameHouseModel", "done", "(I)I"⟩, 38), (⟨"NameHouseModel", "isTaped", "(I)Z"⟩, 38), (⟨"NameHouseModel", "takesUse", "(II)Z"⟩, 38), (⟨"NameHouseModel", "meaningOf", "(I[BII[B[I)I"⟩, 38), (⟨"NameHouseModel", "isThing", "(I)Z"⟩, 38), (⟨"NameHouseModel", "isWord", "(I)Z"⟩, 38), (⟨"NameHouseModel", "denied", "(I)Z"⟩, 38)]
theorem lw_r2 : ∀ q ∈ lw_privs_2, lw_okq q := List.forall_mem_cons.mpr ⟨lw_p16, List.forall_mem_cons.mpr ⟨lw_p17, List.forall_mem_cons.mpr ⟨lw_p18, List.forall_mem_cons.mpr ⟨lw_p19, List.forall_mem_cons.mpr ⟨lw_p20, List.forall_mem_cons.mpr ⟨lw_p21, List.forall_mem_cons.mpr ⟨lw_p22, List.forall_mem_cons.mpr ⟨lw_p23, List.forall_mem_cons.mpr ⟨lw_p24, List.forall_mem_cons.mpr ⟨lw_p25, List.forall_mem_cons.mpr ⟨lw_p26, List.forall_mem_cons.mpr ⟨lw_p27, List.forall_mem_cons.mpr ⟨lw_p28, List.forall_mem_cons.mpr ⟨lw_p29, List.forall_mem_cons.mpr ⟨lw_p30, List.forall_mem_cons.mpr ⟨lw_p31, fun _ h => absurd h List.not_mem_nil⟩⟩⟩⟩⟩⟩⟩⟩⟩⟩⟩⟩⟩⟩⟩⟩
theorem lw_p32 : lw_okq (⟨"NameHouseModel", "granted", "()Z"⟩, 38) := ⟨⟨by decide +kernel, by decide +kernel⟩, List.mem_of_getElem? (i := 800) (by decide +kernel), List.mem_of_getElem? (i := 1010) (by decide +kernel), List.mem_of_getElem? (i := 1011) (by decide +kernel)⟩
theorem lw_p33 : lw_okq (⟨"NameHouseModel", "counts", "()V"⟩, 38) := ⟨⟨by decide +kernel, by decide +kernel⟩, List.mem_of_getElem? (i := 800) (by decide +kernel), List.mem_of_getElem? (i := 1022) (by decide +kernel), List.mem_of_getElem? (i := 1023) (by decide +kernel)⟩
theorem lw_p34 : lw_okq (⟨"NameHouseModel", "cuts", "(I)V"⟩, 38) := ⟨⟨by decide +kernel, by decide +kernel⟩, List.mem_of_getElem? (i := 800) (by decide +kernel), List.mem_of_getElem? (i := 1026) (by decide +kernel), List.mem_of_getElem? (i := 1027) (by decide +kernel)⟩
theorem lw_p35 : lw_okq (⟨"NameHouseModel", "wordOf", "(II)I"⟩, 38) := ⟨⟨by decide +kernel, by decide +kernel⟩, List.mem_of_getElem? (i := 800) (by decide +kernel), List.mem_of_getElem? (i := 1030) (by decide +kernel), List.mem_of_getElem? (i := 1031) (by decide +kernel)⟩
theorem lw_p36 : lw_okq (⟨"NameHouseModel", "opened", "(I)I"⟩, 38) := ⟨⟨by decide +kernel, by decide +kernel⟩, List.mem_of_getElem? (i := 800) (by decide +kernel), List.mem_of_getElem? (i := 1037) (by decide +kernel), List.mem_of_getElem? (i := 1038) (by decide +kernel)⟩
theorem lw_p37 : lw_okq (⟨"NameHouseModel", "headOf", "(I)I"⟩, 38) := ⟨⟨by decide +kernel, by decide +kernel⟩, List.mem_of_getElem? (i := 800) (by decide +kernel), List.mem_of_getElem? (i := 1041) (by decide +kernel), List.mem_of_getElem? (i := 1042) (by decide +kernel)⟩
theorem lw_p38 : lw_okq (⟨"NameHouseModel", "groupSize", "(I)I"⟩, 38) := ⟨⟨by decide +kernel, by decide +kernel⟩, List.mem_of_getElem? (i := 800) (by decide +kernel), List.mem_of_getElem? (i := 1045) (by decide +kernel), List.mem_of_getElem? (i := 1046) (by decide +kernel)⟩
theorem lw_p39 : lw_okq (⟨"NameHouseModel", "styleOf", "(I)I"⟩, 38) := ⟨⟨by decide +kernel, by decide +kernel⟩, List.mem_of_getElem? (i := 800) (by decide +kernel), List.mem_of_getElem? (i := 1057) (by decide +kernel), List.mem_of_getElem? (i := 1058) (by decide +kernel)⟩
theorem lw_p40 : lw_okq (⟨"NameHouseModel", "patternOf", "(I)I"⟩, 38) := ⟨⟨by decide +kernel, by decide +kernel⟩, List.mem_of_getElem? (i := 800) (by decide +kernel), List.mem_of_getElem? (i := 1061) (by decide +kernel), List.mem_of_getElem? (i := 1062) (by decide +kernel)⟩
theorem lw_p41 : lw_okq (⟨"NameHouseModel", "wayOf", "(I)I"⟩, 38) := ⟨⟨by decide +kernel, by decide +kernel⟩, List.mem_of_getElem? (i := 800) (by decide +kernel), List.mem_of_getElem? (i := 1069) (by decide +kernel), List.mem_of_getElem? (i := 1070) (by decide +kernel)⟩
theorem lw_p42 : lw_okq (⟨"NameHouseModel", "offers", "(I)Z"⟩, 38) := ⟨⟨by decide +kernel, by decide +kernel⟩, List.mem_of_getElem? (i := 800) (by decide +kernel), List.mem_of_getElem? (i := 1093) (by decide +kernel), List.mem_of_getElem? (i := 1094) (by decide +kernel)⟩
theorem lw_p43 : lw_okq (⟨"NameHouseModel", "makes", "(IZ)V"⟩, 38) := ⟨⟨by decide +kernel, by decide +kernel⟩, List.mem_of_getElem? (i := 800) (by decide +kernel), List.mem_of_getElem? (i := 1097) (by decide +kernel), List.mem_of_getElem? (i := 1098) (by decide +kernel)⟩
theorem lw_p44 : lw_okq (⟨"NameHouseModel", "renameMany", "()I"⟩, 38) := ⟨⟨by decide +kernel, by decide +kernel⟩, List.mem_of_getElem? (i := 800) (by decide +kernel), List.mem_of_getElem? (i := 1109) (by decide +kernel), List.mem_of_getElem? (i := 1110) (by decide +kernel)⟩
theorem lw_p45 : lw_okq (⟨"NameHouseModel", "hindersAll", "()I"⟩, 38) := ⟨⟨by decide +kernel, by decide +kernel⟩, List.mem_of_getElem? (i := 800) (by decide +kernel), List.mem_of_getElem? (i := 1125) (by decide +kernel), List.mem_of_getElem? (i := 1126) (by decide +kernel)⟩
theorem lw_p46 : lw_okq (⟨"NameHouseModel", "hindersTaken", "()I"⟩, 38) := ⟨⟨by decide +kernel, by decide +kernel⟩, List.mem_of_getElem? (i := 800) (by decide +kernel), List.mem_of_getElem? (i := 1129) (by decide +kernel), List.mem_of_getElem? (i := 1130) (by decide +kernel)⟩
def lw_privs_3 : List (MethodName × Nat) := [(⟨"NameHouseModel", "granted", "()Z"⟩, 38), (⟨"NameHouseModel", "counts", "()V"⟩, 38), (⟨"NameHouseModel", "cuts", "(I)V"⟩, 38), (⟨"NameHouseModel", "wordOf", "(II)I"⟩, 38), (⟨"NameHouseModel", "opened", "(I)I"⟩, 38), (⟨"NameHouseModel", "headOf", "(I)I"⟩, 38), (⟨"NameHouseModel", "groupSize", "(I)I"⟩, 38), (⟨"NameHouseModel", "styleOf", "(I)I"⟩, 38), (⟨"NameHouseModel", "patternOf", "(I)I"⟩, 38), (⟨"NameHouseModel", "wayOf", "(I)I"⟩, 38), (⟨"NameHouseModel", "offers", "(I)Z"⟩, 38), (⟨"NameHouseModel", "makes", "(IZ)V"⟩, 38), (⟨"NameHouseModel", "renameMany", "()I"⟩, 38), (⟨"NameHouseModel", "hindersAll", "()I"⟩, 38), (⟨"NameHouseModel", "hindersTaken", "()I"⟩, 38)]
theorem lw_r3 : ∀ q ∈ lw_privs_3, lw_okq q := List.forall_mem_cons.mpr ⟨lw_p32, List.forall_mem_cons.mpr ⟨lw_p33, List.forall_mem_cons.mpr ⟨lw_p34, List.forall_mem_cons.mpr ⟨lw_p35, List.forall_mem_cons.mpr ⟨lw_p36, List.forall_mem_cons.mpr ⟨lw_p37, List.forall_mem_cons.mpr ⟨lw_p38, List.forall_mem_cons.mpr ⟨lw_p39, List.forall_mem_cons.mpr ⟨lw_p40, List.forall_mem_cons.mpr ⟨lw_p41, List.forall_mem_cons.mpr ⟨lw_p42, List.forall_mem_cons.mpr ⟨lw_p43, List.forall_mem_cons.mpr ⟨lw_p44, List.forall_mem_cons.mpr ⟨lw_p45, List.forall_mem_cons.mpr ⟨lw_p46, fun _ h => absurd h List.not_mem_nil⟩⟩⟩⟩⟩⟩⟩⟩⟩⟩⟩⟩⟩⟩⟩
def lw_privs : List (MethodName × Nat) := lw_privs_1 ++ (lw_privs_2 ++ (lw_privs_3))
def lw_tbl : List Cond := k2_sels lw_privs ++ tables_1
theorem lw_privs_ok : ∀ q ∈ lw_privs, lw_okq q := by
  show ∀ q ∈ lw_privs_1 ++ (lw_privs_2 ++ (lw_privs_3)), lw_okq q
  exact List.forall_mem_append.mpr ⟨lw_r1, List.forall_mem_append.mpr ⟨lw_r2, lw_r3⟩⟩
end
section
/-! ===== BEGIN printed: names, fields, word lists, decode rows ===== -/
def RX0 : String := "NameHouse$Book"
def TX0 : u_T := fun k => match k with
  | 0 => ("NameHouse$Book", "keys", "[J", true)
  | 1 => ("NameHouse$Book", "roles", "[I", true)
  | 2 => ("NameHouse$Book", "longs", "[I", true)
  | 3 => ("NameHouse$Book", "groups", "[I", true)
  | 4 => ("NameHouse$Book", "used", "[I", true)
  | _ => ("NameHouse$Book", "size", "I", false)
def tyX0 : Nat → FieldType := fun k => match k with
  | 0 => .array .long
  | 1 => .array .int
  | 2 => .array .int
  | 3 => .array .int
  | 4 => .array .int
  | _ => .int
abbrev wsX00 : List Cond := u_ws RX0 TX0 6
theorem nmX0 : ∀ a, a < 6 → ∀ b, b < 6 → a ≠ b → (TX0 a).2.1 ≠ (TX0 b).2.1 := by decide +kernel
theorem tyX0_ok : ∀ k, k < 6 → parseFieldDescriptor (TX0 k).2.2.1 = some (tyX0 k) := by decide +kernel
abbrev cX0_init : ByteArray := prog_2_method_1_code
def yX0_init : MethodName := ⟨RX0, "<init>", "()V"⟩
abbrev cX0_size : ByteArray := prog_2_method_2_code
def yX0_size : MethodName := ⟨RX0, "size", "()I"⟩
abbrev cX0_isFull : ByteArray := prog_2_method_3_code
def yX0_isFull : MethodName := ⟨RX0, "isFull", "()Z"⟩
abbrev cX0_has : ByteArray := prog_2_method_4_code
def yX0_has : MethodName := ⟨RX0, "has", "(I)Z"⟩
abbrev cX0_add : ByteArray := prog_2_method_5_code
def yX0_add : MethodName := ⟨RX0, "add", "(JI)I"⟩
abbrev cX0_numberOf : ByteArray := prog_2_method_6_code
def yX0_numberOf : MethodName := ⟨RX0, "numberOf", "(J)I"⟩
abbrev cX0_lengthOf : ByteArray := prog_2_method_7_code
def yX0_lengthOf : MethodName := ⟨RX0, "lengthOf", "(I)I"⟩
abbrev cX0_letterOf : ByteArray := prog_2_method_8_code
def yX0_letterOf : MethodName := ⟨RX0, "letterOf", "(II)I"⟩
abbrev cX0_rolesOf : ByteArray := prog_2_method_9_code
def yX0_rolesOf : MethodName := ⟨RX0, "rolesOf", "(I)I"⟩
abbrev cX0_roleOf : ByteArray := prog_2_method_10_code
def yX0_roleOf : MethodName := ⟨RX0, "roleOf", "(I)I"⟩
abbrev cX0_shortFor : ByteArray := prog_2_method_11_code
def yX0_shortFor : MethodName := ⟨RX0, "shortFor", "(I)I"⟩
abbrev cX0_setShort : ByteArray := prog_2_method_12_code
def yX0_setShort : MethodName := ⟨RX0, "setShort", "(II)V"⟩
abbrev cX0_opened : ByteArray := prog_2_method_13_code
def yX0_opened : MethodName := ⟨RX0, "opened", "(I)I"⟩
abbrev cX0_join : ByteArray := prog_2_method_14_code
def yX0_join : MethodName := ⟨RX0, "join", "(II)V"⟩
abbrev cX0_groupSize : ByteArray := prog_2_method_15_code
def yX0_groupSize : MethodName := ⟨RX0, "groupSize", "(I)I"⟩
abbrev cX0_clearUsed : ByteArray := prog_2_method_16_code
def yX0_clearUsed : MethodName := ⟨RX0, "clearUsed", "()V"⟩
abbrev cX0_addUsed : ByteArray := prog_2_method_17_code
def yX0_addUsed : MethodName := ⟨RX0, "addUsed", "(I)V"⟩
abbrev cX0_usedOf : ByteArray := prog_2_method_18_code
def yX0_usedOf : MethodName := ⟨RX0, "usedOf", "(I)I"⟩
abbrev cX0_headOf : ByteArray := prog_2_method_19_code
def yX0_headOf : MethodName := ⟨RX0, "headOf", "(I)I"⟩
abbrev cX0_mixedGroups : ByteArray := prog_2_method_20_code
def yX0_mixedGroups : MethodName := ⟨RX0, "mixedGroups", "()I"⟩
def RX1 : String := "NameHouse$Cut"
def TX1 : u_T := fun k => match k with
  | 0 => ("NameHouse$Cut", "smalls", "[I", true)
  | 1 => ("NameHouse$Cut", "starts", "[I", true)
  | 2 => ("NameHouse$Cut", "ends", "[I", true)
  | _ => ("NameHouse$Cut", "size", "I", false)
def tyX1 : Nat → FieldType := fun k => match k with
  | 0 => .array .int
  | 1 => .array .int
  | 2 => .array .int
  | _ => .int
abbrev wsX10 : List Cond := u_ws RX1 TX1 4
theorem nmX1 : ∀ a, a < 4 → ∀ b, b < 4 → a ≠ b → (TX1 a).2.1 ≠ (TX1 b).2.1 := by decide +kernel
theorem tyX1_ok : ∀ k, k < 4 → parseFieldDescriptor (TX1 k).2.2.1 = some (tyX1 k) := by decide +kernel
abbrev cX1_init : ByteArray := prog_3_method_1_code
def yX1_init : MethodName := ⟨RX1, "<init>", "()V"⟩
abbrev cX1_size : ByteArray := prog_3_method_2_code
def yX1_size : MethodName := ⟨RX1, "size", "()I"⟩
abbrev cX1_has : ByteArray := prog_3_method_3_code
def yX1_has : MethodName := ⟨RX1, "has", "(I)Z"⟩
abbrev cX1_lengthOf : ByteArray := prog_3_method_4_code
def yX1_lengthOf : MethodName := ⟨RX1, "lengthOf", "(I)I"⟩
abbrev cX1_at : ByteArray := prog_3_method_5_code
def yX1_at : MethodName := ⟨RX1, "at", "(II)I"⟩
abbrev cX1_isNumber : ByteArray := prog_3_method_6_code
def yX1_isNumber : MethodName := ⟨RX1, "isNumber", "(I)Z"⟩
abbrev cX1_keyOf : ByteArray := prog_3_method_7_code
def yX1_keyOf : MethodName := ⟨RX1, "keyOf", "(I)J"⟩
abbrev cX1_split : ByteArray := prog_3_method_8_code
def yX1_split : MethodName := ⟨RX1, "split", "(LNameHouse$Text;)V"⟩
abbrev cX1_add : ByteArray := prog_3_method_9_code
def yX1_add : MethodName := ⟨RX1, "add", "(II)V"⟩
abbrev cX1_isCutAhead : ByteArray := prog_3_method_10_code
def yX1_isCutAhead : MethodName := ⟨RX1, "isCutAhead", "(LNameHouse$Text;I)Z"⟩
def RX2 : String := "NameHouse$Renames"
def TX2 : u_T := fun k => match k with
  | 0 => ("NameHouse$Renames", "isThere", "[Z", true)
  | 1 => ("NameHouse$Renames", "nameRow", "[LNameHouse$Text;", true)
  | _ => ("NameHouse$Renames", "size", "I", false)
def tyX2 : Nat → FieldType := fun k => match k with
  | 0 => .array .boolean
  | 1 => .array (.object "NameHouse$Text")
  | _ => .int
abbrev wsX20 : List Cond := u_ws RX2 TX2 3
theorem nmX2 : ∀ a, a < 3 → ∀ b, b < 3 → a ≠ b → (TX2 a).2.1 ≠ (TX2 b).2.1 := by decide +kernel
theorem tyX2_ok : ∀ k, k < 3 → parseFieldDescriptor (TX2 k).2.2.1 = some (tyX2 k) := by decide +kernel
abbrev cX2_init : ByteArray := prog_4_method_1_code
def yX2_init : MethodName := ⟨RX2, "<init>", "()V"⟩
abbrev cX2_size : ByteArray := prog_4_method_2_code
def yX2_size : MethodName := ⟨RX2, "size", "()I"⟩
abbrev cX2_has : ByteArray := prog_4_method_3_code
def yX2_has : MethodName := ⟨RX2, "has", "(I)Z"⟩
abbrev cX2_nameOf : ByteArray := prog_4_method_4_code
def yX2_nameOf : MethodName := ⟨RX2, "nameOf", "(I)LNameHouse$Text;"⟩
abbrev cX2_put : ByteArray := prog_4_method_5_code
def yX2_put : MethodName := ⟨RX2, "put", "(ILNameHouse$Text;)V"⟩
abbrev cX2_putAgain : ByteArray := prog_4_method_6_code
def yX2_putAgain : MethodName := ⟨RX2, "putAgain", "(I)V"⟩
abbrev cX2_drop : ByteArray := prog_4_method_7_code
def yX2_drop : MethodName := ⟨RX2, "drop", "(I)V"⟩
abbrev cX2_clear : ByteArray := prog_4_method_8_code
def yX2_clear : MethodName := ⟨RX2, "clear", "()V"⟩
def RX3 : String := "NameHouse$Scopes"
def TX3 : u_T := fun k => match k with
  | 0 => ("NameHouse$Scopes", "chains", "[I", true)
  | _ => ("NameHouse$Scopes", "size", "I", false)
def tyX3 : Nat → FieldType := fun k => match k with
  | 0 => .array .int
  | _ => .int
abbrev wsX30 : List Cond := u_ws RX3 TX3 2
theorem nmX3 : ∀ a, a < 2 → ∀ b, b < 2 → a ≠ b → (TX3 a).2.1 ≠ (TX3 b).2.1 := by decide +kernel
theorem tyX3_ok : ∀ k, k < 2 → parseFieldDescriptor (TX3 k).2.2.1 = some (tyX3 k) := by decide +kernel
abbrev cX3_init : ByteArray := prog_5_method_1_code
def yX3_init : MethodName := ⟨RX3, "<init>", "()V"⟩
abbrev cX3_size : ByteArray := prog_5_method_2_code
def yX3_size : MethodName := ⟨RX3, "size", "()I"⟩
abbrev cX3_isFull : ByteArray := prog_5_method_3_code
def yX3_isFull : MethodName := ⟨RX3, "isFull", "()Z"⟩
abbrev cX3_has : ByteArray := prog_5_method_4_code
def yX3_has : MethodName := ⟨RX3, "has", "(I)Z"⟩
abbrev cX3_addWithin : ByteArray := prog_5_method_5_code
def yX3_addWithin : MethodName := ⟨RX3, "addWithin", "(I)I"⟩
abbrev cX3_isWithin : ByteArray := prog_5_method_6_code
def yX3_isWithin : MethodName := ⟨RX3, "isWithin", "(II)Z"⟩
def RX4 : String := "NameHouse$Text"
def TX4 : u_T := fun k => match k with
  | 0 => ("NameHouse$Text", "bytes", "[I", true)
  | 1 => ("NameHouse$Text", "size", "I", false)
  | _ => ("NameHouse$Text", "isOver", "Z", false)
def tyX4 : Nat → FieldType := fun k => match k with
  | 0 => .array .int
  | 1 => .int
  | _ => .boolean
abbrev wsX40 : List Cond := u_ws RX4 TX4 3
theorem nmX4 : ∀ a, a < 3 → ∀ b, b < 3 → a ≠ b → (TX4 a).2.1 ≠ (TX4 b).2.1 := by decide +kernel
theorem tyX4_ok : ∀ k, k < 3 → parseFieldDescriptor (TX4 k).2.2.1 = some (tyX4 k) := by decide +kernel
abbrev cX4_init : ByteArray := prog_6_method_1_code
def yX4_init : MethodName := ⟨RX4, "<init>", "(I)V"⟩
abbrev cX4_size : ByteArray := prog_6_method_2_code
def yX4_size : MethodName := ⟨RX4, "size", "()I"⟩
abbrev cX4_has : ByteArray := prog_6_method_3_code
def yX4_has : MethodName := ⟨RX4, "has", "(I)Z"⟩
abbrev cX4_at : ByteArray := prog_6_method_4_code
def yX4_at : MethodName := ⟨RX4, "at", "(I)I"⟩
abbrev cX4_clear : ByteArray := prog_6_method_5_code
def yX4_clear : MethodName := ⟨RX4, "clear", "()V"⟩
abbrev cX4_add : ByteArray := prog_6_method_6_code
def yX4_add : MethodName := ⟨RX4, "add", "(I)V"⟩
abbrev cX4_addNumber : ByteArray := prog_6_method_7_code
def yX4_addNumber : MethodName := ⟨RX4, "addNumber", "(I)V"⟩
abbrev cX4_set : ByteArray := prog_6_method_8_code
def yX4_set : MethodName := ⟨RX4, "set", "(LNameHouse$Text;)V"⟩
abbrev cX4_same : ByteArray := prog_6_method_9_code
def yX4_same : MethodName := ⟨RX4, "same", "(LNameHouse$Text;)Z"⟩
abbrev cX4_isName : ByteArray := prog_6_method_10_code
def yX4_isName : MethodName := ⟨RX4, "isName", "()Z"⟩
abbrev cX4_isWord : ByteArray := prog_6_method_11_code
def yX4_isWord : MethodName := ⟨RX4, "isWord", "()Z"⟩
abbrev cX4_style : ByteArray := prog_6_method_12_code
def yX4_style : MethodName := ⟨RX4, "style", "()I"⟩
def RX5 : String := "NameHouse$Things"
def TX5 : u_T := fun k => match k with
  | 0 => ("NameHouse$Things", "scopeRow", "[I", true)
  | 1 => ("NameHouse$Things", "kindRow", "[I", true)
  | 2 => ("NameHouse$Things", "nameRow", "[LNameHouse$Text;", true)
  | _ => ("NameHouse$Things", "size", "I", false)
def tyX5 : Nat → FieldType := fun k => match k with
  | 0 => .array .int
  | 1 => .array .int
  | 2 => .array (.object "NameHouse$Text")
  | _ => .int
abbrev wsX50 : List Cond := u_ws RX5 TX5 4
theorem nmX5 : ∀ a, a < 4 → ∀ b, b < 4 → a ≠ b → (TX5 a).2.1 ≠ (TX5 b).2.1 := by decide +kernel
theorem tyX5_ok : ∀ k, k < 4 → parseFieldDescriptor (TX5 k).2.2.1 = some (tyX5 k) := by decide +kernel
abbrev cX5_init : ByteArray := prog_7_method_1_code
def yX5_init : MethodName := ⟨RX5, "<init>", "()V"⟩
abbrev cX5_size : ByteArray := prog_7_method_2_code
def yX5_size : MethodName := ⟨RX5, "size", "()I"⟩
abbrev cX5_isFull : ByteArray := prog_7_method_3_code
def yX5_isFull : MethodName := ⟨RX5, "isFull", "()Z"⟩
abbrev cX5_has : ByteArray := prog_7_method_4_code
def yX5_has : MethodName := ⟨RX5, "has", "(I)Z"⟩
abbrev cX5_add : ByteArray := prog_7_method_5_code
def yX5_add : MethodName := ⟨RX5, "add", "(IILNameHouse$Text;)I"⟩
abbrev cX5_scopeOf : ByteArray := prog_7_method_6_code
def yX5_scopeOf : MethodName := ⟨RX5, "scopeOf", "(I)I"⟩
abbrev cX5_kindOf : ByteArray := prog_7_method_7_code
def yX5_kindOf : MethodName := ⟨RX5, "kindOf", "(I)I"⟩
abbrev cX5_nameOf : ByteArray := prog_7_method_8_code
def yX5_nameOf : MethodName := ⟨RX5, "nameOf", "(I)LNameHouse$Text;"⟩
def RX6 : String := "NameHouse$Uses"
def TX6 : u_T := fun k => match k with
  | 0 => ("NameHouse$Uses", "scopeRow", "[I", true)
  | 1 => ("NameHouse$Uses", "thingRow", "[I", true)
  | _ => ("NameHouse$Uses", "size", "I", false)
def tyX6 : Nat → FieldType := fun k => match k with
  | 0 => .array .int
  | 1 => .array .int
  | _ => .int
abbrev wsX60 : List Cond := u_ws RX6 TX6 3
theorem nmX6 : ∀ a, a < 3 → ∀ b, b < 3 → a ≠ b → (TX6 a).2.1 ≠ (TX6 b).2.1 := by decide +kernel
theorem tyX6_ok : ∀ k, k < 3 → parseFieldDescriptor (TX6 k).2.2.1 = some (tyX6 k) := by decide +kernel
abbrev cX6_init : ByteArray := prog_8_method_1_code
def yX6_init : MethodName := ⟨RX6, "<init>", "()V"⟩
abbrev cX6_size : ByteArray := prog_8_method_2_code
def yX6_size : MethodName := ⟨RX6, "size", "()I"⟩
abbrev cX6_isFull : ByteArray := prog_8_method_3_code
def yX6_isFull : MethodName := ⟨RX6, "isFull", "()Z"⟩
abbrev cX6_has : ByteArray := prog_8_method_4_code
def yX6_has : MethodName := ⟨RX6, "has", "(I)Z"⟩
abbrev cX6_add : ByteArray := prog_8_method_5_code
def yX6_add : MethodName := ⟨RX6, "add", "(II)I"⟩
abbrev cX6_scopeOf : ByteArray := prog_8_method_6_code
def yX6_scopeOf : MethodName := ⟨RX6, "scopeOf", "(I)I"⟩
abbrev cX6_thingOf : ByteArray := prog_8_method_7_code
def yX6_thingOf : MethodName := ⟨RX6, "thingOf", "(I)I"⟩
abbrev cX6_howManyMean : ByteArray := prog_8_method_8_code
def yX6_howManyMean : MethodName := ⟨RX6, "howManyMean", "(I)I"⟩
def RX7 : String := "NameHouse"
def TX7 : u_T := fun k => match k with
  | 0 => ("NameHouse", "tape", "LNameHouse$Text;", true)
  | 1 => ("NameHouse", "taken", "LNameHouse$Text;", true)
  | 2 => ("NameHouse", "draft", "LNameHouse$Text;", true)
  | 3 => ("NameHouse", "shown", "LNameHouse$Text;", true)
  | 4 => ("NameHouse", "cut", "LNameHouse$Cut;", true)
  | 5 => ("NameHouse", "book", "LNameHouse$Book;", true)
  | 6 => ("NameHouse", "scopes", "LNameHouse$Scopes;", true)
  | 7 => ("NameHouse", "things", "LNameHouse$Things;", true)
  | 8 => ("NameHouse", "uses", "LNameHouse$Uses;", true)
  | 9 => ("NameHouse", "pending", "LNameHouse$Renames;", true)
  | 10 => ("NameHouse", "former", "LNameHouse$Renames;", true)
  | 11 => ("NameHouse", "wanted", "[Z", true)
  | 12 => ("NameHouse", "patterns", "[I", true)
  | 13 => ("NameHouse", "backReady", "Z", false)
  | _ => ("NameHouse", "lastTrouble", "I", false)
def tyX7 : Nat → FieldType := fun k => match k with
  | 0 => .object "NameHouse$Text"
  | 1 => .object "NameHouse$Text"
  | 2 => .object "NameHouse$Text"
  | 3 => .object "NameHouse$Text"
  | 4 => .object "NameHouse$Cut"
  | 5 => .object "NameHouse$Book"
  | 6 => .object "NameHouse$Scopes"
  | 7 => .object "NameHouse$Things"
  | 8 => .object "NameHouse$Uses"
  | 9 => .object "NameHouse$Renames"
  | 10 => .object "NameHouse$Renames"
  | 11 => .array .boolean
  | 12 => .array .int
  | 13 => .boolean
  | _ => .int
abbrev wsX70 : List Cond := u_ws RX7 TX7 15
theorem nmX7 : ∀ a, a < 15 → ∀ b, b < 15 → a ≠ b → (TX7 a).2.1 ≠ (TX7 b).2.1 := by decide +kernel
theorem tyX7_ok : ∀ k, k < 15 → parseFieldDescriptor (TX7 k).2.2.1 = some (tyX7 k) := by decide +kernel
abbrev cX7_init : ByteArray := prog_1_method_1_code
def yX7_init : MethodName := ⟨RX7, "<init>", "()V"⟩
abbrev cX7_feed : ByteArray := prog_1_method_2_code
def yX7_feed : MethodName := ⟨RX7, "feed", "(IIIII)I"⟩
abbrev cX7_isOnTape : ByteArray := prog_1_method_3_code
def yX7_isOnTape : MethodName := ⟨RX7, "isOnTape", "(I)Z"⟩
abbrev cX7_take : ByteArray := prog_1_method_4_code
def yX7_take : MethodName := ⟨RX7, "take", "(I)V"⟩
abbrev cX7_takesName : ByteArray := prog_1_method_5_code
def yX7_takesName : MethodName := ⟨RX7, "takesName", "(I)Z"⟩
abbrev cX7_takesWord : ByteArray := prog_1_method_6_code
def yX7_takesWord : MethodName := ⟨RX7, "takesWord", "(I)Z"⟩
abbrev cX7_scope : ByteArray := prog_1_method_7_code
def yX7_scope : MethodName := ⟨RX7, "scope", "(I)I"⟩
abbrev cX7_thing : ByteArray := prog_1_method_8_code
def yX7_thing : MethodName := ⟨RX7, "thing", "(III)I"⟩
abbrev cX7_use : ByteArray := prog_1_method_9_code
def yX7_use : MethodName := ⟨RX7, "use", "(II)I"⟩
abbrev cX7_about : ByteArray := prog_1_method_10_code
def yX7_about : MethodName := ⟨RX7, "about", "(II)I"⟩
abbrev cX7_name : ByteArray := prog_1_method_11_code
def yX7_name : MethodName := ⟨RX7, "name", "(II)I"⟩
abbrev cX7_means : ByteArray := prog_1_method_12_code
def yX7_means : MethodName := ⟨RX7, "means", "(II)I"⟩
abbrev cX7_find : ByteArray := prog_1_method_13_code
def yX7_find : MethodName := ⟨RX7, "find", "(II)I"⟩
abbrev cX7_isKind : ByteArray := prog_1_method_14_code
def yX7_isKind : MethodName := ⟨RX7, "isKind", "(I)Z"⟩
abbrev cX7_isNameOfOther : ByteArray := prog_1_method_15_code
def yX7_isNameOfOther : MethodName := ⟨RX7, "isNameOfOther", "(IILNameHouse$Text;Z)Z"⟩
abbrev cX7_wouldCatchUse : ByteArray := prog_1_method_16_code
def yX7_wouldCatchUse : MethodName := ⟨RX7, "wouldCatchUse", "(ILNameHouse$Text;Z)Z"⟩
abbrev cX7_nameNowOrThen : ByteArray := prog_1_method_17_code
def yX7_nameNowOrThen : MethodName := ⟨RX7, "nameNowOrThen", "(IZ)LNameHouse$Text;"⟩
abbrev cX7_thingMeant : ByteArray := prog_1_method_18_code
def yX7_thingMeant : MethodName := ⟨RX7, "thingMeant", "(ILNameHouse$Text;Z)I"⟩
abbrev cX7_word : ByteArray := prog_1_method_19_code
def yX7_word : MethodName := ⟨RX7, "word", "(II)I"⟩
abbrev cX7_shorts : ByteArray := prog_1_method_20_code
def yX7_shorts : MethodName := ⟨RX7, "shorts", "(II)Z"⟩
abbrev cX7_alike : ByteArray := prog_1_method_21_code
def yX7_alike : MethodName := ⟨RX7, "alike", "(II)Z"⟩
abbrev cX7_told : ByteArray := prog_1_method_22_code
def yX7_told : MethodName := ⟨RX7, "told", "(II)I"⟩
abbrev cX7_part : ByteArray := prog_1_method_23_code
def yX7_part : MethodName := ⟨RX7, "part", "(II)I"⟩
abbrev cX7_way : ByteArray := prog_1_method_24_code
def yX7_way : MethodName := ⟨RX7, "way", "(I)I"⟩
abbrev cX7_odd : ByteArray := prog_1_method_25_code
def yX7_odd : MethodName := ⟨RX7, "odd", "(I)I"⟩
abbrev cX7_isOdd : ByteArray := prog_1_method_26_code
def yX7_isOdd : MethodName := ⟨RX7, "isOdd", "(I)I"⟩
abbrev cX7_mixed : ByteArray := prog_1_method_27_code
def yX7_mixed : MethodName := ⟨RX7, "mixed", "()I"⟩
abbrev cX7_strange : ByteArray := prog_1_method_28_code
def yX7_strange : MethodName := ⟨RX7, "strange", "()I"⟩
abbrev cX7_patternOf : ByteArray := prog_1_method_29_code
def yX7_patternOf : MethodName := ⟨RX7, "patternOf", "(I)I"⟩
abbrev cX7_wayOf : ByteArray := prog_1_method_30_code
def yX7_wayOf : MethodName := ⟨RX7, "wayOf", "(I)I"⟩
abbrev cX7_howOften : ByteArray := prog_1_method_31_code
def yX7_howOften : MethodName := ⟨RX7, "howOften", "(II)I"⟩
abbrev cX7_countUsed : ByteArray := prog_1_method_32_code
def yX7_countUsed : MethodName := ⟨RX7, "countUsed", "()V"⟩
abbrev cX7_offer : ByteArray := prog_1_method_33_code
def yX7_offer : MethodName := ⟨RX7, "offer", "(I)I"⟩
abbrev cX7_out : ByteArray := prog_1_method_34_code
def yX7_out : MethodName := ⟨RX7, "out", "(I)I"⟩
abbrev cX7_rename : ByteArray := prog_1_method_35_code
def yX7_rename : MethodName := ⟨RX7, "rename", "(II)I"⟩
abbrev cX7_renames : ByteArray := prog_1_method_36_code
def yX7_renames : MethodName := ⟨RX7, "renames", "()I"⟩
abbrev cX7_none : ByteArray := prog_1_method_37_code
def yX7_none : MethodName := ⟨RX7, "none", "()I"⟩
abbrev cX7_hinders : ByteArray := prog_1_method_38_code
def yX7_hinders : MethodName := ⟨RX7, "hinders", "()I"⟩
abbrev cX7_turn : ByteArray := prog_1_method_39_code
def yX7_turn : MethodName := ⟨RX7, "turn", "()I"⟩
abbrev cX7_back : ByteArray := prog_1_method_40_code
def yX7_back : MethodName := ⟨RX7, "back", "()I"⟩
abbrev cX7_keep : ByteArray := prog_1_method_41_code
def yX7_keep : MethodName := ⟨RX7, "keep", "()I"⟩
abbrev cX7_count : ByteArray := prog_1_method_42_code
def yX7_count : MethodName := ⟨RX7, "count", "(I)I"⟩
abbrev cX7_trouble : ByteArray := prog_1_method_43_code
def yX7_trouble : MethodName := ⟨RX7, "trouble", "()I"⟩
abbrev cX7_refused : ByteArray := prog_1_method_44_code
def yX7_refused : MethodName := ⟨RX7, "refused", "(I)I"⟩
abbrev cX7_accepted : ByteArray := prog_1_method_45_code
def yX7_accepted : MethodName := ⟨RX7, "accepted", "(I)I"⟩
abbrev cX7_draftsOffer : ByteArray := prog_1_method_46_code
def yX7_draftsOffer : MethodName := ⟨RX7, "draftsOffer", "(I)Z"⟩
abbrev cX7_writePart : ByteArray := prog_1_method_47_code
def yX7_writePart : MethodName := ⟨RX7, "writePart", "(IZZ)V"⟩
abbrev cX7_isSafe : ByteArray := prog_1_method_48_code
def yX7_isSafe : MethodName := ⟨RX7, "isSafe", "()Z"⟩
abbrev cX7_staysSafe : ByteArray := prog_1_method_49_code
def yX7_staysSafe : MethodName := ⟨RX7, "staysSafe", "(I)Z"⟩
abbrev cX7_firstDoubled : ByteArray := prog_1_method_50_code
def yX7_firstDoubled : MethodName := ⟨RX7, "firstDoubled", "()I"⟩
abbrev cX7_firstStrayed : ByteArray := prog_1_method_51_code
def yX7_firstStrayed : MethodName := ⟨RX7, "firstStrayed", "()I"⟩
abbrev cX7_isStrayed : ByteArray := prog_1_method_52_code
def yX7_isStrayed : MethodName := ⟨RX7, "isStrayed", "(I)Z"⟩
abbrev cX7_isSmall : ByteArray := prog_1_method_53_code
def yX7_isSmall : MethodName := ⟨RX7, "isSmall", "(I)Z"⟩
abbrev cX7_isGreat : ByteArray := prog_1_method_54_code
def yX7_isGreat : MethodName := ⟨RX7, "isGreat", "(I)Z"⟩
abbrev cX7_isDigit : ByteArray := prog_1_method_55_code
def yX7_isDigit : MethodName := ⟨RX7, "isDigit", "(I)Z"⟩
abbrev cX7_isLetter : ByteArray := prog_1_method_56_code
def yX7_isLetter : MethodName := ⟨RX7, "isLetter", "(I)Z"⟩
abbrev cX7_smallOf : ByteArray := prog_1_method_57_code
def yX7_smallOf : MethodName := ⟨RX7, "smallOf", "(I)I"⟩
abbrev cX7_greatOf : ByteArray := prog_1_method_58_code
def yX7_greatOf : MethodName := ⟨RX7, "greatOf", "(I)I"⟩
def RX8 : String := "NameHouseModel"
def TX8 : u_T := fun k => match k with
  | 0 => ("NameHouseModel", "thrown", "I", false)
  | 1 => ("NameHouseModel", "trouble", "I", false)
  | 2 => ("NameHouseModel", "tape", "[B", true)
  | 3 => ("NameHouseModel", "taped", "I", false)
  | 4 => ("NameHouseModel", "scopes", "I", false)
  | 5 => ("NameHouseModel", "things", "I", false)
  | 6 => ("NameHouseModel", "uses", "I", false)
  | 7 => ("NameHouseModel", "around", "[I", true)
  | 8 => ("NameHouseModel", "scopeOf", "[I", true)
  | 9 => ("NameHouseModel", "kindOf", "[I", true)
  | 10 => ("NameHouseModel", "size", "[I", true)
  | 11 => ("NameHouseModel", "useScope", "[I", true)
  | 12 => ("NameHouseModel", "useThing", "[I", true)
  | 13 => ("NameHouseModel", "name", "[B", true)
  | 14 => ("NameHouseModel", "partFrom", "[I", true)
  | 15 => ("NameHouseModel", "partTo", "[I", true)
  | 16 => ("NameHouseModel", "parts", "I", false)
  | 17 => ("NameHouseModel", "words", "I", false)
  | 18 => ("NameHouseModel", "word", "[B", true)
  | 19 => ("NameHouseModel", "wordSize", "[I", true)
  | 20 => ("NameHouseModel", "roles", "[I", true)
  | 21 => ("NameHouseModel", "shortFor", "[I", true)
  | 22 => ("NameHouseModel", "group", "[I", true)
  | 23 => ("NameHouseModel", "used", "[I", true)
  | 24 => ("NameHouseModel", "out", "[B", true)
  | 25 => ("NameHouseModel", "made", "[B", true)
  | 26 => ("NameHouseModel", "outs", "I", false)
  | 27 => ("NameHouseModel", "madeSize", "I", false)
  | 28 => ("NameHouseModel", "isRenamed", "[Z", true)
  | 29 => ("NameHouseModel", "isTaken", "[Z", true)
  | 30 => ("NameHouseModel", "renamed", "[B", true)
  | 31 => ("NameHouseModel", "then", "[B", true)
  | 32 => ("NameHouseModel", "past", "[B", true)
  | 33 => ("NameHouseModel", "renamedSize", "[I", true)
  | 34 => ("NameHouseModel", "thenSize", "[I", true)
  | 35 => ("NameHouseModel", "pastSize", "[I", true)
  | 36 => ("NameHouseModel", "canBack", "Z", false)
  | _ => ("NameHouseModel", "turned", "I", false)
def tyX8 : Nat → FieldType := fun k => match k with
  | 0 => .int
  | 1 => .int
  | 2 => .array .byte
  | 3 => .int
  | 4 => .int
  | 5 => .int
  | 6 => .int
  | 7 => .array .int
  | 8 => .array .int
  | 9 => .array .int
  | 10 => .array .int
  | 11 => .array .int
  | 12 => .array .int
  | 13 => .array .byte
  | 14 => .array .int
  | 15 => .array .int
  | 16 => .int
  | 17 => .int
  | 18 => .array .byte
  | 19 => .array .int
  | 20 => .array .int
  | 21 => .array .int
  | 22 => .array .int
  | 23 => .array .int
  | 24 => .array .byte
  | 25 => .array .byte
  | 26 => .int
  | 27 => .int
  | 28 => .array .boolean
  | 29 => .array .boolean
  | 30 => .array .byte
  | 31 => .array .byte
  | 32 => .array .byte
  | 33 => .array .int
  | 34 => .array .int
  | 35 => .array .int
  | 36 => .boolean
  | _ => .int
abbrev wsX80 : List Cond := u_ws RX8 TX8 38
theorem nmX8 : ∀ a, a < 38 → ∀ b, b < 38 → a ≠ b → (TX8 a).2.1 ≠ (TX8 b).2.1 := by decide +kernel
theorem tyX8_ok : ∀ k, k < 38 → parseFieldDescriptor (TX8 k).2.2.1 = some (tyX8 k) := by decide +kernel
abbrev cX8_thrown : ByteArray := prog_10_method_1_code
def yX8_thrown : MethodName := ⟨RX8, "thrown", "()I"⟩
abbrev cX8_refused : ByteArray := prog_10_method_2_code
def yX8_refused : MethodName := ⟨RX8, "refused", "(I)I"⟩
abbrev cX8_denied : ByteArray := prog_10_method_3_code
def yX8_denied : MethodName := ⟨RX8, "denied", "(I)Z"⟩
abbrev cX8_done : ByteArray := prog_10_method_4_code
def yX8_done : MethodName := ⟨RX8, "done", "(I)I"⟩
abbrev cX8_granted : ByteArray := prog_10_method_5_code
def yX8_granted : MethodName := ⟨RX8, "granted", "()Z"⟩
abbrev cX8_in : ByteArray := prog_10_method_6_code
def yX8_in : MethodName := ⟨RX8, "in", "(III)Z"⟩
abbrev cX8_feed : ByteArray := prog_10_method_7_code
def yX8_feed : MethodName := ⟨RX8, "feed", "(IIIII)I"⟩
abbrev cX8_isTaped : ByteArray := prog_10_method_8_code
def yX8_isTaped : MethodName := ⟨RX8, "isTaped", "(I)Z"⟩
abbrev cX8_isSmall : ByteArray := prog_10_method_9_code
def yX8_isSmall : MethodName := ⟨RX8, "isSmall", "(I)Z"⟩
abbrev cX8_isGreat : ByteArray := prog_10_method_10_code
def yX8_isGreat : MethodName := ⟨RX8, "isGreat", "(I)Z"⟩
abbrev cX8_isDigit : ByteArray := prog_10_method_11_code
def yX8_isDigit : MethodName := ⟨RX8, "isDigit", "(I)Z"⟩
abbrev cX8_isLetter : ByteArray := prog_10_method_12_code
def yX8_isLetter : MethodName := ⟨RX8, "isLetter", "(I)Z"⟩
abbrev cX8_isName : ByteArray := prog_10_method_13_code
def yX8_isName : MethodName := ⟨RX8, "isName", "([BII)Z"⟩
abbrev cX8_isSame : ByteArray := prog_10_method_14_code
def yX8_isSame : MethodName := ⟨RX8, "isSame", "([BII[BII)Z"⟩
abbrev cX8_init : ByteArray := prog_10_method_15_code
def yX8_init : MethodName := ⟨RX8, "<init>", "()V"⟩
abbrev cX8_isScope : ByteArray := prog_10_method_16_code
def yX8_isScope : MethodName := ⟨RX8, "isScope", "(I)Z"⟩
abbrev cX8_isThing : ByteArray := prog_10_method_17_code
def yX8_isThing : MethodName := ⟨RX8, "isThing", "(I)Z"⟩
abbrev cX8_scope : ByteArray := prog_10_method_18_code
def yX8_scope : MethodName := ⟨RX8, "scope", "(I)I"⟩
abbrev cX8_meaningOf : ByteArray := prog_10_method_19_code
def yX8_meaningOf : MethodName := ⟨RX8, "meaningOf", "(I[BII[B[I)I"⟩
abbrev cX8_takesUse : ByteArray := prog_10_method_20_code
def yX8_takesUse : MethodName := ⟨RX8, "takesUse", "(II)Z"⟩
abbrev cX8_thing : ByteArray := prog_10_method_21_code
def yX8_thing : MethodName := ⟨RX8, "thing", "(III)I"⟩
abbrev cX8_use : ByteArray := prog_10_method_22_code
def yX8_use : MethodName := ⟨RX8, "use", "(II)I"⟩
abbrev cX8_find : ByteArray := prog_10_method_23_code
def yX8_find : MethodName := ⟨RX8, "find", "(II)I"⟩
abbrev cX8_means : ByteArray := prog_10_method_24_code
def yX8_means : MethodName := ⟨RX8, "means", "(II)I"⟩
abbrev cX8_name : ByteArray := prog_10_method_25_code
def yX8_name : MethodName := ⟨RX8, "name", "(II)I"⟩
abbrev cX8_cuts : ByteArray := prog_10_method_26_code
def yX8_cuts : MethodName := ⟨RX8, "cuts", "(I)V"⟩
abbrev cX8_styleOf : ByteArray := prog_10_method_27_code
def yX8_styleOf : MethodName := ⟨RX8, "styleOf", "(I)I"⟩
abbrev cX8_low : ByteArray := prog_10_method_28_code
def yX8_low : MethodName := ⟨RX8, "low", "(I)I"⟩
abbrev cX8_isWord : ByteArray := prog_10_method_29_code
def yX8_isWord : MethodName := ⟨RX8, "isWord", "(I)Z"⟩
abbrev cX8_word : ByteArray := prog_10_method_30_code
def yX8_word : MethodName := ⟨RX8, "word", "(II)I"⟩
abbrev cX8_shorts : ByteArray := prog_10_method_31_code
def yX8_shorts : MethodName := ⟨RX8, "shorts", "(II)Z"⟩
abbrev cX8_alike : ByteArray := prog_10_method_32_code
def yX8_alike : MethodName := ⟨RX8, "alike", "(II)Z"⟩
abbrev cX8_wordOf : ByteArray := prog_10_method_33_code
def yX8_wordOf : MethodName := ⟨RX8, "wordOf", "(II)I"⟩
abbrev cX8_opened : ByteArray := prog_10_method_34_code
def yX8_opened : MethodName := ⟨RX8, "opened", "(I)I"⟩
abbrev cX8_counts : ByteArray := prog_10_method_35_code
def yX8_counts : MethodName := ⟨RX8, "counts", "()V"⟩
abbrev cX8_headOf : ByteArray := prog_10_method_36_code
def yX8_headOf : MethodName := ⟨RX8, "headOf", "(I)I"⟩
abbrev cX8_groupSize : ByteArray := prog_10_method_37_code
def yX8_groupSize : MethodName := ⟨RX8, "groupSize", "(I)I"⟩
abbrev cX8_told : ByteArray := prog_10_method_38_code
def yX8_told : MethodName := ⟨RX8, "told", "(II)I"⟩
abbrev cX8_part : ByteArray := prog_10_method_39_code
def yX8_part : MethodName := ⟨RX8, "part", "(II)I"⟩
abbrev cX8_patternOf : ByteArray := prog_10_method_40_code
def yX8_patternOf : MethodName := ⟨RX8, "patternOf", "(I)I"⟩
abbrev cX8_about : ByteArray := prog_10_method_41_code
def yX8_about : MethodName := ⟨RX8, "about", "(II)I"⟩
abbrev cX8_wayOf : ByteArray := prog_10_method_42_code
def yX8_wayOf : MethodName := ⟨RX8, "wayOf", "(I)I"⟩
abbrev cX8_way : ByteArray := prog_10_method_43_code
def yX8_way : MethodName := ⟨RX8, "way", "(I)I"⟩
abbrev cX8_odd : ByteArray := prog_10_method_44_code
def yX8_odd : MethodName := ⟨RX8, "odd", "(I)I"⟩
abbrev cX8_isOdd : ByteArray := prog_10_method_45_code
def yX8_isOdd : MethodName := ⟨RX8, "isOdd", "(I)I"⟩
abbrev cX8_mixed : ByteArray := prog_10_method_46_code
def yX8_mixed : MethodName := ⟨RX8, "mixed", "()I"⟩
abbrev cX8_strange : ByteArray := prog_10_method_47_code
def yX8_strange : MethodName := ⟨RX8, "strange", "()I"⟩
abbrev cX8_makes : ByteArray := prog_10_method_48_code
def yX8_makes : MethodName := ⟨RX8, "makes", "(IZ)V"⟩
abbrev cX8_offers : ByteArray := prog_10_method_49_code
def yX8_offers : MethodName := ⟨RX8, "offers", "(I)Z"⟩
abbrev cX8_offer : ByteArray := prog_10_method_50_code
def yX8_offer : MethodName := ⟨RX8, "offer", "(I)I"⟩
abbrev cX8_out : ByteArray := prog_10_method_51_code
def yX8_out : MethodName := ⟨RX8, "out", "(I)I"⟩
abbrev cX8_renameMany : ByteArray := prog_10_method_52_code
def yX8_renameMany : MethodName := ⟨RX8, "renameMany", "()I"⟩
abbrev cX8_rename : ByteArray := prog_10_method_53_code
def yX8_rename : MethodName := ⟨RX8, "rename", "(II)I"⟩
abbrev cX8_renames : ByteArray := prog_10_method_54_code
def yX8_renames : MethodName := ⟨RX8, "renames", "()I"⟩
abbrev cX8_none : ByteArray := prog_10_method_55_code
def yX8_none : MethodName := ⟨RX8, "none", "()I"⟩
abbrev cX8_hindersTaken : ByteArray := prog_10_method_56_code
def yX8_hindersTaken : MethodName := ⟨RX8, "hindersTaken", "()I"⟩
abbrev cX8_hindersAll : ByteArray := prog_10_method_57_code
def yX8_hindersAll : MethodName := ⟨RX8, "hindersAll", "()I"⟩
abbrev cX8_hinders : ByteArray := prog_10_method_58_code
def yX8_hinders : MethodName := ⟨RX8, "hinders", "()I"⟩
abbrev cX8_turn : ByteArray := prog_10_method_59_code
def yX8_turn : MethodName := ⟨RX8, "turn", "()I"⟩
abbrev cX8_back : ByteArray := prog_10_method_60_code
def yX8_back : MethodName := ⟨RX8, "back", "()I"⟩
abbrev cX8_keep : ByteArray := prog_10_method_61_code
def yX8_keep : MethodName := ⟨RX8, "keep", "()I"⟩
abbrev cX8_count : ByteArray := prog_10_method_62_code
def yX8_count : MethodName := ⟨RX8, "count", "(I)I"⟩
abbrev cX8_trouble : ByteArray := prog_10_method_63_code
def yX8_trouble : MethodName := ⟨RX8, "trouble", "()I"⟩
def RJ9 : String := "java/lang/Math"
def TJ9 : u_T := fun k => match k with
  | _ => ("", "", "", false)
def tyJ9 : Nat → FieldType := fun k => match k with
  | _ => .int
abbrev wsJ90 : List Cond := u_ws RJ9 TJ9 0
theorem nmJ9 : ∀ a, a < 0 → ∀ b, b < 0 → a ≠ b → (TJ9 a).2.1 ≠ (TJ9 b).2.1 := by decide +kernel
theorem tyJ9_ok : ∀ k, k < 0 → parseFieldDescriptor (TJ9 k).2.2.1 = some (tyJ9 k) := by decide +kernel
abbrev cJ9_min_7cf53 : ByteArray := prog_12_method_69_code
def yJ9_min_7cf53 : MethodName := ⟨RJ9, "min", "(II)I"⟩
def RJ0 : String := "java/lang/String"
def TJ0 : u_T := fun k => match k with
  | _ => ("", "", "", false)
def tyJ0 : Nat → FieldType := fun k => match k with
  | _ => .int
abbrev wsJ00 : List Cond := u_ws RJ0 TJ0 0
theorem nmJ0 : ∀ a, a < 0 → ∀ b, b < 0 → a ≠ b → (TJ0 a).2.1 ≠ (TJ0 b).2.1 := by decide +kernel
theorem tyJ0_ok : ∀ k, k < 0 → parseFieldDescriptor (TJ0 k).2.2.1 = some (tyJ0 k) := by decide +kernel
def RL : String := "NameHouseLaw"
abbrev cL_name : ByteArray := method_3_code
def yL_name : MethodName := ⟨RL, "name", "(LNameHouse;II[J)I"⟩
abbrev cL_out : ByteArray := method_4_code
def yL_out : MethodName := ⟨RL, "out", "(LNameHouse;I[J)I"⟩
abbrev cL_law : ByteArray := code
def yL_law : MethodName := ⟨RL, "law", "([I)Z"⟩
abbrev vwCl : List vw_C := [(RX0, TX0, 6), (RX1, TX1, 4), (RX2, TX2, 3), (RX3, TX3, 2), (RX4, TX4, 3), (RX5, TX5, 4), (RX6, TX6, 3), (RX7, TX7, 15), (RX8, TX8, 38)]
end
section
theorem dX0_init_0 : decode cX0_init 0 = .ok (.aload_n 0, 1) := by decide +kernel
theorem dX0_init_1 : decode cX0_init 1 = .ok (.invokespecial 3, 3) := by decide +kernel
theorem dX0_init_4 : decode cX0_init 4 = .ok (.aload_n 0, 1) := by decide +kernel
theorem dX0_init_5 : decode cX0_init 5 = .ok (.bipush 60, 2) := by decide +kernel
theorem dX0_init_7 : decode cX0_init 7 = .ok (.newarray .long, 2) := by decide +kernel
theorem dX0_init_9 : decode cX0_init 9 = .ok (.putfield 9, 3) := by decide +kernel
theorem dX0_init_12 : decode cX0_init 12 = .ok (.aload_n 0, 1) := by decide +kernel
theorem dX0_init_13 : decode cX0_init 13 = .ok (.bipush 60, 2) := by decide +kernel
theorem dX0_init_15 : decode cX0_init 15 = .ok (.newarray .int, 2) := by decide +kernel
theorem dX0_init_17 : decode cX0_init 17 = .ok (.putfield 15, 3) := by decide +kernel
theorem dX0_init_20 : decode cX0_init 20 = .ok (.aload_n 0, 1) := by decide +kernel
theorem dX0_init_21 : decode cX0_init 21 = .ok (.bipush 60, 2) := by decide +kernel
theorem dX0_init_23 : decode cX0_init 23 = .ok (.newarray .int, 2) := by decide +kernel
theorem dX0_init_25 : decode cX0_init 25 = .ok (.putfield 19, 3) := by decide +kernel
theorem dX0_init_28 : decode cX0_init 28 = .ok (.aload_n 0, 1) := by decide +kernel
theorem dX0_init_29 : decode cX0_init 29 = .ok (.bipush 60, 2) := by decide +kernel
theorem dX0_init_31 : decode cX0_init 31 = .ok (.newarray .int, 2) := by decide +kernel
theorem dX0_init_33 : decode cX0_init 33 = .ok (.putfield 22, 3) := by decide +kernel
theorem dX0_init_36 : decode cX0_init 36 = .ok (.aload_n 0, 1) := by decide +kernel
theorem dX0_init_37 : decode cX0_init 37 = .ok (.bipush 60, 2) := by decide +kernel
theorem dX0_init_39 : decode cX0_init 39 = .ok (.newarray .int, 2) := by decide +kernel
theorem dX0_init_41 : decode cX0_init 41 = .ok (.putfield 25, 3) := by decide +kernel
theorem dX0_init_44 : decode cX0_init 44 = .ok (.aload_n 0, 1) := by decide +kernel
theorem dX0_init_45 : decode cX0_init 45 = .ok (.iconst 0, 1) := by decide +kernel
theorem dX0_init_46 : decode cX0_init 46 = .ok (.putfield 28, 3) := by decide +kernel
theorem dX0_init_49 : decode cX0_init 49 = .ok (.return_, 1) := by decide +kernel
theorem dX0_size_0 : decode cX0_size 0 = .ok (.aload_n 0, 1) := by decide +kernel
theorem dX0_size_1 : decode cX0_size 1 = .ok (.getfield 28, 3) := by decide +kernel
theorem dX0_size_4 : decode cX0_size 4 = .ok (.ireturn, 1) := by decide +kernel
theorem dX0_isFull_0 : decode cX0_isFull 0 = .ok (.aload_n 0, 1) := by decide +kernel
theorem dX0_isFull_1 : decode cX0_isFull 1 = .ok (.getfield 28, 3) := by decide +kernel
theorem dX0_isFull_4 : decode cX0_isFull 4 = .ok (.bipush 60, 2) := by decide +kernel
theorem dX0_isFull_6 : decode cX0_isFull 6 = .ok (.if_icmp .lt 7, 3) := by decide +kernel
theorem dX0_isFull_9 : decode cX0_isFull 9 = .ok (.iconst 1, 1) := by decide +kernel
theorem dX0_isFull_10 : decode cX0_isFull 10 = .ok (.goto 4, 3) := by decide +kernel
theorem dX0_isFull_13 : decode cX0_isFull 13 = .ok (.iconst 0, 1) := by decide +kernel
theorem dX0_isFull_14 : decode cX0_isFull 14 = .ok (.ireturn, 1) := by decide +kernel
theorem dX0_has_0 : decode cX0_has 0 = .ok (.iload_n 1, 1) := by decide +kernel
theorem dX0_has_1 : decode cX0_has 1 = .ok (.ifCond .lt 15, 3) := by decide +kernel
theorem dX0_has_4 : decode cX0_has 4 = .ok (.iload_n 1, 1) := by decide +kernel
theorem dX0_has_5 : decode cX0_has 5 = .ok (.aload_n 0, 1) := by decide +kernel
theorem dX0_has_6 : decode cX0_has 6 = .ok (.getfield 28, 3) := by decide +kernel
theorem dX0_has_9 : decode cX0_has 9 = .ok (.if_icmp .ge 7, 3) := by decide +kernel
theorem dX0_has_12 : decode cX0_has 12 = .ok (.iconst 1, 1) := by decide +kernel
theorem dX0_has_13 : decode cX0_has 13 = .ok (.goto 4, 3) := by decide +kernel
theorem dX0_has_16 : decode cX0_has 16 = .ok (.iconst 0, 1) := by decide +kernel
theorem dX0_has_17 : decode cX0_has 17 = .ok (.ireturn, 1) := by decide +kernel
theorem dX0_add_0 : decode cX0_add 0 = .ok (.aload_n 0, 1) := by decide +kernel
theorem dX0_add_1 : decode cX0_add 1 = .ok (.invokevirtual 32, 3) := by decide +kernel
theorem dX0_add_4 : decode cX0_add 4 = .ok (.ifCond .eq 5, 3) := by decide +kernel
theorem dX0_add_7 : decode cX0_add 7 = .ok (.iconst (-1), 1) := by decide +kernel
theorem dX0_add_8 : decode cX0_add 8 = .ok (.ireturn, 1) := by decide +kernel
theorem dX0_add_9 : decode cX0_add 9 = .ok (.aload_n 0, 1) := by decide +kernel
theorem dX0_add_10 : decode cX0_add 10 = .ok (.getfield 28, 3) := by decide +kernel
theorem dX0_add_13 : decode cX0_add 13 = .ok (.istore 4, 2) := by decide +kernel
theorem dX0_add_15 : decode cX0_add 15 = .ok (.aload_n 0, 1) := by decide +kernel
theorem dX0_add_16 : decode cX0_add 16 = .ok (.getfield 9, 3) := by decide +kernel
theorem dX0_add_19 : decode cX0_add 19 = .ok (.iload 4, 2) := by decide +kernel
theorem dX0_add_21 : decode cX0_add 21 = .ok (.lload_n 1, 1) := by decide +kernel
theorem dX0_add_22 : decode cX0_add 22 = .ok (.lastore, 1) := by decide +kernel
theorem dX0_add_23 : decode cX0_add 23 = .ok (.aload_n 0, 1) := by decide +kernel
theorem dX0_add_24 : decode cX0_add 24 = .ok (.getfield 15, 3) := by decide +kernel
theorem dX0_add_27 : decode cX0_add 27 = .ok (.iload 4, 2) := by decide +kernel
theorem dX0_add_29 : decode cX0_add 29 = .ok (.iload_n 3, 1) := by decide +kernel
theorem dX0_add_30 : decode cX0_add 30 = .ok (.iastore, 1) := by decide +kernel
theorem dX0_add_31 : decode cX0_add 31 = .ok (.aload_n 0, 1) := by decide +kernel
theorem dX0_add_32 : decode cX0_add 32 = .ok (.getfield 19, 3) := by decide +kernel
theorem dX0_add_35 : decode cX0_add 35 = .ok (.iload 4, 2) := by decide +kernel
theorem dX0_add_37 : decode cX0_add 37 = .ok (.iconst (-1), 1) := by decide +kernel
theorem dX0_add_38 : decode cX0_add 38 = .ok (.iastore, 1) := by decide +kernel
theorem dX0_add_39 : decode cX0_add 39 = .ok (.aload_n 0, 1) := by decide +kernel
theorem dX0_add_40 : decode cX0_add 40 = .ok (.getfield 22, 3) := by decide +kernel
theorem dX0_add_43 : decode cX0_add 43 = .ok (.iload 4, 2) := by decide +kernel
theorem dX0_add_45 : decode cX0_add 45 = .ok (.iload 4, 2) := by decide +kernel
theorem dX0_add_47 : decode cX0_add 47 = .ok (.iastore, 1) := by decide +kernel
theorem dX0_add_48 : decode cX0_add 48 = .ok (.aload_n 0, 1) := by decide +kernel
theorem dX0_add_49 : decode cX0_add 49 = .ok (.dup, 1) := by decide +kernel
theorem dX0_add_50 : decode cX0_add 50 = .ok (.getfield 28, 3) := by decide +kernel
theorem dX0_add_53 : decode cX0_add 53 = .ok (.iconst 1, 1) := by decide +kernel
theorem dX0_add_54 : decode cX0_add 54 = .ok (.iadd, 1) := by decide +kernel
theorem dX0_add_55 : decode cX0_add 55 = .ok (.putfield 28, 3) := by decide +kernel
theorem dX0_add_58 : decode cX0_add 58 = .ok (.iload 4, 2) := by decide +kernel
theorem dX0_add_60 : decode cX0_add 60 = .ok (.ireturn, 1) := by decide +kernel
theorem dX0_numberOf_0 : decode cX0_numberOf 0 = .ok (.iconst 0, 1) := by decide +kernel
theorem dX0_numberOf_1 : decode cX0_numberOf 1 = .ok (.istore_n 3, 1) := by decide +kernel
theorem dX0_numberOf_2 : decode cX0_numberOf 2 = .ok (.iload_n 3, 1) := by decide +kernel
theorem dX0_numberOf_3 : decode cX0_numberOf 3 = .ok (.aload_n 0, 1) := by decide +kernel
theorem dX0_numberOf_4 : decode cX0_numberOf 4 = .ok (.getfield 28, 3) := by decide +kernel
theorem dX0_numberOf_7 : decode cX0_numberOf 7 = .ok (.if_icmp .ge 22, 3) := by decide +kernel
theorem dX0_numberOf_10 : decode cX0_numberOf 10 = .ok (.aload_n 0, 1) := by decide +kernel
theorem dX0_numberOf_11 : decode cX0_numberOf 11 = .ok (.getfield 9, 3) := by decide +kernel
theorem dX0_numberOf_14 : decode cX0_numberOf 14 = .ok (.iload_n 3, 1) := by decide +kernel
theorem dX0_numberOf_15 : decode cX0_numberOf 15 = .ok (.laload, 1) := by decide +kernel
theorem dX0_numberOf_16 : decode cX0_numberOf 16 = .ok (.lload_n 1, 1) := by decide +kernel
theorem dX0_numberOf_17 : decode cX0_numberOf 17 = .ok (.lcmp, 1) := by decide +kernel
theorem dX0_numberOf_18 : decode cX0_numberOf 18 = .ok (.ifCond .ne 5, 3) := by decide +kernel
theorem dX0_numberOf_21 : decode cX0_numberOf 21 = .ok (.iload_n 3, 1) := by decide +kernel
theorem dX0_numberOf_22 : decode cX0_numberOf 22 = .ok (.ireturn, 1) := by decide +kernel
theorem dX0_numberOf_23 : decode cX0_numberOf 23 = .ok (.iinc 3 1, 3) := by decide +kernel
theorem dX0_numberOf_26 : decode cX0_numberOf 26 = .ok (.goto (-24), 3) := by decide +kernel
theorem dX0_numberOf_29 : decode cX0_numberOf 29 = .ok (.bipush (-2), 2) := by decide +kernel
theorem dX0_numberOf_31 : decode cX0_numberOf 31 = .ok (.ireturn, 1) := by decide +kernel
theorem dX0_lengthOf_0 : decode cX0_lengthOf 0 = .ok (.aload_n 0, 1) := by decide +kernel
theorem dX0_lengthOf_1 : decode cX0_lengthOf 1 = .ok (.iload_n 1, 1) := by decide +kernel
theorem dX0_lengthOf_2 : decode cX0_lengthOf 2 = .ok (.invokevirtual 36, 3) := by decide +kernel
theorem dX0_lengthOf_5 : decode cX0_lengthOf 5 = .ok (.ifCond .eq 12, 3) := by decide +kernel
theorem dX0_lengthOf_8 : decode cX0_lengthOf 8 = .ok (.aload_n 0, 1) := by decide +kernel
theorem dX0_lengthOf_9 : decode cX0_lengthOf 9 = .ok (.getfield 9, 3) := by decide +kernel
theorem dX0_lengthOf_12 : decode cX0_lengthOf 12 = .ok (.iload_n 1, 1) := by decide +kernel
theorem dX0_lengthOf_13 : decode cX0_lengthOf 13 = .ok (.laload, 1) := by decide +kernel
theorem dX0_lengthOf_14 : decode cX0_lengthOf 14 = .ok (.goto 4, 3) := by decide +kernel
theorem dX0_lengthOf_17 : decode cX0_lengthOf 17 = .ok (.lconst 0, 1) := by decide +kernel
theorem dX0_lengthOf_18 : decode cX0_lengthOf 18 = .ok (.lstore_n 2, 1) := by decide +kernel
theorem dX0_lengthOf_19 : decode cX0_lengthOf 19 = .ok (.iconst 0, 1) := by decide +kernel
theorem dX0_lengthOf_20 : decode cX0_lengthOf 20 = .ok (.istore 4, 2) := by decide +kernel
theorem dX0_lengthOf_22 : decode cX0_lengthOf 22 = .ok (.iconst 0, 1) := by decide +kernel
theorem dX0_lengthOf_23 : decode cX0_lengthOf 23 = .ok (.istore 5, 2) := by decide +kernel
theorem dX0_lengthOf_25 : decode cX0_lengthOf 25 = .ok (.iload 5, 2) := by decide +kernel
theorem dX0_lengthOf_27 : decode cX0_lengthOf 27 = .ok (.bipush 12, 2) := by decide +kernel
theorem dX0_lengthOf_29 : decode cX0_lengthOf 29 = .ok (.if_icmp .ge 22, 3) := by decide +kernel
theorem dX0_lengthOf_32 : decode cX0_lengthOf 32 = .ok (.lload_n 2, 1) := by decide +kernel
theorem dX0_lengthOf_33 : decode cX0_lengthOf 33 = .ok (.lconst 0, 1) := by decide +kernel
theorem dX0_lengthOf_34 : decode cX0_lengthOf 34 = .ok (.lcmp, 1) := by decide +kernel
theorem dX0_lengthOf_35 : decode cX0_lengthOf 35 = .ok (.ifCond .eq 16, 3) := by decide +kernel
theorem dX0_lengthOf_38 : decode cX0_lengthOf 38 = .ok (.lload_n 2, 1) := by decide +kernel
theorem dX0_lengthOf_39 : decode cX0_lengthOf 39 = .ok (.iconst 5, 1) := by decide +kernel
theorem dX0_lengthOf_40 : decode cX0_lengthOf 40 = .ok (.lshr, 1) := by decide +kernel
theorem dX0_lengthOf_41 : decode cX0_lengthOf 41 = .ok (.lstore_n 2, 1) := by decide +kernel
theorem dX0_lengthOf_42 : decode cX0_lengthOf 42 = .ok (.iinc 4 1, 3) := by decide +kernel
theorem dX0_lengthOf_45 : decode cX0_lengthOf 45 = .ok (.iinc 5 1, 3) := by decide +kernel
theorem dX0_lengthOf_48 : decode cX0_lengthOf 48 = .ok (.goto (-23), 3) := by decide +kernel
theorem dX0_lengthOf_51 : decode cX0_lengthOf 51 = .ok (.iload 4, 2) := by decide +kernel
theorem dX0_lengthOf_53 : decode cX0_lengthOf 53 = .ok (.ireturn, 1) := by decide +kernel
theorem dX0_letterOf_0 : decode cX0_letterOf 0 = .ok (.aload_n 0, 1) := by decide +kernel
theorem dX0_letterOf_1 : decode cX0_letterOf 1 = .ok (.iload_n 1, 1) := by decide +kernel
theorem dX0_letterOf_2 : decode cX0_letterOf 2 = .ok (.invokevirtual 40, 3) := by decide +kernel
theorem dX0_letterOf_5 : decode cX0_letterOf 5 = .ok (.iconst 1, 1) := by decide +kernel
theorem dX0_letterOf_6 : decode cX0_letterOf 6 = .ok (.isub, 1) := by decide +kernel
theorem dX0_letterOf_7 : decode cX0_letterOf 7 = .ok (.iload_n 2, 1) := by decide +kernel
theorem dX0_letterOf_8 : decode cX0_letterOf 8 = .ok (.isub, 1) := by decide +kernel
theorem dX0_letterOf_9 : decode cX0_letterOf 9 = .ok (.istore_n 3, 1) := by decide +kernel
theorem dX0_letterOf_10 : decode cX0_letterOf 10 = .ok (.aload_n 0, 1) := by decide +kernel
theorem dX0_letterOf_11 : decode cX0_letterOf 11 = .ok (.iload_n 1, 1) := by decide +kernel
theorem dX0_letterOf_12 : decode cX0_letterOf 12 = .ok (.invokevirtual 36, 3) := by decide +kernel
theorem dX0_letterOf_15 : decode cX0_letterOf 15 = .ok (.ifCond .eq 11, 3) := by decide +kernel
theorem dX0_letterOf_18 : decode cX0_letterOf 18 = .ok (.iload_n 2, 1) := by decide +kernel
theorem dX0_letterOf_19 : decode cX0_letterOf 19 = .ok (.ifCond .lt 7, 3) := by decide +kernel
theorem dX0_letterOf_22 : decode cX0_letterOf 22 = .ok (.iload_n 3, 1) := by decide +kernel
theorem dX0_letterOf_23 : decode cX0_letterOf 23 = .ok (.ifCond .ge 5, 3) := by decide +kernel
theorem dX0_letterOf_26 : decode cX0_letterOf 26 = .ok (.iconst 0, 1) := by decide +kernel
theorem dX0_letterOf_27 : decode cX0_letterOf 27 = .ok (.ireturn, 1) := by decide +kernel
theorem dX0_letterOf_28 : decode cX0_letterOf 28 = .ok (.bipush 96, 2) := by decide +kernel
theorem dX0_letterOf_30 : decode cX0_letterOf 30 = .ok (.aload_n 0, 1) := by decide +kernel
theorem dX0_letterOf_31 : decode cX0_letterOf 31 = .ok (.getfield 9, 3) := by decide +kernel
theorem dX0_letterOf_34 : decode cX0_letterOf 34 = .ok (.iload_n 1, 1) := by decide +kernel
theorem dX0_letterOf_35 : decode cX0_letterOf 35 = .ok (.laload, 1) := by decide +kernel
theorem dX0_letterOf_36 : decode cX0_letterOf 36 = .ok (.iconst 5, 1) := by decide +kernel
theorem dX0_letterOf_37 : decode cX0_letterOf 37 = .ok (.iload_n 3, 1) := by decide +kernel
theorem dX0_letterOf_38 : decode cX0_letterOf 38 = .ok (.imul, 1) := by decide +kernel
theorem dX0_letterOf_39 : decode cX0_letterOf 39 = .ok (.lshr, 1) := by decide +kernel
theorem dX0_letterOf_40 : decode cX0_letterOf 40 = .ok (.ldc2_w 44, 3) := by decide +kernel
theorem dX0_letterOf_43 : decode cX0_letterOf 43 = .ok (.land, 1) := by decide +kernel
theorem dX0_letterOf_44 : decode cX0_letterOf 44 = .ok (.l2i, 1) := by decide +kernel
theorem dX0_letterOf_45 : decode cX0_letterOf 45 = .ok (.iadd, 1) := by decide +kernel
theorem dX0_letterOf_46 : decode cX0_letterOf 46 = .ok (.ireturn, 1) := by decide +kernel
theorem dX0_rolesOf_0 : decode cX0_rolesOf 0 = .ok (.aload_n 0, 1) := by decide +kernel
theorem dX0_rolesOf_1 : decode cX0_rolesOf 1 = .ok (.iload_n 1, 1) := by decide +kernel
theorem dX0_rolesOf_2 : decode cX0_rolesOf 2 = .ok (.invokevirtual 36, 3) := by decide +kernel
theorem dX0_rolesOf_5 : decode cX0_rolesOf 5 = .ok (.ifCond .eq 12, 3) := by decide +kernel
theorem dX0_rolesOf_8 : decode cX0_rolesOf 8 = .ok (.aload_n 0, 1) := by decide +kernel
theorem dX0_rolesOf_9 : decode cX0_rolesOf 9 = .ok (.getfield 15, 3) := by decide +kernel
theorem dX0_rolesOf_12 : decode cX0_rolesOf 12 = .ok (.iload_n 1, 1) := by decide +kernel
theorem dX0_rolesOf_13 : decode cX0_rolesOf 13 = .ok (.iaload, 1) := by decide +kernel
theorem dX0_rolesOf_14 : decode cX0_rolesOf 14 = .ok (.goto 4, 3) := by decide +kernel
theorem dX0_rolesOf_17 : decode cX0_rolesOf 17 = .ok (.iconst 0, 1) := by decide +kernel
theorem dX0_rolesOf_18 : decode cX0_rolesOf 18 = .ok (.ireturn, 1) := by decide +kernel
theorem dX0_roleOf_0 : decode cX0_roleOf 0 = .ok (.aload_n 0, 1) := by decide +kernel
theorem dX0_roleOf_1 : decode cX0_roleOf 1 = .ok (.iload_n 1, 1) := by decide +kernel
theorem dX0_roleOf_2 : decode cX0_roleOf 2 = .ok (.invokevirtual 46, 3) := by decide +kernel
theorem dX0_roleOf_5 : decode cX0_roleOf 5 = .ok (.istore_n 2, 1) := by decide +kernel
theorem dX0_roleOf_6 : decode cX0_roleOf 6 = .ok (.iload_n 2, 1) := by decide +kernel
theorem dX0_roleOf_7 : decode cX0_roleOf 7 = .ok (.iload_n 2, 1) := by decide +kernel
theorem dX0_roleOf_8 : decode cX0_roleOf 8 = .ok (.ineg, 1) := by decide +kernel
theorem dX0_roleOf_9 : decode cX0_roleOf 9 = .ok (.iand, 1) := by decide +kernel
theorem dX0_roleOf_10 : decode cX0_roleOf 10 = .ok (.ireturn, 1) := by decide +kernel
theorem dX0_shortFor_0 : decode cX0_shortFor 0 = .ok (.aload_n 0, 1) := by decide +kernel
theorem dX0_shortFor_1 : decode cX0_shortFor 1 = .ok (.iload_n 1, 1) := by decide +kernel
theorem dX0_shortFor_2 : decode cX0_shortFor 2 = .ok (.invokevirtual 36, 3) := by decide +kernel
theorem dX0_shortFor_5 : decode cX0_shortFor 5 = .ok (.ifCond .eq 12, 3) := by decide +kernel
theorem dX0_shortFor_8 : decode cX0_shortFor 8 = .ok (.aload_n 0, 1) := by decide +kernel
theorem dX0_shortFor_9 : decode cX0_shortFor 9 = .ok (.getfield 19, 3) := by decide +kernel
theorem dX0_shortFor_12 : decode cX0_shortFor 12 = .ok (.iload_n 1, 1) := by decide +kernel
theorem dX0_shortFor_13 : decode cX0_shortFor 13 = .ok (.iaload, 1) := by decide +kernel
theorem dX0_shortFor_14 : decode cX0_shortFor 14 = .ok (.goto 4, 3) := by decide +kernel
theorem dX0_shortFor_17 : decode cX0_shortFor 17 = .ok (.iconst (-1), 1) := by decide +kernel
theorem dX0_shortFor_18 : decode cX0_shortFor 18 = .ok (.ireturn, 1) := by decide +kernel
theorem dX0_setShort_0 : decode cX0_setShort 0 = .ok (.aload_n 0, 1) := by decide +kernel
theorem dX0_setShort_1 : decode cX0_setShort 1 = .ok (.iload_n 1, 1) := by decide +kernel
theorem dX0_setShort_2 : decode cX0_setShort 2 = .ok (.invokevirtual 36, 3) := by decide +kernel
theorem dX0_setShort_5 : decode cX0_setShort 5 = .ok (.ifCond .eq 10, 3) := by decide +kernel
theorem dX0_setShort_8 : decode cX0_setShort 8 = .ok (.aload_n 0, 1) := by decide +kernel
theorem dX0_setShort_9 : decode cX0_setShort 9 = .ok (.getfield 19, 3) := by decide +kernel
theorem dX0_setShort_12 : decode cX0_setShort 12 = .ok (.iload_n 1, 1) := by decide +kernel
theorem dX0_setShort_13 : decode cX0_setShort 13 = .ok (.iload_n 2, 1) := by decide +kernel
theorem dX0_setShort_14 : decode cX0_setShort 14 = .ok (.iastore, 1) := by decide +kernel
theorem dX0_setShort_15 : decode cX0_setShort 15 = .ok (.return_, 1) := by decide +kernel
theorem dX0_opened_0 : decode cX0_opened 0 = .ok (.iload_n 1, 1) := by decide +kernel
theorem dX0_opened_1 : decode cX0_opened 1 = .ok (.istore_n 2, 1) := by decide +kernel
theorem dX0_opened_2 : decode cX0_opened 2 = .ok (.iconst 0, 1) := by decide +kernel
theorem dX0_opened_3 : decode cX0_opened 3 = .ok (.istore_n 3, 1) := by decide +kernel
theorem dX0_opened_4 : decode cX0_opened 4 = .ok (.iload_n 3, 1) := by decide +kernel
theorem dX0_opened_5 : decode cX0_opened 5 = .ok (.bipush 60, 2) := by decide +kernel
theorem dX0_opened_7 : decode cX0_opened 7 = .ok (.if_icmp .ge 24, 3) := by decide +kernel
theorem dX0_opened_10 : decode cX0_opened 10 = .ok (.aload_n 0, 1) := by decide +kernel
theorem dX0_opened_11 : decode cX0_opened 11 = .ok (.iload_n 2, 1) := by decide +kernel
theorem dX0_opened_12 : decode cX0_opened 12 = .ok (.invokevirtual 49, 3) := by decide +kernel
theorem dX0_opened_15 : decode cX0_opened 15 = .ok (.iconst (-1), 1) := by decide +kernel
theorem dX0_opened_16 : decode cX0_opened 16 = .ok (.if_icmp .eq 15, 3) := by decide +kernel
theorem dX0_opened_19 : decode cX0_opened 19 = .ok (.aload_n 0, 1) := by decide +kernel
theorem dX0_opened_20 : decode cX0_opened 20 = .ok (.iload_n 2, 1) := by decide +kernel
theorem dX0_opened_21 : decode cX0_opened 21 = .ok (.invokevirtual 49, 3) := by decide +kernel
theorem dX0_opened_24 : decode cX0_opened 24 = .ok (.istore_n 2, 1) := by decide +kernel
theorem dX0_opened_25 : decode cX0_opened 25 = .ok (.iinc 3 1, 3) := by decide +kernel
theorem dX0_opened_28 : decode cX0_opened 28 = .ok (.goto (-24), 3) := by decide +kernel
theorem dX0_opened_31 : decode cX0_opened 31 = .ok (.iload_n 2, 1) := by decide +kernel
theorem dX0_opened_32 : decode cX0_opened 32 = .ok (.ireturn, 1) := by decide +kernel
theorem dX0_join_0 : decode cX0_join 0 = .ok (.aload_n 0, 1) := by decide +kernel
theorem dX0_join_1 : decode cX0_join 1 = .ok (.iload_n 1, 1) := by decide +kernel
theorem dX0_join_2 : decode cX0_join 2 = .ok (.invokevirtual 36, 3) := by decide +kernel
theorem dX0_join_5 : decode cX0_join 5 = .ok (.ifCond .eq 11, 3) := by decide +kernel
theorem dX0_join_8 : decode cX0_join 8 = .ok (.aload_n 0, 1) := by decide +kernel
theorem dX0_join_9 : decode cX0_join 9 = .ok (.iload_n 2, 1) := by decide +kernel
theorem dX0_join_10 : decode cX0_join 10 = .ok (.invokevirtual 36, 3) := by decide +kernel
theorem dX0_join_13 : decode cX0_join 13 = .ok (.ifCond .ne 4, 3) := by decide +kernel
theorem dX0_join_16 : decode cX0_join 16 = .ok (.return_, 1) := by decide +kernel
theorem dX0_join_17 : decode cX0_join 17 = .ok (.aload_n 0, 1) := by decide +kernel
theorem dX0_join_18 : decode cX0_join 18 = .ok (.getfield 22, 3) := by decide +kernel
theorem dX0_join_21 : decode cX0_join 21 = .ok (.iload_n 1, 1) := by decide +kernel
theorem dX0_join_22 : decode cX0_join 22 = .ok (.iaload, 1) := by decide +kernel
theorem dX0_join_23 : decode cX0_join 23 = .ok (.istore_n 3, 1) := by decide +kernel
theorem dX0_join_24 : decode cX0_join 24 = .ok (.aload_n 0, 1) := by decide +kernel
theorem dX0_join_25 : decode cX0_join 25 = .ok (.getfield 22, 3) := by decide +kernel
theorem dX0_join_28 : decode cX0_join 28 = .ok (.iload_n 2, 1) := by decide +kernel
theorem dX0_join_29 : decode cX0_join 29 = .ok (.iaload, 1) := by decide +kernel
theorem dX0_join_30 : decode cX0_join 30 = .ok (.istore 4, 2) := by decide +kernel
theorem dX0_join_32 : decode cX0_join 32 = .ok (.iconst 0, 1) := by decide +kernel
theorem dX0_join_33 : decode cX0_join 33 = .ok (.istore 5, 2) := by decide +kernel
theorem dX0_join_35 : decode cX0_join 35 = .ok (.iload 5, 2) := by decide +kernel
theorem dX0_join_37 : decode cX0_join 37 = .ok (.aload_n 0, 1) := by decide +kernel
theorem dX0_join_38 : decode cX0_join 38 = .ok (.getfield 28, 3) := by decide +kernel
theorem dX0_join_41 : decode cX0_join 41 = .ok (.if_icmp .ge 29, 3) := by decide +kernel
theorem dX0_join_44 : decode cX0_join 44 = .ok (.aload_n 0, 1) := by decide +kernel
theorem dX0_join_45 : decode cX0_join 45 = .ok (.getfield 22, 3) := by decide +kernel
theorem dX0_join_48 : decode cX0_join 48 = .ok (.iload 5, 2) := by decide +kernel
theorem dX0_join_50 : decode cX0_join 50 = .ok (.iaload, 1) := by decide +kernel
theorem dX0_join_51 : decode cX0_join 51 = .ok (.iload 4, 2) := by decide +kernel
theorem dX0_join_53 : decode cX0_join 53 = .ok (.if_icmp .ne 11, 3) := by decide +kernel
theorem dX0_join_56 : decode cX0_join 56 = .ok (.aload_n 0, 1) := by decide +kernel
theorem dX0_join_57 : decode cX0_join 57 = .ok (.getfield 22, 3) := by decide +kernel
theorem dX0_join_60 : decode cX0_join 60 = .ok (.iload 5, 2) := by decide +kernel
theorem dX0_join_62 : decode cX0_join 62 = .ok (.iload_n 3, 1) := by decide +kernel
theorem dX0_join_63 : decode cX0_join 63 = .ok (.iastore, 1) := by decide +kernel
theorem dX0_join_64 : decode cX0_join 64 = .ok (.iinc 5 1, 3) := by decide +kernel
theorem dX0_join_67 : decode cX0_join 67 = .ok (.goto (-32), 3) := by decide +kernel
theorem dX0_join_70 : decode cX0_join 70 = .ok (.return_, 1) := by decide +kernel
theorem dX0_groupSize_0 : decode cX0_groupSize 0 = .ok (.iconst 0, 1) := by decide +kernel
theorem dX0_groupSize_1 : decode cX0_groupSize 1 = .ok (.istore_n 2, 1) := by decide +kernel
theorem dX0_groupSize_2 : decode cX0_groupSize 2 = .ok (.iconst 0, 1) := by decide +kernel
theorem dX0_groupSize_3 : decode cX0_groupSize 3 = .ok (.istore_n 3, 1) := by decide +kernel
theorem dX0_groupSize_4 : decode cX0_groupSize 4 = .ok (.iload_n 3, 1) := by decide +kernel
theorem dX0_groupSize_5 : decode cX0_groupSize 5 = .ok (.aload_n 0, 1) := by decide +kernel
theorem dX0_groupSize_6 : decode cX0_groupSize 6 = .ok (.getfield 28, 3) := by decide +kernel
theorem dX0_groupSize_9 : decode cX0_groupSize 9 = .ok (.if_icmp .ge 35, 3) := by decide +kernel
theorem dX0_groupSize_12 : decode cX0_groupSize 12 = .ok (.aload_n 0, 1) := by decide +kernel
theorem dX0_groupSize_13 : decode cX0_groupSize 13 = .ok (.iload_n 1, 1) := by decide +kernel
theorem dX0_groupSize_14 : decode cX0_groupSize 14 = .ok (.invokevirtual 36, 3) := by decide +kernel
theorem dX0_groupSize_17 : decode cX0_groupSize 17 = .ok (.ifCond .eq 21, 3) := by decide +kernel
theorem dX0_groupSize_20 : decode cX0_groupSize 20 = .ok (.aload_n 0, 1) := by decide +kernel
theorem dX0_groupSize_21 : decode cX0_groupSize 21 = .ok (.getfield 22, 3) := by decide +kernel
theorem dX0_groupSize_24 : decode cX0_groupSize 24 = .ok (.iload_n 3, 1) := by decide +kernel
theorem dX0_groupSize_25 : decode cX0_groupSize 25 = .ok (.iaload, 1) := by decide +kernel
theorem dX0_groupSize_26 : decode cX0_groupSize 26 = .ok (.aload_n 0, 1) := by decide +kernel
theorem dX0_groupSize_27 : decode cX0_groupSize 27 = .ok (.getfield 22, 3) := by decide +kernel
theorem dX0_groupSize_30 : decode cX0_groupSize 30 = .ok (.iload_n 1, 1) := by decide +kernel
theorem dX0_groupSize_31 : decode cX0_groupSize 31 = .ok (.iaload, 1) := by decide +kernel
theorem dX0_groupSize_32 : decode cX0_groupSize 32 = .ok (.if_icmp .ne 6, 3) := by decide +kernel
theorem dX0_groupSize_35 : decode cX0_groupSize 35 = .ok (.iinc 2 1, 3) := by decide +kernel
theorem dX0_groupSize_38 : decode cX0_groupSize 38 = .ok (.iinc 3 1, 3) := by decide +kernel
theorem dX0_groupSize_41 : decode cX0_groupSize 41 = .ok (.goto (-37), 3) := by decide +kernel
theorem dX0_groupSize_44 : decode cX0_groupSize 44 = .ok (.iload_n 2, 1) := by decide +kernel
theorem dX0_groupSize_45 : decode cX0_groupSize 45 = .ok (.ireturn, 1) := by decide +kernel
theorem dX0_clearUsed_0 : decode cX0_clearUsed 0 = .ok (.iconst 0, 1) := by decide +kernel
theorem dX0_clearUsed_1 : decode cX0_clearUsed 1 = .ok (.istore_n 1, 1) := by decide +kernel
theorem dX0_clearUsed_2 : decode cX0_clearUsed 2 = .ok (.iload_n 1, 1) := by decide +kernel
theorem dX0_clearUsed_3 : decode cX0_clearUsed 3 = .ok (.aload_n 0, 1) := by decide +kernel
theorem dX0_clearUsed_4 : decode cX0_clearUsed 4 = .ok (.getfield 28, 3) := by decide +kernel
theorem dX0_clearUsed_7 : decode cX0_clearUsed 7 = .ok (.if_icmp .ge 16, 3) := by decide +kernel
theorem dX0_clearUsed_10 : decode cX0_clearUsed 10 = .ok (.aload_n 0, 1) := by decide +kernel
theorem dX0_clearUsed_11 : decode cX0_clearUsed 11 = .ok (.getfield 25, 3) := by decide +kernel
theorem dX0_clearUsed_14 : decode cX0_clearUsed 14 = .ok (.iload_n 1, 1) := by decide +kernel
theorem dX0_clearUsed_15 : decode cX0_clearUsed 15 = .ok (.iconst 0, 1) := by decide +kernel
theorem dX0_clearUsed_16 : decode cX0_clearUsed 16 = .ok (.iastore, 1) := by decide +kernel
theorem dX0_clearUsed_17 : decode cX0_clearUsed 17 = .ok (.iinc 1 1, 3) := by decide +kernel
theorem dX0_clearUsed_20 : decode cX0_clearUsed 20 = .ok (.goto (-18), 3) := by decide +kernel
theorem dX0_clearUsed_23 : decode cX0_clearUsed 23 = .ok (.return_, 1) := by decide +kernel
theorem dX0_addUsed_0 : decode cX0_addUsed 0 = .ok (.aload_n 0, 1) := by decide +kernel
theorem dX0_addUsed_1 : decode cX0_addUsed 1 = .ok (.iload_n 1, 1) := by decide +kernel
theorem dX0_addUsed_2 : decode cX0_addUsed 2 = .ok (.invokevirtual 36, 3) := by decide +kernel
theorem dX0_addUsed_5 : decode cX0_addUsed 5 = .ok (.ifCond .eq 13, 3) := by decide +kernel
theorem dX0_addUsed_8 : decode cX0_addUsed 8 = .ok (.aload_n 0, 1) := by decide +kernel
theorem dX0_addUsed_9 : decode cX0_addUsed 9 = .ok (.getfield 25, 3) := by decide +kernel
theorem dX0_addUsed_12 : decode cX0_addUsed 12 = .ok (.iload_n 1, 1) := by decide +kernel
theorem dX0_addUsed_13 : decode cX0_addUsed 13 = .ok (.dup2, 1) := by decide +kernel
theorem dX0_addUsed_14 : decode cX0_addUsed 14 = .ok (.iaload, 1) := by decide +kernel
theorem dX0_addUsed_15 : decode cX0_addUsed 15 = .ok (.iconst 1, 1) := by decide +kernel
theorem dX0_addUsed_16 : decode cX0_addUsed 16 = .ok (.iadd, 1) := by decide +kernel
theorem dX0_addUsed_17 : decode cX0_addUsed 17 = .ok (.iastore, 1) := by decide +kernel
theorem dX0_addUsed_18 : decode cX0_addUsed 18 = .ok (.return_, 1) := by decide +kernel
theorem dX0_usedOf_0 : decode cX0_usedOf 0 = .ok (.aload_n 0, 1) := by decide +kernel
theorem dX0_usedOf_1 : decode cX0_usedOf 1 = .ok (.iload_n 1, 1) := by decide +kernel
theorem dX0_usedOf_2 : decode cX0_usedOf 2 = .ok (.invokevirtual 36, 3) := by decide +kernel
theorem dX0_usedOf_5 : decode cX0_usedOf 5 = .ok (.ifCond .eq 12, 3) := by decide +kernel
theorem dX0_usedOf_8 : decode cX0_usedOf 8 = .ok (.aload_n 0, 1) := by decide +kernel
theorem dX0_usedOf_9 : decode cX0_usedOf 9 = .ok (.getfield 25, 3) := by decide +kernel
theorem dX0_usedOf_12 : decode cX0_usedOf 12 = .ok (.iload_n 1, 1) := by decide +kernel
theorem dX0_usedOf_13 : decode cX0_usedOf 13 = .ok (.iaload, 1) := by decide +kernel
theorem dX0_usedOf_14 : decode cX0_usedOf 14 = .ok (.goto 4, 3) := by decide +kernel
theorem dX0_usedOf_17 : decode cX0_usedOf 17 = .ok (.iconst 0, 1) := by decide +kernel
theorem dX0_usedOf_18 : decode cX0_usedOf 18 = .ok (.ireturn, 1) := by decide +kernel
theorem dX0_headOf_0 : decode cX0_headOf 0 = .ok (.bipush (-2), 2) := by decide +kernel
theorem dX0_headOf_2 : decode cX0_headOf 2 = .ok (.istore_n 2, 1) := by decide +kernel
theorem dX0_headOf_3 : decode cX0_headOf 3 = .ok (.iconst 0, 1) := by decide +kernel
theorem dX0_headOf_4 : decode cX0_headOf 4 = .ok (.istore_n 3, 1) := by decide +kernel
theorem dX0_headOf_5 : decode cX0_headOf 5 = .ok (.iload_n 3, 1) := by decide +kernel
theorem dX0_headOf_6 : decode cX0_headOf 6 = .ok (.aload_n 0, 1) := by decide +kernel
theorem dX0_headOf_7 : decode cX0_headOf 7 = .ok (.getfield 28, 3) := by decide +kernel
theorem dX0_headOf_10 : decode cX0_headOf 10 = .ok (.if_icmp .ge 54, 3) := by decide +kernel
theorem dX0_headOf_13 : decode cX0_headOf 13 = .ok (.aload_n 0, 1) := by decide +kernel
theorem dX0_headOf_14 : decode cX0_headOf 14 = .ok (.iload_n 1, 1) := by decide +kernel
theorem dX0_headOf_15 : decode cX0_headOf 15 = .ok (.invokevirtual 36, 3) := by decide +kernel
theorem dX0_headOf_18 : decode cX0_headOf 18 = .ok (.ifCond .eq 40, 3) := by decide +kernel
theorem dX0_headOf_21 : decode cX0_headOf 21 = .ok (.aload_n 0, 1) := by decide +kernel
theorem dX0_headOf_22 : decode cX0_headOf 22 = .ok (.getfield 22, 3) := by decide +kernel
theorem dX0_headOf_25 : decode cX0_headOf 25 = .ok (.iload_n 3, 1) := by decide +kernel
theorem dX0_headOf_26 : decode cX0_headOf 26 = .ok (.iaload, 1) := by decide +kernel
theorem dX0_headOf_27 : decode cX0_headOf 27 = .ok (.aload_n 0, 1) := by decide +kernel
theorem dX0_headOf_28 : decode cX0_headOf 28 = .ok (.getfield 22, 3) := by decide +kernel
theorem dX0_headOf_31 : decode cX0_headOf 31 = .ok (.iload_n 1, 1) := by decide +kernel
theorem dX0_headOf_32 : decode cX0_headOf 32 = .ok (.iaload, 1) := by decide +kernel
theorem dX0_headOf_33 : decode cX0_headOf 33 = .ok (.if_icmp .ne 25, 3) := by decide +kernel
theorem dX0_headOf_36 : decode cX0_headOf 36 = .ok (.iload_n 2, 1) := by decide +kernel
theorem dX0_headOf_37 : decode cX0_headOf 37 = .ok (.bipush (-2), 2) := by decide +kernel
theorem dX0_headOf_39 : decode cX0_headOf 39 = .ok (.if_icmp .eq 17, 3) := by decide +kernel
theorem dX0_headOf_42 : decode cX0_headOf 42 = .ok (.aload_n 0, 1) := by decide +kernel
theorem dX0_headOf_43 : decode cX0_headOf 43 = .ok (.getfield 25, 3) := by decide +kernel
theorem dX0_headOf_46 : decode cX0_headOf 46 = .ok (.iload_n 3, 1) := by decide +kernel
theorem dX0_headOf_47 : decode cX0_headOf 47 = .ok (.iaload, 1) := by decide +kernel
theorem dX0_headOf_48 : decode cX0_headOf 48 = .ok (.aload_n 0, 1) := by decide +kernel
theorem dX0_headOf_49 : decode cX0_headOf 49 = .ok (.iload_n 2, 1) := by decide +kernel
theorem dX0_headOf_50 : decode cX0_headOf 50 = .ok (.invokevirtual 52, 3) := by decide +kernel
theorem dX0_headOf_53 : decode cX0_headOf 53 = .ok (.if_icmp .le 5, 3) := by decide +kernel
theorem dX0_headOf_56 : decode cX0_headOf 56 = .ok (.iload_n 3, 1) := by decide +kernel
theorem dX0_headOf_57 : decode cX0_headOf 57 = .ok (.istore_n 2, 1) := by decide +kernel
theorem dX0_headOf_58 : decode cX0_headOf 58 = .ok (.iinc 3 1, 3) := by decide +kernel
theorem dX0_headOf_61 : decode cX0_headOf 61 = .ok (.goto (-56), 3) := by decide +kernel
theorem dX0_headOf_64 : decode cX0_headOf 64 = .ok (.iload_n 2, 1) := by decide +kernel
theorem dX0_headOf_65 : decode cX0_headOf 65 = .ok (.ireturn, 1) := by decide +kernel
theorem dX0_mixedGroups_0 : decode cX0_mixedGroups 0 = .ok (.iconst 0, 1) := by decide +kernel
theorem dX0_mixedGroups_1 : decode cX0_mixedGroups 1 = .ok (.istore_n 1, 1) := by decide +kernel
theorem dX0_mixedGroups_2 : decode cX0_mixedGroups 2 = .ok (.iconst 0, 1) := by decide +kernel
theorem dX0_mixedGroups_3 : decode cX0_mixedGroups 3 = .ok (.istore_n 2, 1) := by decide +kernel
theorem dX0_mixedGroups_4 : decode cX0_mixedGroups 4 = .ok (.iload_n 2, 1) := by decide +kernel
theorem dX0_mixedGroups_5 : decode cX0_mixedGroups 5 = .ok (.aload_n 0, 1) := by decide +kernel
theorem dX0_mixedGroups_6 : decode cX0_mixedGroups 6 = .ok (.getfield 28, 3) := by decide +kernel
theorem dX0_mixedGroups_9 : decode cX0_mixedGroups 9 = .ok (.if_icmp .ge 61, 3) := by decide +kernel
theorem dX0_mixedGroups_12 : decode cX0_mixedGroups 12 = .ok (.iconst 0, 1) := by decide +kernel
theorem dX0_mixedGroups_13 : decode cX0_mixedGroups 13 = .ok (.istore_n 3, 1) := by decide +kernel
theorem dX0_mixedGroups_14 : decode cX0_mixedGroups 14 = .ok (.iconst 0, 1) := by decide +kernel
theorem dX0_mixedGroups_15 : decode cX0_mixedGroups 15 = .ok (.istore 4, 2) := by decide +kernel
theorem dX0_mixedGroups_17 : decode cX0_mixedGroups 17 = .ok (.iload 4, 2) := by decide +kernel
theorem dX0_mixedGroups_19 : decode cX0_mixedGroups 19 = .ok (.aload_n 0, 1) := by decide +kernel
theorem dX0_mixedGroups_20 : decode cX0_mixedGroups 20 = .ok (.getfield 28, 3) := by decide +kernel
theorem dX0_mixedGroups_23 : decode cX0_mixedGroups 23 = .ok (.if_icmp .ge 33, 3) := by decide +kernel
theorem dX0_mixedGroups_26 : decode cX0_mixedGroups 26 = .ok (.aload_n 0, 1) := by decide +kernel
theorem dX0_mixedGroups_27 : decode cX0_mixedGroups 27 = .ok (.getfield 22, 3) := by decide +kernel
theorem dX0_mixedGroups_30 : decode cX0_mixedGroups 30 = .ok (.iload 4, 2) := by decide +kernel
theorem dX0_mixedGroups_32 : decode cX0_mixedGroups 32 = .ok (.iaload, 1) := by decide +kernel
theorem dX0_mixedGroups_33 : decode cX0_mixedGroups 33 = .ok (.iload_n 2, 1) := by decide +kernel
theorem dX0_mixedGroups_34 : decode cX0_mixedGroups 34 = .ok (.if_icmp .ne 16, 3) := by decide +kernel
theorem dX0_mixedGroups_37 : decode cX0_mixedGroups 37 = .ok (.aload_n 0, 1) := by decide +kernel
theorem dX0_mixedGroups_38 : decode cX0_mixedGroups 38 = .ok (.getfield 25, 3) := by decide +kernel
theorem dX0_mixedGroups_41 : decode cX0_mixedGroups 41 = .ok (.iload 4, 2) := by decide +kernel
theorem dX0_mixedGroups_43 : decode cX0_mixedGroups 43 = .ok (.iaload, 1) := by decide +kernel
theorem dX0_mixedGroups_44 : decode cX0_mixedGroups 44 = .ok (.ifCond .le 6, 3) := by decide +kernel
theorem dX0_mixedGroups_47 : decode cX0_mixedGroups 47 = .ok (.iinc 3 1, 3) := by decide +kernel
theorem dX0_mixedGroups_50 : decode cX0_mixedGroups 50 = .ok (.iinc 4 1, 3) := by decide +kernel
theorem dX0_mixedGroups_53 : decode cX0_mixedGroups 53 = .ok (.goto (-36), 3) := by decide +kernel
theorem dX0_mixedGroups_56 : decode cX0_mixedGroups 56 = .ok (.iload_n 3, 1) := by decide +kernel
theorem dX0_mixedGroups_57 : decode cX0_mixedGroups 57 = .ok (.iconst 1, 1) := by decide +kernel
theorem dX0_mixedGroups_58 : decode cX0_mixedGroups 58 = .ok (.if_icmp .le 6, 3) := by decide +kernel
theorem dX0_mixedGroups_61 : decode cX0_mixedGroups 61 = .ok (.iinc 1 1, 3) := by decide +kernel
theorem dX0_mixedGroups_64 : decode cX0_mixedGroups 64 = .ok (.iinc 2 1, 3) := by decide +kernel
theorem dX0_mixedGroups_67 : decode cX0_mixedGroups 67 = .ok (.goto (-63), 3) := by decide +kernel
theorem dX0_mixedGroups_70 : decode cX0_mixedGroups 70 = .ok (.iload_n 1, 1) := by decide +kernel
theorem dX0_mixedGroups_71 : decode cX0_mixedGroups 71 = .ok (.ireturn, 1) := by decide +kernel
theorem dX1_init_0 : decode cX1_init 0 = .ok (.aload_n 0, 1) := by decide +kernel
theorem dX1_init_1 : decode cX1_init 1 = .ok (.invokespecial 3, 3) := by decide +kernel
theorem dX1_init_4 : decode cX1_init 4 = .ok (.aload_n 0, 1) := by decide +kernel
theorem dX1_init_5 : decode cX1_init 5 = .ok (.bipush 24, 2) := by decide +kernel
theorem dX1_init_7 : decode cX1_init 7 = .ok (.newarray .int, 2) := by decide +kernel
theorem dX1_init_9 : decode cX1_init 9 = .ok (.putfield 9, 3) := by decide +kernel
theorem dX1_init_12 : decode cX1_init 12 = .ok (.aload_n 0, 1) := by decide +kernel
theorem dX1_init_13 : decode cX1_init 13 = .ok (.bipush 24, 2) := by decide +kernel
theorem dX1_init_15 : decode cX1_init 15 = .ok (.newarray .int, 2) := by decide +kernel
theorem dX1_init_17 : decode cX1_init 17 = .ok (.putfield 15, 3) := by decide +kernel
theorem dX1_init_20 : decode cX1_init 20 = .ok (.aload_n 0, 1) := by decide +kernel
theorem dX1_init_21 : decode cX1_init 21 = .ok (.bipush 24, 2) := by decide +kernel
theorem dX1_init_23 : decode cX1_init 23 = .ok (.newarray .int, 2) := by decide +kernel
theorem dX1_init_25 : decode cX1_init 25 = .ok (.putfield 18, 3) := by decide +kernel
theorem dX1_init_28 : decode cX1_init 28 = .ok (.aload_n 0, 1) := by decide +kernel
theorem dX1_init_29 : decode cX1_init 29 = .ok (.iconst 0, 1) := by decide +kernel
theorem dX1_init_30 : decode cX1_init 30 = .ok (.putfield 21, 3) := by decide +kernel
theorem dX1_init_33 : decode cX1_init 33 = .ok (.return_, 1) := by decide +kernel
theorem dX1_size_0 : decode cX1_size 0 = .ok (.aload_n 0, 1) := by decide +kernel
theorem dX1_size_1 : decode cX1_size 1 = .ok (.getfield 21, 3) := by decide +kernel
theorem dX1_size_4 : decode cX1_size 4 = .ok (.ireturn, 1) := by decide +kernel
theorem dX1_has_0 : decode cX1_has 0 = .ok (.iload_n 1, 1) := by decide +kernel
theorem dX1_has_1 : decode cX1_has 1 = .ok (.ifCond .lt 15, 3) := by decide +kernel
theorem dX1_has_4 : decode cX1_has 4 = .ok (.iload_n 1, 1) := by decide +kernel
theorem dX1_has_5 : decode cX1_has 5 = .ok (.aload_n 0, 1) := by decide +kernel
theorem dX1_has_6 : decode cX1_has 6 = .ok (.getfield 21, 3) := by decide +kernel
theorem dX1_has_9 : decode cX1_has 9 = .ok (.if_icmp .ge 7, 3) := by decide +kernel
theorem dX1_has_12 : decode cX1_has 12 = .ok (.iconst 1, 1) := by decide +kernel
theorem dX1_has_13 : decode cX1_has 13 = .ok (.goto 4, 3) := by decide +kernel
theorem dX1_has_16 : decode cX1_has 16 = .ok (.iconst 0, 1) := by decide +kernel
theorem dX1_has_17 : decode cX1_has 17 = .ok (.ireturn, 1) := by decide +kernel
theorem dX1_lengthOf_0 : decode cX1_lengthOf 0 = .ok (.aload_n 0, 1) := by decide +kernel
theorem dX1_lengthOf_1 : decode cX1_lengthOf 1 = .ok (.iload_n 1, 1) := by decide +kernel
theorem dX1_lengthOf_2 : decode cX1_lengthOf 2 = .ok (.invokevirtual 25, 3) := by decide +kernel
theorem dX1_lengthOf_5 : decode cX1_lengthOf 5 = .ok (.ifCond .eq 19, 3) := by decide +kernel
theorem dX1_lengthOf_8 : decode cX1_lengthOf 8 = .ok (.aload_n 0, 1) := by decide +kernel
theorem dX1_lengthOf_9 : decode cX1_lengthOf 9 = .ok (.getfield 18, 3) := by decide +kernel
theorem dX1_lengthOf_12 : decode cX1_lengthOf 12 = .ok (.iload_n 1, 1) := by decide +kernel
theorem dX1_lengthOf_13 : decode cX1_lengthOf 13 = .ok (.iaload, 1) := by decide +kernel
theorem dX1_lengthOf_14 : decode cX1_lengthOf 14 = .ok (.aload_n 0, 1) := by decide +kernel
theorem dX1_lengthOf_15 : decode cX1_lengthOf 15 = .ok (.getfield 15, 3) := by decide +kernel
theorem dX1_lengthOf_18 : decode cX1_lengthOf 18 = .ok (.iload_n 1, 1) := by decide +kernel
theorem dX1_lengthOf_19 : decode cX1_lengthOf 19 = .ok (.iaload, 1) := by decide +kernel
theorem dX1_lengthOf_20 : decode cX1_lengthOf 20 = .ok (.isub, 1) := by decide +kernel
theorem dX1_lengthOf_21 : decode cX1_lengthOf 21 = .ok (.goto 4, 3) := by decide +kernel
theorem dX1_lengthOf_24 : decode cX1_lengthOf 24 = .ok (.iconst 0, 1) := by decide +kernel
theorem dX1_lengthOf_25 : decode cX1_lengthOf 25 = .ok (.ireturn, 1) := by decide +kernel
theorem dX1_at_0 : decode cX1_at 0 = .ok (.iload_n 2, 1) := by decide +kernel
theorem dX1_at_1 : decode cX1_at 1 = .ok (.ifCond .lt 28, 3) := by decide +kernel
theorem dX1_at_4 : decode cX1_at 4 = .ok (.iload_n 2, 1) := by decide +kernel
theorem dX1_at_5 : decode cX1_at 5 = .ok (.aload_n 0, 1) := by decide +kernel
theorem dX1_at_6 : decode cX1_at 6 = .ok (.iload_n 1, 1) := by decide +kernel
theorem dX1_at_7 : decode cX1_at 7 = .ok (.invokevirtual 29, 3) := by decide +kernel
theorem dX1_at_10 : decode cX1_at 10 = .ok (.if_icmp .ge 19, 3) := by decide +kernel
theorem dX1_at_13 : decode cX1_at 13 = .ok (.aload_n 0, 1) := by decide +kernel
theorem dX1_at_14 : decode cX1_at 14 = .ok (.getfield 9, 3) := by decide +kernel
theorem dX1_at_17 : decode cX1_at 17 = .ok (.aload_n 0, 1) := by decide +kernel
theorem dX1_at_18 : decode cX1_at 18 = .ok (.getfield 15, 3) := by decide +kernel
theorem dX1_at_21 : decode cX1_at 21 = .ok (.iload_n 1, 1) := by decide +kernel
theorem dX1_at_22 : decode cX1_at 22 = .ok (.iaload, 1) := by decide +kernel
theorem dX1_at_23 : decode cX1_at 23 = .ok (.iload_n 2, 1) := by decide +kernel
theorem dX1_at_24 : decode cX1_at 24 = .ok (.iadd, 1) := by decide +kernel
theorem dX1_at_25 : decode cX1_at 25 = .ok (.iaload, 1) := by decide +kernel
theorem dX1_at_26 : decode cX1_at 26 = .ok (.goto 4, 3) := by decide +kernel
theorem dX1_at_29 : decode cX1_at 29 = .ok (.iconst 0, 1) := by decide +kernel
theorem dX1_at_30 : decode cX1_at 30 = .ok (.ireturn, 1) := by decide +kernel
theorem dX1_isNumber_0 : decode cX1_isNumber 0 = .ok (.aload_n 0, 1) := by decide +kernel
theorem dX1_isNumber_1 : decode cX1_isNumber 1 = .ok (.iload_n 1, 1) := by decide +kernel
theorem dX1_isNumber_2 : decode cX1_isNumber 2 = .ok (.iconst 0, 1) := by decide +kernel
theorem dX1_isNumber_3 : decode cX1_isNumber 3 = .ok (.invokevirtual 33, 3) := by decide +kernel
theorem dX1_isNumber_6 : decode cX1_isNumber 6 = .ok (.invokestatic 37, 3) := by decide +kernel
theorem dX1_isNumber_9 : decode cX1_isNumber 9 = .ok (.ireturn, 1) := by decide +kernel
theorem dX1_keyOf_0 : decode cX1_keyOf 0 = .ok (.aload_n 0, 1) := by decide +kernel
theorem dX1_keyOf_1 : decode cX1_keyOf 1 = .ok (.iload_n 1, 1) := by decide +kernel
theorem dX1_keyOf_2 : decode cX1_keyOf 2 = .ok (.invokevirtual 29, 3) := by decide +kernel
theorem dX1_keyOf_5 : decode cX1_keyOf 5 = .ok (.istore_n 2, 1) := by decide +kernel
theorem dX1_keyOf_6 : decode cX1_keyOf 6 = .ok (.iload_n 2, 1) := by decide +kernel
theorem dX1_keyOf_7 : decode cX1_keyOf 7 = .ok (.bipush 12, 2) := by decide +kernel
theorem dX1_keyOf_9 : decode cX1_keyOf 9 = .ok (.if_icmp .gt 11, 3) := by decide +kernel
theorem dX1_keyOf_12 : decode cX1_keyOf 12 = .ok (.aload_n 0, 1) := by decide +kernel
theorem dX1_keyOf_13 : decode cX1_keyOf 13 = .ok (.iload_n 1, 1) := by decide +kernel
theorem dX1_keyOf_14 : decode cX1_keyOf 14 = .ok (.invokevirtual 40, 3) := by decide +kernel
theorem dX1_keyOf_17 : decode cX1_keyOf 17 = .ok (.ifCond .eq 5, 3) := by decide +kernel
theorem dX1_keyOf_20 : decode cX1_keyOf 20 = .ok (.lconst 0, 1) := by decide +kernel
theorem dX1_keyOf_21 : decode cX1_keyOf 21 = .ok (.lreturn, 1) := by decide +kernel
theorem dX1_keyOf_22 : decode cX1_keyOf 22 = .ok (.lconst 0, 1) := by decide +kernel
theorem dX1_keyOf_23 : decode cX1_keyOf 23 = .ok (.lstore_n 3, 1) := by decide +kernel
theorem dX1_keyOf_24 : decode cX1_keyOf 24 = .ok (.iconst 0, 1) := by decide +kernel
theorem dX1_keyOf_25 : decode cX1_keyOf 25 = .ok (.istore 5, 2) := by decide +kernel
theorem dX1_keyOf_27 : decode cX1_keyOf 27 = .ok (.iload 5, 2) := by decide +kernel
theorem dX1_keyOf_29 : decode cX1_keyOf 29 = .ok (.iload_n 2, 1) := by decide +kernel
theorem dX1_keyOf_30 : decode cX1_keyOf 30 = .ok (.if_icmp .ge 29, 3) := by decide +kernel
theorem dX1_keyOf_33 : decode cX1_keyOf 33 = .ok (.lload_n 3, 1) := by decide +kernel
theorem dX1_keyOf_34 : decode cX1_keyOf 34 = .ok (.ldc2_w 43, 3) := by decide +kernel
theorem dX1_keyOf_37 : decode cX1_keyOf 37 = .ok (.lmul, 1) := by decide +kernel
theorem dX1_keyOf_38 : decode cX1_keyOf 38 = .ok (.aload_n 0, 1) := by decide +kernel
theorem dX1_keyOf_39 : decode cX1_keyOf 39 = .ok (.iload_n 1, 1) := by decide +kernel
theorem dX1_keyOf_40 : decode cX1_keyOf 40 = .ok (.iload 5, 2) := by decide +kernel
theorem dX1_keyOf_42 : decode cX1_keyOf 42 = .ok (.invokevirtual 33, 3) := by decide +kernel
theorem dX1_keyOf_45 : decode cX1_keyOf 45 = .ok (.bipush 97, 2) := by decide +kernel
theorem dX1_keyOf_47 : decode cX1_keyOf 47 = .ok (.isub, 1) := by decide +kernel
theorem dX1_keyOf_48 : decode cX1_keyOf 48 = .ok (.iconst 1, 1) := by decide +kernel
theorem dX1_keyOf_49 : decode cX1_keyOf 49 = .ok (.iadd, 1) := by decide +kernel
theorem dX1_keyOf_50 : decode cX1_keyOf 50 = .ok (.i2l, 1) := by decide +kernel
theorem dX1_keyOf_51 : decode cX1_keyOf 51 = .ok (.ladd, 1) := by decide +kernel
theorem dX1_keyOf_52 : decode cX1_keyOf 52 = .ok (.lstore_n 3, 1) := by decide +kernel
theorem dX1_keyOf_53 : decode cX1_keyOf 53 = .ok (.iinc 5 1, 3) := by decide +kernel
theorem dX1_keyOf_56 : decode cX1_keyOf 56 = .ok (.goto (-29), 3) := by decide +kernel
theorem dX1_keyOf_59 : decode cX1_keyOf 59 = .ok (.lload_n 3, 1) := by decide +kernel
theorem dX1_keyOf_60 : decode cX1_keyOf 60 = .ok (.lreturn, 1) := by decide +kernel
theorem dX1_split_0 : decode cX1_split 0 = .ok (.aload_n 0, 1) := by decide +kernel
theorem dX1_split_1 : decode cX1_split 1 = .ok (.iconst 0, 1) := by decide +kernel
theorem dX1_split_2 : decode cX1_split 2 = .ok (.putfield 21, 3) := by decide +kernel
theorem dX1_split_5 : decode cX1_split 5 = .ok (.iconst 0, 1) := by decide +kernel
theorem dX1_split_6 : decode cX1_split 6 = .ok (.istore_n 2, 1) := by decide +kernel
theorem dX1_split_7 : decode cX1_split 7 = .ok (.aload_n 1, 1) := by decide +kernel
theorem dX1_split_8 : decode cX1_split 8 = .ok (.invokevirtual 45, 3) := by decide +kernel
theorem dX1_split_11 : decode cX1_split 11 = .ok (.bipush 24, 2) := by decide +kernel
theorem dX1_split_13 : decode cX1_split 13 = .ok (.invokestatic 50, 3) := by decide +kernel
theorem dX1_split_16 : decode cX1_split 16 = .ok (.istore_n 3, 1) := by decide +kernel
theorem dX1_split_17 : decode cX1_split 17 = .ok (.iconst 0, 1) := by decide +kernel
theorem dX1_split_18 : decode cX1_split 18 = .ok (.istore 4, 2) := by decide +kernel
theorem dX1_split_20 : decode cX1_split 20 = .ok (.iload 4, 2) := by decide +kernel
theorem dX1_split_22 : decode cX1_split 22 = .ok (.iload_n 3, 1) := by decide +kernel
theorem dX1_split_23 : decode cX1_split 23 = .ok (.if_icmp .ge 76, 3) := by decide +kernel
theorem dX1_split_26 : decode cX1_split 26 = .ok (.aload_n 0, 1) := by decide +kernel
theorem dX1_split_27 : decode cX1_split 27 = .ok (.getfield 9, 3) := by decide +kernel
theorem dX1_split_30 : decode cX1_split 30 = .ok (.iload 4, 2) := by decide +kernel
theorem dX1_split_32 : decode cX1_split 32 = .ok (.aload_n 1, 1) := by decide +kernel
theorem dX1_split_33 : decode cX1_split 33 = .ok (.iload 4, 2) := by decide +kernel
theorem dX1_split_35 : decode cX1_split 35 = .ok (.invokevirtual 55, 3) := by decide +kernel
theorem dX1_split_38 : decode cX1_split 38 = .ok (.invokestatic 57, 3) := by decide +kernel
theorem dX1_split_41 : decode cX1_split 41 = .ok (.iastore, 1) := by decide +kernel
theorem dX1_split_42 : decode cX1_split 42 = .ok (.aload_n 1, 1) := by decide +kernel
theorem dX1_split_43 : decode cX1_split 43 = .ok (.iload 4, 2) := by decide +kernel
theorem dX1_split_45 : decode cX1_split 45 = .ok (.invokevirtual 55, 3) := by decide +kernel
theorem dX1_split_48 : decode cX1_split 48 = .ok (.bipush 95, 2) := by decide +kernel
theorem dX1_split_50 : decode cX1_split 50 = .ok (.if_icmp .ne 18, 3) := by decide +kernel
theorem dX1_split_53 : decode cX1_split 53 = .ok (.aload_n 0, 1) := by decide +kernel
theorem dX1_split_54 : decode cX1_split 54 = .ok (.iload_n 2, 1) := by decide +kernel
theorem dX1_split_55 : decode cX1_split 55 = .ok (.iload 4, 2) := by decide +kernel
theorem dX1_split_57 : decode cX1_split 57 = .ok (.invokevirtual 60, 3) := by decide +kernel
theorem dX1_split_60 : decode cX1_split 60 = .ok (.iload 4, 2) := by decide +kernel
theorem dX1_split_62 : decode cX1_split 62 = .ok (.iconst 1, 1) := by decide +kernel
theorem dX1_split_63 : decode cX1_split 63 = .ok (.iadd, 1) := by decide +kernel
theorem dX1_split_64 : decode cX1_split 64 = .ok (.istore_n 2, 1) := by decide +kernel
theorem dX1_split_65 : decode cX1_split 65 = .ok (.goto 28, 3) := by decide +kernel
theorem dX1_split_68 : decode cX1_split 68 = .ok (.iload 4, 2) := by decide +kernel
theorem dX1_split_70 : decode cX1_split 70 = .ok (.iload_n 2, 1) := by decide +kernel
theorem dX1_split_71 : decode cX1_split 71 = .ok (.if_icmp .le 22, 3) := by decide +kernel
theorem dX1_split_74 : decode cX1_split 74 = .ok (.aload_n 1, 1) := by decide +kernel
theorem dX1_split_75 : decode cX1_split 75 = .ok (.iload 4, 2) := by decide +kernel
theorem dX1_split_77 : decode cX1_split 77 = .ok (.invokestatic 64, 3) := by decide +kernel
theorem dX1_split_80 : decode cX1_split 80 = .ok (.ifCond .eq 13, 3) := by decide +kernel
theorem dX1_split_83 : decode cX1_split 83 = .ok (.aload_n 0, 1) := by decide +kernel
theorem dX1_split_84 : decode cX1_split 84 = .ok (.iload_n 2, 1) := by decide +kernel
theorem dX1_split_85 : decode cX1_split 85 = .ok (.iload 4, 2) := by decide +kernel
theorem dX1_split_87 : decode cX1_split 87 = .ok (.invokevirtual 60, 3) := by decide +kernel
theorem dX1_split_90 : decode cX1_split 90 = .ok (.iload 4, 2) := by decide +kernel
theorem dX1_split_92 : decode cX1_split 92 = .ok (.istore_n 2, 1) := by decide +kernel
theorem dX1_split_93 : decode cX1_split 93 = .ok (.iinc 4 1, 3) := by decide +kernel
theorem dX1_split_96 : decode cX1_split 96 = .ok (.goto (-76), 3) := by decide +kernel
theorem dX1_split_99 : decode cX1_split 99 = .ok (.aload_n 0, 1) := by decide +kernel
theorem dX1_split_100 : decode cX1_split 100 = .ok (.iload_n 2, 1) := by decide +kernel
theorem dX1_split_101 : decode cX1_split 101 = .ok (.iload_n 3, 1) := by decide +kernel
theorem dX1_split_102 : decode cX1_split 102 = .ok (.invokevirtual 60, 3) := by decide +kernel
theorem dX1_split_105 : decode cX1_split 105 = .ok (.return_, 1) := by decide +kernel
theorem dX1_add_0 : decode cX1_add 0 = .ok (.iload_n 1, 1) := by decide +kernel
theorem dX1_add_1 : decode cX1_add 1 = .ok (.iload_n 2, 1) := by decide +kernel
theorem dX1_add_2 : decode cX1_add 2 = .ok (.if_icmp .ge 42, 3) := by decide +kernel
theorem dX1_add_5 : decode cX1_add 5 = .ok (.aload_n 0, 1) := by decide +kernel
theorem dX1_add_6 : decode cX1_add 6 = .ok (.getfield 21, 3) := by decide +kernel
theorem dX1_add_9 : decode cX1_add 9 = .ok (.bipush 24, 2) := by decide +kernel
theorem dX1_add_11 : decode cX1_add 11 = .ok (.if_icmp .ge 33, 3) := by decide +kernel
theorem dX1_add_14 : decode cX1_add 14 = .ok (.aload_n 0, 1) := by decide +kernel
theorem dX1_add_15 : decode cX1_add 15 = .ok (.getfield 15, 3) := by decide +kernel
theorem dX1_add_18 : decode cX1_add 18 = .ok (.aload_n 0, 1) := by decide +kernel
theorem dX1_add_19 : decode cX1_add 19 = .ok (.getfield 21, 3) := by decide +kernel
theorem dX1_add_22 : decode cX1_add 22 = .ok (.iload_n 1, 1) := by decide +kernel
theorem dX1_add_23 : decode cX1_add 23 = .ok (.iastore, 1) := by decide +kernel
theorem dX1_add_24 : decode cX1_add 24 = .ok (.aload_n 0, 1) := by decide +kernel
theorem dX1_add_25 : decode cX1_add 25 = .ok (.getfield 18, 3) := by decide +kernel
theorem dX1_add_28 : decode cX1_add 28 = .ok (.aload_n 0, 1) := by decide +kernel
theorem dX1_add_29 : decode cX1_add 29 = .ok (.getfield 21, 3) := by decide +kernel
theorem dX1_add_32 : decode cX1_add 32 = .ok (.iload_n 2, 1) := by decide +kernel
theorem dX1_add_33 : decode cX1_add 33 = .ok (.iastore, 1) := by decide +kernel
theorem dX1_add_34 : decode cX1_add 34 = .ok (.aload_n 0, 1) := by decide +kernel
theorem dX1_add_35 : decode cX1_add 35 = .ok (.dup, 1) := by decide +kernel
theorem dX1_add_36 : decode cX1_add 36 = .ok (.getfield 21, 3) := by decide +kernel
theorem dX1_add_39 : decode cX1_add 39 = .ok (.iconst 1, 1) := by decide +kernel
theorem dX1_add_40 : decode cX1_add 40 = .ok (.iadd, 1) := by decide +kernel
theorem dX1_add_41 : decode cX1_add 41 = .ok (.putfield 21, 3) := by decide +kernel
theorem dX1_add_44 : decode cX1_add 44 = .ok (.return_, 1) := by decide +kernel
theorem dX1_isCutAhead_0 : decode cX1_isCutAhead 0 = .ok (.aload_n 0, 1) := by decide +kernel
theorem dX1_isCutAhead_1 : decode cX1_isCutAhead 1 = .ok (.iload_n 1, 1) := by decide +kernel
theorem dX1_isCutAhead_2 : decode cX1_isCutAhead 2 = .ok (.iconst 1, 1) := by decide +kernel
theorem dX1_isCutAhead_3 : decode cX1_isCutAhead 3 = .ok (.isub, 1) := by decide +kernel
theorem dX1_isCutAhead_4 : decode cX1_isCutAhead 4 = .ok (.invokevirtual 55, 3) := by decide +kernel
theorem dX1_isCutAhead_7 : decode cX1_isCutAhead 7 = .ok (.istore_n 2, 1) := by decide +kernel
theorem dX1_isCutAhead_8 : decode cX1_isCutAhead 8 = .ok (.aload_n 0, 1) := by decide +kernel
theorem dX1_isCutAhead_9 : decode cX1_isCutAhead 9 = .ok (.iload_n 1, 1) := by decide +kernel
theorem dX1_isCutAhead_10 : decode cX1_isCutAhead 10 = .ok (.invokevirtual 55, 3) := by decide +kernel
theorem dX1_isCutAhead_13 : decode cX1_isCutAhead 13 = .ok (.istore_n 3, 1) := by decide +kernel
theorem dX1_isCutAhead_14 : decode cX1_isCutAhead 14 = .ok (.iload_n 2, 1) := by decide +kernel
theorem dX1_isCutAhead_15 : decode cX1_isCutAhead 15 = .ok (.invokestatic 37, 3) := by decide +kernel
theorem dX1_isCutAhead_18 : decode cX1_isCutAhead 18 = .ok (.iload_n 3, 1) := by decide +kernel
theorem dX1_isCutAhead_19 : decode cX1_isCutAhead 19 = .ok (.invokestatic 37, 3) := by decide +kernel
theorem dX1_isCutAhead_22 : decode cX1_isCutAhead 22 = .ok (.if_icmp .eq 5, 3) := by decide +kernel
theorem dX1_isCutAhead_25 : decode cX1_isCutAhead 25 = .ok (.iconst 1, 1) := by decide +kernel
theorem dX1_isCutAhead_26 : decode cX1_isCutAhead 26 = .ok (.ireturn, 1) := by decide +kernel
theorem dX1_isCutAhead_27 : decode cX1_isCutAhead 27 = .ok (.iload_n 3, 1) := by decide +kernel
theorem dX1_isCutAhead_28 : decode cX1_isCutAhead 28 = .ok (.invokestatic 68, 3) := by decide +kernel
theorem dX1_isCutAhead_31 : decode cX1_isCutAhead 31 = .ok (.ifCond .eq 34, 3) := by decide +kernel
theorem dX1_isCutAhead_34 : decode cX1_isCutAhead 34 = .ok (.iload_n 2, 1) := by decide +kernel
theorem dX1_isCutAhead_35 : decode cX1_isCutAhead 35 = .ok (.invokestatic 71, 3) := by decide +kernel
theorem dX1_isCutAhead_38 : decode cX1_isCutAhead 38 = .ok (.ifCond .ne 23, 3) := by decide +kernel
theorem dX1_isCutAhead_41 : decode cX1_isCutAhead 41 = .ok (.iload_n 2, 1) := by decide +kernel
theorem dX1_isCutAhead_42 : decode cX1_isCutAhead 42 = .ok (.invokestatic 68, 3) := by decide +kernel
theorem dX1_isCutAhead_45 : decode cX1_isCutAhead 45 = .ok (.ifCond .eq 20, 3) := by decide +kernel
theorem dX1_isCutAhead_48 : decode cX1_isCutAhead 48 = .ok (.aload_n 0, 1) := by decide +kernel
theorem dX1_isCutAhead_49 : decode cX1_isCutAhead 49 = .ok (.iload_n 1, 1) := by decide +kernel
theorem dX1_isCutAhead_50 : decode cX1_isCutAhead 50 = .ok (.iconst 1, 1) := by decide +kernel
theorem dX1_isCutAhead_51 : decode cX1_isCutAhead 51 = .ok (.iadd, 1) := by decide +kernel
theorem dX1_isCutAhead_52 : decode cX1_isCutAhead 52 = .ok (.invokevirtual 55, 3) := by decide +kernel
theorem dX1_isCutAhead_55 : decode cX1_isCutAhead 55 = .ok (.invokestatic 71, 3) := by decide +kernel
theorem dX1_isCutAhead_58 : decode cX1_isCutAhead 58 = .ok (.ifCond .eq 7, 3) := by decide +kernel
theorem dX1_isCutAhead_61 : decode cX1_isCutAhead 61 = .ok (.iconst 1, 1) := by decide +kernel
theorem dX1_isCutAhead_62 : decode cX1_isCutAhead 62 = .ok (.goto 4, 3) := by decide +kernel
theorem dX1_isCutAhead_65 : decode cX1_isCutAhead 65 = .ok (.iconst 0, 1) := by decide +kernel
theorem dX1_isCutAhead_66 : decode cX1_isCutAhead 66 = .ok (.ireturn, 1) := by decide +kernel
theorem dX2_init_0 : decode cX2_init 0 = .ok (.aload_n 0, 1) := by decide +kernel
theorem dX2_init_1 : decode cX2_init 1 = .ok (.invokespecial 3, 3) := by decide +kernel
theorem dX2_init_4 : decode cX2_init 4 = .ok (.aload_n 0, 1) := by decide +kernel
theorem dX2_init_5 : decode cX2_init 5 = .ok (.bipush 80, 2) := by decide +kernel
theorem dX2_init_7 : decode cX2_init 7 = .ok (.newarray .boolean, 2) := by decide +kernel
theorem dX2_init_9 : decode cX2_init 9 = .ok (.putfield 9, 3) := by decide +kernel
theorem dX2_init_12 : decode cX2_init 12 = .ok (.aload_n 0, 1) := by decide +kernel
theorem dX2_init_13 : decode cX2_init 13 = .ok (.bipush 80, 2) := by decide +kernel
theorem dX2_init_15 : decode cX2_init 15 = .ok (.anewarray 15, 3) := by decide +kernel
theorem dX2_init_18 : decode cX2_init 18 = .ok (.putfield 17, 3) := by decide +kernel
theorem dX2_init_21 : decode cX2_init 21 = .ok (.aload_n 0, 1) := by decide +kernel
theorem dX2_init_22 : decode cX2_init 22 = .ok (.iconst 0, 1) := by decide +kernel
theorem dX2_init_23 : decode cX2_init 23 = .ok (.putfield 21, 3) := by decide +kernel
theorem dX2_init_26 : decode cX2_init 26 = .ok (.iconst 0, 1) := by decide +kernel
theorem dX2_init_27 : decode cX2_init 27 = .ok (.istore_n 1, 1) := by decide +kernel
theorem dX2_init_28 : decode cX2_init 28 = .ok (.iload_n 1, 1) := by decide +kernel
theorem dX2_init_29 : decode cX2_init 29 = .ok (.bipush 80, 2) := by decide +kernel
theorem dX2_init_31 : decode cX2_init 31 = .ok (.if_icmp .ge 24, 3) := by decide +kernel
theorem dX2_init_34 : decode cX2_init 34 = .ok (.aload_n 0, 1) := by decide +kernel
theorem dX2_init_35 : decode cX2_init 35 = .ok (.getfield 17, 3) := by decide +kernel
theorem dX2_init_38 : decode cX2_init 38 = .ok (.iload_n 1, 1) := by decide +kernel
theorem dX2_init_39 : decode cX2_init 39 = .ok (.new 15, 3) := by decide +kernel
theorem dX2_init_42 : decode cX2_init 42 = .ok (.dup, 1) := by decide +kernel
theorem dX2_init_43 : decode cX2_init 43 = .ok (.bipush 24, 2) := by decide +kernel
theorem dX2_init_45 : decode cX2_init 45 = .ok (.invokespecial 25, 3) := by decide +kernel
theorem dX2_init_48 : decode cX2_init 48 = .ok (.aastore, 1) := by decide +kernel
theorem dX2_init_49 : decode cX2_init 49 = .ok (.iinc 1 1, 3) := by decide +kernel
theorem dX2_init_52 : decode cX2_init 52 = .ok (.goto (-24), 3) := by decide +kernel
theorem dX2_init_55 : decode cX2_init 55 = .ok (.return_, 1) := by decide +kernel
theorem dX2_size_0 : decode cX2_size 0 = .ok (.aload_n 0, 1) := by decide +kernel
theorem dX2_size_1 : decode cX2_size 1 = .ok (.getfield 21, 3) := by decide +kernel
theorem dX2_size_4 : decode cX2_size 4 = .ok (.ireturn, 1) := by decide +kernel
theorem dX2_has_0 : decode cX2_has 0 = .ok (.iload_n 1, 1) := by decide +kernel
theorem dX2_has_1 : decode cX2_has 1 = .ok (.ifCond .lt 22, 3) := by decide +kernel
theorem dX2_has_4 : decode cX2_has 4 = .ok (.iload_n 1, 1) := by decide +kernel
theorem dX2_has_5 : decode cX2_has 5 = .ok (.bipush 80, 2) := by decide +kernel
theorem dX2_has_7 : decode cX2_has 7 = .ok (.if_icmp .ge 16, 3) := by decide +kernel
theorem dX2_has_10 : decode cX2_has 10 = .ok (.aload_n 0, 1) := by decide +kernel
theorem dX2_has_11 : decode cX2_has 11 = .ok (.getfield 9, 3) := by decide +kernel
theorem dX2_has_14 : decode cX2_has 14 = .ok (.iload_n 1, 1) := by decide +kernel
theorem dX2_has_15 : decode cX2_has 15 = .ok (.baload, 1) := by decide +kernel
theorem dX2_has_16 : decode cX2_has 16 = .ok (.ifCond .eq 7, 3) := by decide +kernel
theorem dX2_has_19 : decode cX2_has 19 = .ok (.iconst 1, 1) := by decide +kernel
theorem dX2_has_20 : decode cX2_has 20 = .ok (.goto 4, 3) := by decide +kernel
theorem dX2_has_23 : decode cX2_has 23 = .ok (.iconst 0, 1) := by decide +kernel
theorem dX2_has_24 : decode cX2_has 24 = .ok (.ireturn, 1) := by decide +kernel
theorem dX2_nameOf_0 : decode cX2_nameOf 0 = .ok (.aload_n 0, 1) := by decide +kernel
theorem dX2_nameOf_1 : decode cX2_nameOf 1 = .ok (.getfield 17, 3) := by decide +kernel
theorem dX2_nameOf_4 : decode cX2_nameOf 4 = .ok (.iload_n 1, 1) := by decide +kernel
theorem dX2_nameOf_5 : decode cX2_nameOf 5 = .ok (.ifCond .lt 13, 3) := by decide +kernel
theorem dX2_nameOf_8 : decode cX2_nameOf 8 = .ok (.iload_n 1, 1) := by decide +kernel
theorem dX2_nameOf_9 : decode cX2_nameOf 9 = .ok (.bipush 80, 2) := by decide +kernel
theorem dX2_nameOf_11 : decode cX2_nameOf 11 = .ok (.if_icmp .ge 7, 3) := by decide +kernel
theorem dX2_nameOf_14 : decode cX2_nameOf 14 = .ok (.iload_n 1, 1) := by decide +kernel
theorem dX2_nameOf_15 : decode cX2_nameOf 15 = .ok (.goto 4, 3) := by decide +kernel
theorem dX2_nameOf_18 : decode cX2_nameOf 18 = .ok (.iconst 0, 1) := by decide +kernel
theorem dX2_nameOf_19 : decode cX2_nameOf 19 = .ok (.aaload, 1) := by decide +kernel
theorem dX2_nameOf_20 : decode cX2_nameOf 20 = .ok (.areturn, 1) := by decide +kernel
theorem dX2_put_0 : decode cX2_put 0 = .ok (.aload_n 0, 1) := by decide +kernel
theorem dX2_put_1 : decode cX2_put 1 = .ok (.iload_n 1, 1) := by decide +kernel
theorem dX2_put_2 : decode cX2_put 2 = .ok (.invokevirtual 28, 3) := by decide +kernel
theorem dX2_put_5 : decode cX2_put 5 = .ok (.aload_n 2, 1) := by decide +kernel
theorem dX2_put_6 : decode cX2_put 6 = .ok (.invokevirtual 32, 3) := by decide +kernel
theorem dX2_put_9 : decode cX2_put 9 = .ok (.aload_n 0, 1) := by decide +kernel
theorem dX2_put_10 : decode cX2_put 10 = .ok (.iload_n 1, 1) := by decide +kernel
theorem dX2_put_11 : decode cX2_put 11 = .ok (.invokevirtual 36, 3) := by decide +kernel
theorem dX2_put_14 : decode cX2_put 14 = .ok (.return_, 1) := by decide +kernel
theorem dX2_putAgain_0 : decode cX2_putAgain 0 = .ok (.iload_n 1, 1) := by decide +kernel
theorem dX2_putAgain_1 : decode cX2_putAgain 1 = .ok (.ifCond .lt 35, 3) := by decide +kernel
theorem dX2_putAgain_4 : decode cX2_putAgain 4 = .ok (.iload_n 1, 1) := by decide +kernel
theorem dX2_putAgain_5 : decode cX2_putAgain 5 = .ok (.bipush 80, 2) := by decide +kernel
theorem dX2_putAgain_7 : decode cX2_putAgain 7 = .ok (.if_icmp .ge 29, 3) := by decide +kernel
theorem dX2_putAgain_10 : decode cX2_putAgain 10 = .ok (.aload_n 0, 1) := by decide +kernel
theorem dX2_putAgain_11 : decode cX2_putAgain 11 = .ok (.getfield 9, 3) := by decide +kernel
theorem dX2_putAgain_14 : decode cX2_putAgain 14 = .ok (.iload_n 1, 1) := by decide +kernel
theorem dX2_putAgain_15 : decode cX2_putAgain 15 = .ok (.baload, 1) := by decide +kernel
theorem dX2_putAgain_16 : decode cX2_putAgain 16 = .ok (.ifCond .ne 20, 3) := by decide +kernel
theorem dX2_putAgain_19 : decode cX2_putAgain 19 = .ok (.aload_n 0, 1) := by decide +kernel
theorem dX2_putAgain_20 : decode cX2_putAgain 20 = .ok (.getfield 9, 3) := by decide +kernel
theorem dX2_putAgain_23 : decode cX2_putAgain 23 = .ok (.iload_n 1, 1) := by decide +kernel
theorem dX2_putAgain_24 : decode cX2_putAgain 24 = .ok (.iconst 1, 1) := by decide +kernel
theorem dX2_putAgain_25 : decode cX2_putAgain 25 = .ok (.bastore, 1) := by decide +kernel
theorem dX2_putAgain_26 : decode cX2_putAgain 26 = .ok (.aload_n 0, 1) := by decide +kernel
theorem dX2_putAgain_27 : decode cX2_putAgain 27 = .ok (.dup, 1) := by decide +kernel
theorem dX2_putAgain_28 : decode cX2_putAgain 28 = .ok (.getfield 21, 3) := by decide +kernel
theorem dX2_putAgain_31 : decode cX2_putAgain 31 = .ok (.iconst 1, 1) := by decide +kernel
theorem dX2_putAgain_32 : decode cX2_putAgain 32 = .ok (.iadd, 1) := by decide +kernel
theorem dX2_putAgain_33 : decode cX2_putAgain 33 = .ok (.putfield 21, 3) := by decide +kernel
theorem dX2_putAgain_36 : decode cX2_putAgain 36 = .ok (.return_, 1) := by decide +kernel
theorem dX2_drop_0 : decode cX2_drop 0 = .ok (.aload_n 0, 1) := by decide +kernel
theorem dX2_drop_1 : decode cX2_drop 1 = .ok (.iload_n 1, 1) := by decide +kernel
theorem dX2_drop_2 : decode cX2_drop 2 = .ok (.invokevirtual 39, 3) := by decide +kernel
theorem dX2_drop_5 : decode cX2_drop 5 = .ok (.ifCond .eq 20, 3) := by decide +kernel
theorem dX2_drop_8 : decode cX2_drop 8 = .ok (.aload_n 0, 1) := by decide +kernel
theorem dX2_drop_9 : decode cX2_drop 9 = .ok (.getfield 9, 3) := by decide +kernel
theorem dX2_drop_12 : decode cX2_drop 12 = .ok (.iload_n 1, 1) := by decide +kernel
theorem dX2_drop_13 : decode cX2_drop 13 = .ok (.iconst 0, 1) := by decide +kernel
theorem dX2_drop_14 : decode cX2_drop 14 = .ok (.bastore, 1) := by decide +kernel
theorem dX2_drop_15 : decode cX2_drop 15 = .ok (.aload_n 0, 1) := by decide +kernel
theorem dX2_drop_16 : decode cX2_drop 16 = .ok (.dup, 1) := by decide +kernel
theorem dX2_drop_17 : decode cX2_drop 17 = .ok (.getfield 21, 3) := by decide +kernel
theorem dX2_drop_20 : decode cX2_drop 20 = .ok (.iconst 1, 1) := by decide +kernel
theorem dX2_drop_21 : decode cX2_drop 21 = .ok (.isub, 1) := by decide +kernel
theorem dX2_drop_22 : decode cX2_drop 22 = .ok (.putfield 21, 3) := by decide +kernel
theorem dX2_drop_25 : decode cX2_drop 25 = .ok (.return_, 1) := by decide +kernel
theorem dX2_clear_0 : decode cX2_clear 0 = .ok (.iconst 0, 1) := by decide +kernel
theorem dX2_clear_1 : decode cX2_clear 1 = .ok (.istore_n 1, 1) := by decide +kernel
theorem dX2_clear_2 : decode cX2_clear 2 = .ok (.iload_n 1, 1) := by decide +kernel
theorem dX2_clear_3 : decode cX2_clear 3 = .ok (.bipush 80, 2) := by decide +kernel
theorem dX2_clear_5 : decode cX2_clear 5 = .ok (.if_icmp .ge 16, 3) := by decide +kernel
theorem dX2_clear_8 : decode cX2_clear 8 = .ok (.aload_n 0, 1) := by decide +kernel
theorem dX2_clear_9 : decode cX2_clear 9 = .ok (.getfield 9, 3) := by decide +kernel
theorem dX2_clear_12 : decode cX2_clear 12 = .ok (.iload_n 1, 1) := by decide +kernel
theorem dX2_clear_13 : decode cX2_clear 13 = .ok (.iconst 0, 1) := by decide +kernel
theorem dX2_clear_14 : decode cX2_clear 14 = .ok (.bastore, 1) := by decide +kernel
theorem dX2_clear_15 : decode cX2_clear 15 = .ok (.iinc 1 1, 3) := by decide +kernel
theorem dX2_clear_18 : decode cX2_clear 18 = .ok (.goto (-16), 3) := by decide +kernel
theorem dX2_clear_21 : decode cX2_clear 21 = .ok (.aload_n 0, 1) := by decide +kernel
theorem dX2_clear_22 : decode cX2_clear 22 = .ok (.iconst 0, 1) := by decide +kernel
theorem dX2_clear_23 : decode cX2_clear 23 = .ok (.putfield 21, 3) := by decide +kernel
theorem dX2_clear_26 : decode cX2_clear 26 = .ok (.return_, 1) := by decide +kernel
theorem dX3_init_0 : decode cX3_init 0 = .ok (.aload_n 0, 1) := by decide +kernel
theorem dX3_init_1 : decode cX3_init 1 = .ok (.invokespecial 3, 3) := by decide +kernel
theorem dX3_init_4 : decode cX3_init 4 = .ok (.aload_n 0, 1) := by decide +kernel
theorem dX3_init_5 : decode cX3_init 5 = .ok (.bipush 20, 2) := by decide +kernel
theorem dX3_init_7 : decode cX3_init 7 = .ok (.newarray .int, 2) := by decide +kernel
theorem dX3_init_9 : decode cX3_init 9 = .ok (.putfield 9, 3) := by decide +kernel
theorem dX3_init_12 : decode cX3_init 12 = .ok (.aload_n 0, 1) := by decide +kernel
theorem dX3_init_13 : decode cX3_init 13 = .ok (.iconst 1, 1) := by decide +kernel
theorem dX3_init_14 : decode cX3_init 14 = .ok (.putfield 15, 3) := by decide +kernel
theorem dX3_init_17 : decode cX3_init 17 = .ok (.aload_n 0, 1) := by decide +kernel
theorem dX3_init_18 : decode cX3_init 18 = .ok (.getfield 9, 3) := by decide +kernel
theorem dX3_init_21 : decode cX3_init 21 = .ok (.iconst 0, 1) := by decide +kernel
theorem dX3_init_22 : decode cX3_init 22 = .ok (.iconst 1, 1) := by decide +kernel
theorem dX3_init_23 : decode cX3_init 23 = .ok (.iastore, 1) := by decide +kernel
theorem dX3_init_24 : decode cX3_init 24 = .ok (.return_, 1) := by decide +kernel
theorem dX3_size_0 : decode cX3_size 0 = .ok (.aload_n 0, 1) := by decide +kernel
theorem dX3_size_1 : decode cX3_size 1 = .ok (.getfield 15, 3) := by decide +kernel
theorem dX3_size_4 : decode cX3_size 4 = .ok (.ireturn, 1) := by decide +kernel
theorem dX3_isFull_0 : decode cX3_isFull 0 = .ok (.aload_n 0, 1) := by decide +kernel
theorem dX3_isFull_1 : decode cX3_isFull 1 = .ok (.getfield 15, 3) := by decide +kernel
theorem dX3_isFull_4 : decode cX3_isFull 4 = .ok (.bipush 20, 2) := by decide +kernel
theorem dX3_isFull_6 : decode cX3_isFull 6 = .ok (.if_icmp .lt 7, 3) := by decide +kernel
theorem dX3_isFull_9 : decode cX3_isFull 9 = .ok (.iconst 1, 1) := by decide +kernel
theorem dX3_isFull_10 : decode cX3_isFull 10 = .ok (.goto 4, 3) := by decide +kernel
theorem dX3_isFull_13 : decode cX3_isFull 13 = .ok (.iconst 0, 1) := by decide +kernel
theorem dX3_isFull_14 : decode cX3_isFull 14 = .ok (.ireturn, 1) := by decide +kernel
theorem dX3_has_0 : decode cX3_has 0 = .ok (.iload_n 1, 1) := by decide +kernel
theorem dX3_has_1 : decode cX3_has 1 = .ok (.ifCond .lt 15, 3) := by decide +kernel
theorem dX3_has_4 : decode cX3_has 4 = .ok (.iload_n 1, 1) := by decide +kernel
theorem dX3_has_5 : decode cX3_has 5 = .ok (.aload_n 0, 1) := by decide +kernel
theorem dX3_has_6 : decode cX3_has 6 = .ok (.getfield 15, 3) := by decide +kernel
theorem dX3_has_9 : decode cX3_has 9 = .ok (.if_icmp .ge 7, 3) := by decide +kernel
theorem dX3_has_12 : decode cX3_has 12 = .ok (.iconst 1, 1) := by decide +kernel
theorem dX3_has_13 : decode cX3_has 13 = .ok (.goto 4, 3) := by decide +kernel
theorem dX3_has_16 : decode cX3_has 16 = .ok (.iconst 0, 1) := by decide +kernel
theorem dX3_has_17 : decode cX3_has 17 = .ok (.ireturn, 1) := by decide +kernel
theorem dX3_addWithin_0 : decode cX3_addWithin 0 = .ok (.aload_n 0, 1) := by decide +kernel
theorem dX3_addWithin_1 : decode cX3_addWithin 1 = .ok (.invokevirtual 19, 3) := by decide +kernel
theorem dX3_addWithin_4 : decode cX3_addWithin 4 = .ok (.ifCond .ne 11, 3) := by decide +kernel
theorem dX3_addWithin_7 : decode cX3_addWithin 7 = .ok (.aload_n 0, 1) := by decide +kernel
theorem dX3_addWithin_8 : decode cX3_addWithin 8 = .ok (.iload_n 1, 1) := by decide +kernel
theorem dX3_addWithin_9 : decode cX3_addWithin 9 = .ok (.invokevirtual 23, 3) := by decide +kernel
theorem dX3_addWithin_12 : decode cX3_addWithin 12 = .ok (.ifCond .ne 5, 3) := by decide +kernel
theorem dX3_addWithin_15 : decode cX3_addWithin 15 = .ok (.iconst (-1), 1) := by decide +kernel
theorem dX3_addWithin_16 : decode cX3_addWithin 16 = .ok (.ireturn, 1) := by decide +kernel
theorem dX3_addWithin_17 : decode cX3_addWithin 17 = .ok (.aload_n 0, 1) := by decide +kernel
theorem dX3_addWithin_18 : decode cX3_addWithin 18 = .ok (.getfield 15, 3) := by decide +kernel
theorem dX3_addWithin_21 : decode cX3_addWithin 21 = .ok (.istore_n 2, 1) := by decide +kernel
theorem dX3_addWithin_22 : decode cX3_addWithin 22 = .ok (.aload_n 0, 1) := by decide +kernel
theorem dX3_addWithin_23 : decode cX3_addWithin 23 = .ok (.getfield 9, 3) := by decide +kernel
theorem dX3_addWithin_26 : decode cX3_addWithin 26 = .ok (.iload_n 2, 1) := by decide +kernel
theorem dX3_addWithin_27 : decode cX3_addWithin 27 = .ok (.aload_n 0, 1) := by decide +kernel
theorem dX3_addWithin_28 : decode cX3_addWithin 28 = .ok (.getfield 9, 3) := by decide +kernel
theorem dX3_addWithin_31 : decode cX3_addWithin 31 = .ok (.iload_n 1, 1) := by decide +kernel
theorem dX3_addWithin_32 : decode cX3_addWithin 32 = .ok (.iaload, 1) := by decide +kernel
theorem dX3_addWithin_33 : decode cX3_addWithin 33 = .ok (.iconst 1, 1) := by decide +kernel
theorem dX3_addWithin_34 : decode cX3_addWithin 34 = .ok (.iload_n 2, 1) := by decide +kernel
theorem dX3_addWithin_35 : decode cX3_addWithin 35 = .ok (.ishl, 1) := by decide +kernel
theorem dX3_addWithin_36 : decode cX3_addWithin 36 = .ok (.ior, 1) := by decide +kernel
theorem dX3_addWithin_37 : decode cX3_addWithin 37 = .ok (.iastore, 1) := by decide +kernel
theorem dX3_addWithin_38 : decode cX3_addWithin 38 = .ok (.aload_n 0, 1) := by decide +kernel
theorem dX3_addWithin_39 : decode cX3_addWithin 39 = .ok (.dup, 1) := by decide +kernel
theorem dX3_addWithin_40 : decode cX3_addWithin 40 = .ok (.getfield 15, 3) := by decide +kernel
theorem dX3_addWithin_43 : decode cX3_addWithin 43 = .ok (.iconst 1, 1) := by decide +kernel
theorem dX3_addWithin_44 : decode cX3_addWithin 44 = .ok (.iadd, 1) := by decide +kernel
theorem dX3_addWithin_45 : decode cX3_addWithin 45 = .ok (.putfield 15, 3) := by decide +kernel
theorem dX3_addWithin_48 : decode cX3_addWithin 48 = .ok (.iload_n 2, 1) := by decide +kernel
theorem dX3_addWithin_49 : decode cX3_addWithin 49 = .ok (.ireturn, 1) := by decide +kernel
theorem dX3_isWithin_0 : decode cX3_isWithin 0 = .ok (.aload_n 0, 1) := by decide +kernel
theorem dX3_isWithin_1 : decode cX3_isWithin 1 = .ok (.iload_n 1, 1) := by decide +kernel
theorem dX3_isWithin_2 : decode cX3_isWithin 2 = .ok (.invokevirtual 23, 3) := by decide +kernel
theorem dX3_isWithin_5 : decode cX3_isWithin 5 = .ok (.ifCond .eq 29, 3) := by decide +kernel
theorem dX3_isWithin_8 : decode cX3_isWithin 8 = .ok (.aload_n 0, 1) := by decide +kernel
theorem dX3_isWithin_9 : decode cX3_isWithin 9 = .ok (.iload_n 2, 1) := by decide +kernel
theorem dX3_isWithin_10 : decode cX3_isWithin 10 = .ok (.invokevirtual 23, 3) := by decide +kernel
theorem dX3_isWithin_13 : decode cX3_isWithin 13 = .ok (.ifCond .eq 21, 3) := by decide +kernel
theorem dX3_isWithin_16 : decode cX3_isWithin 16 = .ok (.aload_n 0, 1) := by decide +kernel
theorem dX3_isWithin_17 : decode cX3_isWithin 17 = .ok (.getfield 9, 3) := by decide +kernel
theorem dX3_isWithin_20 : decode cX3_isWithin 20 = .ok (.iload_n 1, 1) := by decide +kernel
theorem dX3_isWithin_21 : decode cX3_isWithin 21 = .ok (.iaload, 1) := by decide +kernel
theorem dX3_isWithin_22 : decode cX3_isWithin 22 = .ok (.iload_n 2, 1) := by decide +kernel
theorem dX3_isWithin_23 : decode cX3_isWithin 23 = .ok (.ishr, 1) := by decide +kernel
theorem dX3_isWithin_24 : decode cX3_isWithin 24 = .ok (.iconst 1, 1) := by decide +kernel
theorem dX3_isWithin_25 : decode cX3_isWithin 25 = .ok (.iand, 1) := by decide +kernel
theorem dX3_isWithin_26 : decode cX3_isWithin 26 = .ok (.iconst 1, 1) := by decide +kernel
theorem dX3_isWithin_27 : decode cX3_isWithin 27 = .ok (.if_icmp .ne 7, 3) := by decide +kernel
theorem dX3_isWithin_30 : decode cX3_isWithin 30 = .ok (.iconst 1, 1) := by decide +kernel
theorem dX3_isWithin_31 : decode cX3_isWithin 31 = .ok (.goto 4, 3) := by decide +kernel
theorem dX3_isWithin_34 : decode cX3_isWithin 34 = .ok (.iconst 0, 1) := by decide +kernel
theorem dX3_isWithin_35 : decode cX3_isWithin 35 = .ok (.ireturn, 1) := by decide +kernel
theorem dX4_init_0 : decode cX4_init 0 = .ok (.aload_n 0, 1) := by decide +kernel
theorem dX4_init_1 : decode cX4_init 1 = .ok (.invokespecial 3, 3) := by decide +kernel
theorem dX4_init_4 : decode cX4_init 4 = .ok (.aload_n 0, 1) := by decide +kernel
theorem dX4_init_5 : decode cX4_init 5 = .ok (.iconst 0, 1) := by decide +kernel
theorem dX4_init_6 : decode cX4_init 6 = .ok (.putfield 9, 3) := by decide +kernel
theorem dX4_init_9 : decode cX4_init 9 = .ok (.aload_n 0, 1) := by decide +kernel
theorem dX4_init_10 : decode cX4_init 10 = .ok (.iconst 0, 1) := by decide +kernel
theorem dX4_init_11 : decode cX4_init 11 = .ok (.putfield 15, 3) := by decide +kernel
theorem dX4_init_14 : decode cX4_init 14 = .ok (.aload_n 0, 1) := by decide +kernel
theorem dX4_init_15 : decode cX4_init 15 = .ok (.iload_n 1, 1) := by decide +kernel
theorem dX4_init_16 : decode cX4_init 16 = .ok (.ifCond .le 7, 3) := by decide +kernel
theorem dX4_init_19 : decode cX4_init 19 = .ok (.iload_n 1, 1) := by decide +kernel
theorem dX4_init_20 : decode cX4_init 20 = .ok (.goto 4, 3) := by decide +kernel
theorem dX4_init_23 : decode cX4_init 23 = .ok (.iconst 0, 1) := by decide +kernel
theorem dX4_init_24 : decode cX4_init 24 = .ok (.newarray .int, 2) := by decide +kernel
theorem dX4_init_26 : decode cX4_init 26 = .ok (.putfield 19, 3) := by decide +kernel
theorem dX4_init_29 : decode cX4_init 29 = .ok (.return_, 1) := by decide +kernel
theorem dX4_size_0 : decode cX4_size 0 = .ok (.aload_n 0, 1) := by decide +kernel
theorem dX4_size_1 : decode cX4_size 1 = .ok (.getfield 9, 3) := by decide +kernel
theorem dX4_size_4 : decode cX4_size 4 = .ok (.ireturn, 1) := by decide +kernel
theorem dX4_has_0 : decode cX4_has 0 = .ok (.iload_n 1, 1) := by decide +kernel
theorem dX4_has_1 : decode cX4_has 1 = .ok (.ifCond .lt 15, 3) := by decide +kernel
theorem dX4_has_4 : decode cX4_has 4 = .ok (.iload_n 1, 1) := by decide +kernel
theorem dX4_has_5 : decode cX4_has 5 = .ok (.aload_n 0, 1) := by decide +kernel
theorem dX4_has_6 : decode cX4_has 6 = .ok (.getfield 9, 3) := by decide +kernel
theorem dX4_has_9 : decode cX4_has 9 = .ok (.if_icmp .ge 7, 3) := by decide +kernel
theorem dX4_has_12 : decode cX4_has 12 = .ok (.iconst 1, 1) := by decide +kernel
theorem dX4_has_13 : decode cX4_has 13 = .ok (.goto 4, 3) := by decide +kernel
theorem dX4_has_16 : decode cX4_has 16 = .ok (.iconst 0, 1) := by decide +kernel
theorem dX4_has_17 : decode cX4_has 17 = .ok (.ireturn, 1) := by decide +kernel
theorem dX4_at_0 : decode cX4_at 0 = .ok (.aload_n 0, 1) := by decide +kernel
theorem dX4_at_1 : decode cX4_at 1 = .ok (.iload_n 1, 1) := by decide +kernel
theorem dX4_at_2 : decode cX4_at 2 = .ok (.invokevirtual 23, 3) := by decide +kernel
theorem dX4_at_5 : decode cX4_at 5 = .ok (.ifCond .eq 12, 3) := by decide +kernel
theorem dX4_at_8 : decode cX4_at 8 = .ok (.aload_n 0, 1) := by decide +kernel
theorem dX4_at_9 : decode cX4_at 9 = .ok (.getfield 19, 3) := by decide +kernel
theorem dX4_at_12 : decode cX4_at 12 = .ok (.iload_n 1, 1) := by decide +kernel
theorem dX4_at_13 : decode cX4_at 13 = .ok (.iaload, 1) := by decide +kernel
theorem dX4_at_14 : decode cX4_at 14 = .ok (.goto 4, 3) := by decide +kernel
theorem dX4_at_17 : decode cX4_at 17 = .ok (.iconst 0, 1) := by decide +kernel
theorem dX4_at_18 : decode cX4_at 18 = .ok (.ireturn, 1) := by decide +kernel
theorem dX4_clear_0 : decode cX4_clear 0 = .ok (.aload_n 0, 1) := by decide +kernel
theorem dX4_clear_1 : decode cX4_clear 1 = .ok (.iconst 0, 1) := by decide +kernel
theorem dX4_clear_2 : decode cX4_clear 2 = .ok (.putfield 9, 3) := by decide +kernel
theorem dX4_clear_5 : decode cX4_clear 5 = .ok (.aload_n 0, 1) := by decide +kernel
theorem dX4_clear_6 : decode cX4_clear 6 = .ok (.iconst 0, 1) := by decide +kernel
theorem dX4_clear_7 : decode cX4_clear 7 = .ok (.putfield 15, 3) := by decide +kernel
theorem dX4_clear_10 : decode cX4_clear 10 = .ok (.return_, 1) := by decide +kernel
theorem dX4_add_0 : decode cX4_add 0 = .ok (.aload_n 0, 1) := by decide +kernel
theorem dX4_add_1 : decode cX4_add 1 = .ok (.getfield 9, 3) := by decide +kernel
theorem dX4_add_4 : decode cX4_add 4 = .ok (.aload_n 0, 1) := by decide +kernel
theorem dX4_add_5 : decode cX4_add 5 = .ok (.getfield 19, 3) := by decide +kernel
theorem dX4_add_8 : decode cX4_add 8 = .ok (.arraylength, 1) := by decide +kernel
theorem dX4_add_9 : decode cX4_add 9 = .ok (.if_icmp .ge 26, 3) := by decide +kernel
theorem dX4_add_12 : decode cX4_add 12 = .ok (.aload_n 0, 1) := by decide +kernel
theorem dX4_add_13 : decode cX4_add 13 = .ok (.getfield 19, 3) := by decide +kernel
theorem dX4_add_16 : decode cX4_add 16 = .ok (.aload_n 0, 1) := by decide +kernel
theorem dX4_add_17 : decode cX4_add 17 = .ok (.getfield 9, 3) := by decide +kernel
theorem dX4_add_20 : decode cX4_add 20 = .ok (.iload_n 1, 1) := by decide +kernel
theorem dX4_add_21 : decode cX4_add 21 = .ok (.iastore, 1) := by decide +kernel
theorem dX4_add_22 : decode cX4_add 22 = .ok (.aload_n 0, 1) := by decide +kernel
theorem dX4_add_23 : decode cX4_add 23 = .ok (.dup, 1) := by decide +kernel
theorem dX4_add_24 : decode cX4_add 24 = .ok (.getfield 9, 3) := by decide +kernel
theorem dX4_add_27 : decode cX4_add 27 = .ok (.iconst 1, 1) := by decide +kernel
theorem dX4_add_28 : decode cX4_add 28 = .ok (.iadd, 1) := by decide +kernel
theorem dX4_add_29 : decode cX4_add 29 = .ok (.putfield 9, 3) := by decide +kernel
theorem dX4_add_32 : decode cX4_add 32 = .ok (.goto 8, 3) := by decide +kernel
theorem dX4_add_35 : decode cX4_add 35 = .ok (.aload_n 0, 1) := by decide +kernel
theorem dX4_add_36 : decode cX4_add 36 = .ok (.iconst 1, 1) := by decide +kernel
theorem dX4_add_37 : decode cX4_add 37 = .ok (.putfield 15, 3) := by decide +kernel
theorem dX4_add_40 : decode cX4_add 40 = .ok (.return_, 1) := by decide +kernel
theorem dX4_addNumber_0 : decode cX4_addNumber 0 = .ok (.bipush 24, 2) := by decide +kernel
theorem dX4_addNumber_2 : decode cX4_addNumber 2 = .ok (.istore_n 2, 1) := by decide +kernel
theorem dX4_addNumber_3 : decode cX4_addNumber 3 = .ok (.iload_n 2, 1) := by decide +kernel
theorem dX4_addNumber_4 : decode cX4_addNumber 4 = .ok (.ifCond .lt 20, 3) := by decide +kernel
theorem dX4_addNumber_7 : decode cX4_addNumber 7 = .ok (.aload_n 0, 1) := by decide +kernel
theorem dX4_addNumber_8 : decode cX4_addNumber 8 = .ok (.iload_n 1, 1) := by decide +kernel
theorem dX4_addNumber_9 : decode cX4_addNumber 9 = .ok (.iload_n 2, 1) := by decide +kernel
theorem dX4_addNumber_10 : decode cX4_addNumber 10 = .ok (.ishr, 1) := by decide +kernel
theorem dX4_addNumber_11 : decode cX4_addNumber 11 = .ok (.sipush 255, 3) := by decide +kernel
theorem dX4_addNumber_14 : decode cX4_addNumber 14 = .ok (.iand, 1) := by decide +kernel
theorem dX4_addNumber_15 : decode cX4_addNumber 15 = .ok (.invokevirtual 27, 3) := by decide +kernel
theorem dX4_addNumber_18 : decode cX4_addNumber 18 = .ok (.iinc 2 (-8), 3) := by decide +kernel
theorem dX4_addNumber_21 : decode cX4_addNumber 21 = .ok (.goto (-18), 3) := by decide +kernel
theorem dX4_addNumber_24 : decode cX4_addNumber 24 = .ok (.return_, 1) := by decide +kernel
theorem dX4_set_0 : decode cX4_set 0 = .ok (.aload_n 0, 1) := by decide +kernel
theorem dX4_set_1 : decode cX4_set 1 = .ok (.invokevirtual 31, 3) := by decide +kernel
theorem dX4_set_4 : decode cX4_set 4 = .ok (.iconst 0, 1) := by decide +kernel
theorem dX4_set_5 : decode cX4_set 5 = .ok (.istore_n 2, 1) := by decide +kernel
theorem dX4_set_6 : decode cX4_set 6 = .ok (.iload_n 2, 1) := by decide +kernel
theorem dX4_set_7 : decode cX4_set 7 = .ok (.aload_n 1, 1) := by decide +kernel
theorem dX4_set_8 : decode cX4_set 8 = .ok (.getfield 9, 3) := by decide +kernel
theorem dX4_set_11 : decode cX4_set 11 = .ok (.if_icmp .ge 19, 3) := by decide +kernel
theorem dX4_set_14 : decode cX4_set 14 = .ok (.aload_n 0, 1) := by decide +kernel
theorem dX4_set_15 : decode cX4_set 15 = .ok (.aload_n 1, 1) := by decide +kernel
theorem dX4_set_16 : decode cX4_set 16 = .ok (.getfield 19, 3) := by decide +kernel
theorem dX4_set_19 : decode cX4_set 19 = .ok (.iload_n 2, 1) := by decide +kernel
theorem dX4_set_20 : decode cX4_set 20 = .ok (.iaload, 1) := by decide +kernel
theorem dX4_set_21 : decode cX4_set 21 = .ok (.invokevirtual 27, 3) := by decide +kernel
theorem dX4_set_24 : decode cX4_set 24 = .ok (.iinc 2 1, 3) := by decide +kernel
theorem dX4_set_27 : decode cX4_set 27 = .ok (.goto (-21), 3) := by decide +kernel
theorem dX4_set_30 : decode cX4_set 30 = .ok (.return_, 1) := by decide +kernel
theorem dX4_same_0 : decode cX4_same 0 = .ok (.aload_n 0, 1) := by decide +kernel
theorem dX4_same_1 : decode cX4_same 1 = .ok (.getfield 9, 3) := by decide +kernel
theorem dX4_same_4 : decode cX4_same 4 = .ok (.aload_n 1, 1) := by decide +kernel
theorem dX4_same_5 : decode cX4_same 5 = .ok (.getfield 9, 3) := by decide +kernel
theorem dX4_same_8 : decode cX4_same 8 = .ok (.if_icmp .eq 5, 3) := by decide +kernel
theorem dX4_same_11 : decode cX4_same 11 = .ok (.iconst 0, 1) := by decide +kernel
theorem dX4_same_12 : decode cX4_same 12 = .ok (.ireturn, 1) := by decide +kernel
theorem dX4_same_13 : decode cX4_same 13 = .ok (.iconst 0, 1) := by decide +kernel
theorem dX4_same_14 : decode cX4_same 14 = .ok (.istore_n 2, 1) := by decide +kernel
theorem dX4_same_15 : decode cX4_same 15 = .ok (.iload_n 2, 1) := by decide +kernel
theorem dX4_same_16 : decode cX4_same 16 = .ok (.aload_n 0, 1) := by decide +kernel
theorem dX4_same_17 : decode cX4_same 17 = .ok (.getfield 9, 3) := by decide +kernel
theorem dX4_same_20 : decode cX4_same 20 = .ok (.if_icmp .ge 26, 3) := by decide +kernel
theorem dX4_same_23 : decode cX4_same 23 = .ok (.aload_n 0, 1) := by decide +kernel
theorem dX4_same_24 : decode cX4_same 24 = .ok (.getfield 19, 3) := by decide +kernel
theorem dX4_same_27 : decode cX4_same 27 = .ok (.iload_n 2, 1) := by decide +kernel
theorem dX4_same_28 : decode cX4_same 28 = .ok (.iaload, 1) := by decide +kernel
theorem dX4_same_29 : decode cX4_same 29 = .ok (.aload_n 1, 1) := by decide +kernel
theorem dX4_same_30 : decode cX4_same 30 = .ok (.getfield 19, 3) := by decide +kernel
theorem dX4_same_33 : decode cX4_same 33 = .ok (.iload_n 2, 1) := by decide +kernel
theorem dX4_same_34 : decode cX4_same 34 = .ok (.iaload, 1) := by decide +kernel
theorem dX4_same_35 : decode cX4_same 35 = .ok (.if_icmp .eq 5, 3) := by decide +kernel
theorem dX4_same_38 : decode cX4_same 38 = .ok (.iconst 0, 1) := by decide +kernel
theorem dX4_same_39 : decode cX4_same 39 = .ok (.ireturn, 1) := by decide +kernel
theorem dX4_same_40 : decode cX4_same 40 = .ok (.iinc 2 1, 3) := by decide +kernel
theorem dX4_same_43 : decode cX4_same 43 = .ok (.goto (-28), 3) := by decide +kernel
theorem dX4_same_46 : decode cX4_same 46 = .ok (.iconst 1, 1) := by decide +kernel
theorem dX4_same_47 : decode cX4_same 47 = .ok (.ireturn, 1) := by decide +kernel
theorem dX4_isName_0 : decode cX4_isName 0 = .ok (.aload_n 0, 1) := by decide +kernel
theorem dX4_isName_1 : decode cX4_isName 1 = .ok (.getfield 15, 3) := by decide +kernel
theorem dX4_isName_4 : decode cX4_isName 4 = .ok (.ifCond .ne 31, 3) := by decide +kernel
theorem dX4_isName_7 : decode cX4_isName 7 = .ok (.aload_n 0, 1) := by decide +kernel
theorem dX4_isName_8 : decode cX4_isName 8 = .ok (.getfield 9, 3) := by decide +kernel
theorem dX4_isName_11 : decode cX4_isName 11 = .ok (.ifCond .eq 24, 3) := by decide +kernel
theorem dX4_isName_14 : decode cX4_isName 14 = .ok (.aload_n 0, 1) := by decide +kernel
theorem dX4_isName_15 : decode cX4_isName 15 = .ok (.getfield 9, 3) := by decide +kernel
theorem dX4_isName_18 : decode cX4_isName 18 = .ok (.bipush 24, 2) := by decide +kernel
theorem dX4_isName_20 : decode cX4_isName 20 = .ok (.if_icmp .gt 15, 3) := by decide +kernel
theorem dX4_isName_23 : decode cX4_isName 23 = .ok (.aload_n 0, 1) := by decide +kernel
theorem dX4_isName_24 : decode cX4_isName 24 = .ok (.getfield 19, 3) := by decide +kernel
theorem dX4_isName_27 : decode cX4_isName 27 = .ok (.iconst 0, 1) := by decide +kernel
theorem dX4_isName_28 : decode cX4_isName 28 = .ok (.iaload, 1) := by decide +kernel
theorem dX4_isName_29 : decode cX4_isName 29 = .ok (.invokestatic 34, 3) := by decide +kernel
theorem dX4_isName_32 : decode cX4_isName 32 = .ok (.ifCond .eq 5, 3) := by decide +kernel
theorem dX4_isName_35 : decode cX4_isName 35 = .ok (.iconst 0, 1) := by decide +kernel
theorem dX4_isName_36 : decode cX4_isName 36 = .ok (.ireturn, 1) := by decide +kernel
theorem dX4_isName_37 : decode cX4_isName 37 = .ok (.iconst 0, 1) := by decide +kernel
theorem dX4_isName_38 : decode cX4_isName 38 = .ok (.istore_n 1, 1) := by decide +kernel
theorem dX4_isName_39 : decode cX4_isName 39 = .ok (.iconst 0, 1) := by decide +kernel
theorem dX4_isName_40 : decode cX4_isName 40 = .ok (.istore_n 2, 1) := by decide +kernel
theorem dX4_isName_41 : decode cX4_isName 41 = .ok (.iload_n 2, 1) := by decide +kernel
theorem dX4_isName_42 : decode cX4_isName 42 = .ok (.aload_n 0, 1) := by decide +kernel
theorem dX4_isName_43 : decode cX4_isName 43 = .ok (.getfield 9, 3) := by decide +kernel
theorem dX4_isName_46 : decode cX4_isName 46 = .ok (.if_icmp .ge 51, 3) := by decide +kernel
theorem dX4_isName_49 : decode cX4_isName 49 = .ok (.aload_n 0, 1) := by decide +kernel
theorem dX4_isName_50 : decode cX4_isName 50 = .ok (.getfield 19, 3) := by decide +kernel
theorem dX4_isName_53 : decode cX4_isName 53 = .ok (.iload_n 2, 1) := by decide +kernel
theorem dX4_isName_54 : decode cX4_isName 54 = .ok (.iaload, 1) := by decide +kernel
theorem dX4_isName_55 : decode cX4_isName 55 = .ok (.invokestatic 37, 3) := by decide +kernel
theorem dX4_isName_58 : decode cX4_isName 58 = .ok (.ifCond .eq 8, 3) := by decide +kernel
theorem dX4_isName_61 : decode cX4_isName 61 = .ok (.iconst 1, 1) := by decide +kernel
theorem dX4_isName_62 : decode cX4_isName 62 = .ok (.istore_n 1, 1) := by decide +kernel
theorem dX4_isName_63 : decode cX4_isName 63 = .ok (.goto 28, 3) := by decide +kernel
theorem dX4_isName_66 : decode cX4_isName 66 = .ok (.aload_n 0, 1) := by decide +kernel
theorem dX4_isName_67 : decode cX4_isName 67 = .ok (.getfield 19, 3) := by decide +kernel
theorem dX4_isName_70 : decode cX4_isName 70 = .ok (.iload_n 2, 1) := by decide +kernel
theorem dX4_isName_71 : decode cX4_isName 71 = .ok (.iaload, 1) := by decide +kernel
theorem dX4_isName_72 : decode cX4_isName 72 = .ok (.invokestatic 34, 3) := by decide +kernel
theorem dX4_isName_75 : decode cX4_isName 75 = .ok (.ifCond .ne 16, 3) := by decide +kernel
theorem dX4_isName_78 : decode cX4_isName 78 = .ok (.aload_n 0, 1) := by decide +kernel
theorem dX4_isName_79 : decode cX4_isName 79 = .ok (.getfield 19, 3) := by decide +kernel
theorem dX4_isName_82 : decode cX4_isName 82 = .ok (.iload_n 2, 1) := by decide +kernel
theorem dX4_isName_83 : decode cX4_isName 83 = .ok (.iaload, 1) := by decide +kernel
theorem dX4_isName_84 : decode cX4_isName 84 = .ok (.bipush 95, 2) := by decide +kernel
theorem dX4_isName_86 : decode cX4_isName 86 = .ok (.if_icmp .eq 5, 3) := by decide +kernel
theorem dX4_isName_89 : decode cX4_isName 89 = .ok (.iconst 0, 1) := by decide +kernel
theorem dX4_isName_90 : decode cX4_isName 90 = .ok (.ireturn, 1) := by decide +kernel
theorem dX4_isName_91 : decode cX4_isName 91 = .ok (.iinc 2 1, 3) := by decide +kernel
theorem dX4_isName_94 : decode cX4_isName 94 = .ok (.goto (-53), 3) := by decide +kernel
theorem dX4_isName_97 : decode cX4_isName 97 = .ok (.iload_n 1, 1) := by decide +kernel
theorem dX4_isName_98 : decode cX4_isName 98 = .ok (.ireturn, 1) := by decide +kernel
theorem dX4_isWord_0 : decode cX4_isWord 0 = .ok (.aload_n 0, 1) := by decide +kernel
theorem dX4_isWord_1 : decode cX4_isWord 1 = .ok (.getfield 15, 3) := by decide +kernel
theorem dX4_isWord_4 : decode cX4_isWord 4 = .ok (.ifCond .ne 19, 3) := by decide +kernel
theorem dX4_isWord_7 : decode cX4_isWord 7 = .ok (.aload_n 0, 1) := by decide +kernel
theorem dX4_isWord_8 : decode cX4_isWord 8 = .ok (.getfield 9, 3) := by decide +kernel
theorem dX4_isWord_11 : decode cX4_isWord 11 = .ok (.ifCond .eq 12, 3) := by decide +kernel
theorem dX4_isWord_14 : decode cX4_isWord 14 = .ok (.aload_n 0, 1) := by decide +kernel
theorem dX4_isWord_15 : decode cX4_isWord 15 = .ok (.getfield 9, 3) := by decide +kernel
theorem dX4_isWord_18 : decode cX4_isWord 18 = .ok (.bipush 12, 2) := by decide +kernel
theorem dX4_isWord_20 : decode cX4_isWord 20 = .ok (.if_icmp .le 5, 3) := by decide +kernel
theorem dX4_isWord_23 : decode cX4_isWord 23 = .ok (.iconst 0, 1) := by decide +kernel
theorem dX4_isWord_24 : decode cX4_isWord 24 = .ok (.ireturn, 1) := by decide +kernel
theorem dX4_isWord_25 : decode cX4_isWord 25 = .ok (.iconst 0, 1) := by decide +kernel
theorem dX4_isWord_26 : decode cX4_isWord 26 = .ok (.istore_n 1, 1) := by decide +kernel
theorem dX4_isWord_27 : decode cX4_isWord 27 = .ok (.iload_n 1, 1) := by decide +kernel
theorem dX4_isWord_28 : decode cX4_isWord 28 = .ok (.aload_n 0, 1) := by decide +kernel
theorem dX4_isWord_29 : decode cX4_isWord 29 = .ok (.getfield 9, 3) := by decide +kernel
theorem dX4_isWord_32 : decode cX4_isWord 32 = .ok (.if_icmp .ge 23, 3) := by decide +kernel
theorem dX4_isWord_35 : decode cX4_isWord 35 = .ok (.aload_n 0, 1) := by decide +kernel
theorem dX4_isWord_36 : decode cX4_isWord 36 = .ok (.getfield 19, 3) := by decide +kernel
theorem dX4_isWord_39 : decode cX4_isWord 39 = .ok (.iload_n 1, 1) := by decide +kernel
theorem dX4_isWord_40 : decode cX4_isWord 40 = .ok (.iaload, 1) := by decide +kernel
theorem dX4_isWord_41 : decode cX4_isWord 41 = .ok (.invokestatic 40, 3) := by decide +kernel
theorem dX4_isWord_44 : decode cX4_isWord 44 = .ok (.ifCond .ne 5, 3) := by decide +kernel
theorem dX4_isWord_47 : decode cX4_isWord 47 = .ok (.iconst 0, 1) := by decide +kernel
theorem dX4_isWord_48 : decode cX4_isWord 48 = .ok (.ireturn, 1) := by decide +kernel
theorem dX4_isWord_49 : decode cX4_isWord 49 = .ok (.iinc 1 1, 3) := by decide +kernel
theorem dX4_isWord_52 : decode cX4_isWord 52 = .ok (.goto (-25), 3) := by decide +kernel
theorem dX4_isWord_55 : decode cX4_isWord 55 = .ok (.iconst 1, 1) := by decide +kernel
theorem dX4_isWord_56 : decode cX4_isWord 56 = .ok (.ireturn, 1) := by decide +kernel
theorem dX4_style_0 : decode cX4_style 0 = .ok (.iconst 0, 1) := by decide +kernel
theorem dX4_style_1 : decode cX4_style 1 = .ok (.istore_n 1, 1) := by decide +kernel
theorem dX4_style_2 : decode cX4_style 2 = .ok (.iconst 0, 1) := by decide +kernel
theorem dX4_style_3 : decode cX4_style 3 = .ok (.istore_n 2, 1) := by decide +kernel
theorem dX4_style_4 : decode cX4_style 4 = .ok (.iconst 0, 1) := by decide +kernel
theorem dX4_style_5 : decode cX4_style 5 = .ok (.istore_n 3, 1) := by decide +kernel
theorem dX4_style_6 : decode cX4_style 6 = .ok (.iconst 0, 1) := by decide +kernel
theorem dX4_style_7 : decode cX4_style 7 = .ok (.istore 4, 2) := by decide +kernel
theorem dX4_style_9 : decode cX4_style 9 = .ok (.iconst 0, 1) := by decide +kernel
theorem dX4_style_10 : decode cX4_style 10 = .ok (.istore 5, 2) := by decide +kernel
theorem dX4_style_12 : decode cX4_style 12 = .ok (.iload 5, 2) := by decide +kernel
theorem dX4_style_14 : decode cX4_style 14 = .ok (.aload_n 0, 1) := by decide +kernel
theorem dX4_style_15 : decode cX4_style 15 = .ok (.getfield 9, 3) := by decide +kernel
theorem dX4_style_18 : decode cX4_style 18 = .ok (.if_icmp .ge 95, 3) := by decide +kernel
theorem dX4_style_21 : decode cX4_style 21 = .ok (.aload_n 0, 1) := by decide +kernel
theorem dX4_style_22 : decode cX4_style 22 = .ok (.getfield 19, 3) := by decide +kernel
theorem dX4_style_25 : decode cX4_style 25 = .ok (.iload 5, 2) := by decide +kernel
theorem dX4_style_27 : decode cX4_style 27 = .ok (.iaload, 1) := by decide +kernel
theorem dX4_style_28 : decode cX4_style 28 = .ok (.istore 6, 2) := by decide +kernel
theorem dX4_style_30 : decode cX4_style 30 = .ok (.iload 4, 2) := by decide +kernel
theorem dX4_style_32 : decode cX4_style 32 = .ok (.ifCond .ne 15, 3) := by decide +kernel
theorem dX4_style_35 : decode cX4_style 35 = .ok (.iload 6, 2) := by decide +kernel
theorem dX4_style_37 : decode cX4_style 37 = .ok (.invokestatic 43, 3) := by decide +kernel
theorem dX4_style_40 : decode cX4_style 40 = .ok (.ifCond .eq 11, 3) := by decide +kernel
theorem dX4_style_43 : decode cX4_style 43 = .ok (.iload_n 3, 1) := by decide +kernel
theorem dX4_style_44 : decode cX4_style 44 = .ok (.ifCond .ne 7, 3) := by decide +kernel
theorem dX4_style_47 : decode cX4_style 47 = .ok (.iconst 1, 1) := by decide +kernel
theorem dX4_style_48 : decode cX4_style 48 = .ok (.goto 4, 3) := by decide +kernel
theorem dX4_style_51 : decode cX4_style 51 = .ok (.iconst 0, 1) := by decide +kernel
theorem dX4_style_52 : decode cX4_style 52 = .ok (.istore 4, 2) := by decide +kernel
theorem dX4_style_54 : decode cX4_style 54 = .ok (.iload_n 1, 1) := by decide +kernel
theorem dX4_style_55 : decode cX4_style 55 = .ok (.ifCond .ne 10, 3) := by decide +kernel
theorem dX4_style_58 : decode cX4_style 58 = .ok (.iload 6, 2) := by decide +kernel
theorem dX4_style_60 : decode cX4_style 60 = .ok (.bipush 95, 2) := by decide +kernel
theorem dX4_style_62 : decode cX4_style 62 = .ok (.if_icmp .ne 7, 3) := by decide +kernel
theorem dX4_style_65 : decode cX4_style 65 = .ok (.iconst 1, 1) := by decide +kernel
theorem dX4_style_66 : decode cX4_style 66 = .ok (.goto 4, 3) := by decide +kernel
theorem dX4_style_69 : decode cX4_style 69 = .ok (.iconst 0, 1) := by decide +kernel
theorem dX4_style_70 : decode cX4_style 70 = .ok (.istore_n 1, 1) := by decide +kernel
theorem dX4_style_71 : decode cX4_style 71 = .ok (.iload_n 2, 1) := by decide +kernel
theorem dX4_style_72 : decode cX4_style 72 = .ok (.ifCond .ne 11, 3) := by decide +kernel
theorem dX4_style_75 : decode cX4_style 75 = .ok (.iload 6, 2) := by decide +kernel
theorem dX4_style_77 : decode cX4_style 77 = .ok (.invokestatic 43, 3) := by decide +kernel
theorem dX4_style_80 : decode cX4_style 80 = .ok (.ifCond .eq 7, 3) := by decide +kernel
theorem dX4_style_83 : decode cX4_style 83 = .ok (.iconst 1, 1) := by decide +kernel
theorem dX4_style_84 : decode cX4_style 84 = .ok (.goto 4, 3) := by decide +kernel
theorem dX4_style_87 : decode cX4_style 87 = .ok (.iconst 0, 1) := by decide +kernel
theorem dX4_style_88 : decode cX4_style 88 = .ok (.istore_n 2, 1) := by decide +kernel
theorem dX4_style_89 : decode cX4_style 89 = .ok (.iload_n 3, 1) := by decide +kernel
theorem dX4_style_90 : decode cX4_style 90 = .ok (.ifCond .ne 11, 3) := by decide +kernel
theorem dX4_style_93 : decode cX4_style 93 = .ok (.iload 6, 2) := by decide +kernel
theorem dX4_style_95 : decode cX4_style 95 = .ok (.invokestatic 40, 3) := by decide +kernel
theorem dX4_style_98 : decode cX4_style 98 = .ok (.ifCond .eq 7, 3) := by decide +kernel
theorem dX4_style_101 : decode cX4_style 101 = .ok (.iconst 1, 1) := by decide +kernel
theorem dX4_style_102 : decode cX4_style 102 = .ok (.goto 4, 3) := by decide +kernel
theorem dX4_style_105 : decode cX4_style 105 = .ok (.iconst 0, 1) := by decide +kernel
theorem dX4_style_106 : decode cX4_style 106 = .ok (.istore_n 3, 1) := by decide +kernel
theorem dX4_style_107 : decode cX4_style 107 = .ok (.iinc 5 1, 3) := by decide +kernel
theorem dX4_style_110 : decode cX4_style 110 = .ok (.goto (-98), 3) := by decide +kernel
theorem dX4_style_113 : decode cX4_style 113 = .ok (.iload_n 1, 1) := by decide +kernel
theorem dX4_style_114 : decode cX4_style 114 = .ok (.ifCond .eq 9, 3) := by decide +kernel
theorem dX4_style_117 : decode cX4_style 117 = .ok (.iload_n 2, 1) := by decide +kernel
theorem dX4_style_118 : decode cX4_style 118 = .ok (.ifCond .ne 5, 3) := by decide +kernel
theorem dX4_style_121 : decode cX4_style 121 = .ok (.iconst 2, 1) := by decide +kernel
theorem dX4_style_122 : decode cX4_style 122 = .ok (.ireturn, 1) := by decide +kernel
theorem dX4_style_123 : decode cX4_style 123 = .ok (.iload_n 1, 1) := by decide +kernel
theorem dX4_style_124 : decode cX4_style 124 = .ok (.ifCond .eq 9, 3) := by decide +kernel
theorem dX4_style_127 : decode cX4_style 127 = .ok (.iload_n 3, 1) := by decide +kernel
theorem dX4_style_128 : decode cX4_style 128 = .ok (.ifCond .ne 5, 3) := by decide +kernel
theorem dX4_style_131 : decode cX4_style 131 = .ok (.iconst 3, 1) := by decide +kernel
theorem dX4_style_132 : decode cX4_style 132 = .ok (.ireturn, 1) := by decide +kernel
theorem dX4_style_133 : decode cX4_style 133 = .ok (.iload 4, 2) := by decide +kernel
theorem dX4_style_135 : decode cX4_style 135 = .ok (.ifCond .eq 7, 3) := by decide +kernel
theorem dX4_style_138 : decode cX4_style 138 = .ok (.iconst 1, 1) := by decide +kernel
theorem dX4_style_139 : decode cX4_style 139 = .ok (.goto 4, 3) := by decide +kernel
theorem dX4_style_142 : decode cX4_style 142 = .ok (.iconst 0, 1) := by decide +kernel
theorem dX4_style_143 : decode cX4_style 143 = .ok (.ireturn, 1) := by decide +kernel
theorem dX5_init_0 : decode cX5_init 0 = .ok (.aload_n 0, 1) := by decide +kernel
theorem dX5_init_1 : decode cX5_init 1 = .ok (.invokespecial 3, 3) := by decide +kernel
theorem dX5_init_4 : decode cX5_init 4 = .ok (.aload_n 0, 1) := by decide +kernel
theorem dX5_init_5 : decode cX5_init 5 = .ok (.bipush 80, 2) := by decide +kernel
theorem dX5_init_7 : decode cX5_init 7 = .ok (.newarray .int, 2) := by decide +kernel
theorem dX5_init_9 : decode cX5_init 9 = .ok (.putfield 9, 3) := by decide +kernel
theorem dX5_init_12 : decode cX5_init 12 = .ok (.aload_n 0, 1) := by decide +kernel
theorem dX5_init_13 : decode cX5_init 13 = .ok (.bipush 80, 2) := by decide +kernel
theorem dX5_init_15 : decode cX5_init 15 = .ok (.newarray .int, 2) := by decide +kernel
theorem dX5_init_17 : decode cX5_init 17 = .ok (.putfield 15, 3) := by decide +kernel
theorem dX5_init_20 : decode cX5_init 20 = .ok (.aload_n 0, 1) := by decide +kernel
theorem dX5_init_21 : decode cX5_init 21 = .ok (.bipush 80, 2) := by decide +kernel
theorem dX5_init_23 : decode cX5_init 23 = .ok (.anewarray 18, 3) := by decide +kernel
theorem dX5_init_26 : decode cX5_init 26 = .ok (.putfield 20, 3) := by decide +kernel
theorem dX5_init_29 : decode cX5_init 29 = .ok (.aload_n 0, 1) := by decide +kernel
theorem dX5_init_30 : decode cX5_init 30 = .ok (.iconst 0, 1) := by decide +kernel
theorem dX5_init_31 : decode cX5_init 31 = .ok (.putfield 24, 3) := by decide +kernel
theorem dX5_init_34 : decode cX5_init 34 = .ok (.iconst 0, 1) := by decide +kernel
theorem dX5_init_35 : decode cX5_init 35 = .ok (.istore_n 1, 1) := by decide +kernel
theorem dX5_init_36 : decode cX5_init 36 = .ok (.iload_n 1, 1) := by decide +kernel
theorem dX5_init_37 : decode cX5_init 37 = .ok (.bipush 80, 2) := by decide +kernel
theorem dX5_init_39 : decode cX5_init 39 = .ok (.if_icmp .ge 24, 3) := by decide +kernel
theorem dX5_init_42 : decode cX5_init 42 = .ok (.aload_n 0, 1) := by decide +kernel
theorem dX5_init_43 : decode cX5_init 43 = .ok (.getfield 20, 3) := by decide +kernel
theorem dX5_init_46 : decode cX5_init 46 = .ok (.iload_n 1, 1) := by decide +kernel
theorem dX5_init_47 : decode cX5_init 47 = .ok (.new 18, 3) := by decide +kernel
theorem dX5_init_50 : decode cX5_init 50 = .ok (.dup, 1) := by decide +kernel
theorem dX5_init_51 : decode cX5_init 51 = .ok (.bipush 24, 2) := by decide +kernel
theorem dX5_init_53 : decode cX5_init 53 = .ok (.invokespecial 28, 3) := by decide +kernel
theorem dX5_init_56 : decode cX5_init 56 = .ok (.aastore, 1) := by decide +kernel
theorem dX5_init_57 : decode cX5_init 57 = .ok (.iinc 1 1, 3) := by decide +kernel
theorem dX5_init_60 : decode cX5_init 60 = .ok (.goto (-24), 3) := by decide +kernel
theorem dX5_init_63 : decode cX5_init 63 = .ok (.return_, 1) := by decide +kernel
theorem dX5_size_0 : decode cX5_size 0 = .ok (.aload_n 0, 1) := by decide +kernel
theorem dX5_size_1 : decode cX5_size 1 = .ok (.getfield 24, 3) := by decide +kernel
theorem dX5_size_4 : decode cX5_size 4 = .ok (.ireturn, 1) := by decide +kernel
theorem dX5_isFull_0 : decode cX5_isFull 0 = .ok (.aload_n 0, 1) := by decide +kernel
theorem dX5_isFull_1 : decode cX5_isFull 1 = .ok (.getfield 24, 3) := by decide +kernel
theorem dX5_isFull_4 : decode cX5_isFull 4 = .ok (.bipush 80, 2) := by decide +kernel
theorem dX5_isFull_6 : decode cX5_isFull 6 = .ok (.if_icmp .lt 7, 3) := by decide +kernel
theorem dX5_isFull_9 : decode cX5_isFull 9 = .ok (.iconst 1, 1) := by decide +kernel
theorem dX5_isFull_10 : decode cX5_isFull 10 = .ok (.goto 4, 3) := by decide +kernel
theorem dX5_isFull_13 : decode cX5_isFull 13 = .ok (.iconst 0, 1) := by decide +kernel
theorem dX5_isFull_14 : decode cX5_isFull 14 = .ok (.ireturn, 1) := by decide +kernel
theorem dX5_has_0 : decode cX5_has 0 = .ok (.iload_n 1, 1) := by decide +kernel
theorem dX5_has_1 : decode cX5_has 1 = .ok (.ifCond .lt 15, 3) := by decide +kernel
theorem dX5_has_4 : decode cX5_has 4 = .ok (.iload_n 1, 1) := by decide +kernel
theorem dX5_has_5 : decode cX5_has 5 = .ok (.aload_n 0, 1) := by decide +kernel
theorem dX5_has_6 : decode cX5_has 6 = .ok (.getfield 24, 3) := by decide +kernel
theorem dX5_has_9 : decode cX5_has 9 = .ok (.if_icmp .ge 7, 3) := by decide +kernel
theorem dX5_has_12 : decode cX5_has 12 = .ok (.iconst 1, 1) := by decide +kernel
theorem dX5_has_13 : decode cX5_has 13 = .ok (.goto 4, 3) := by decide +kernel
theorem dX5_has_16 : decode cX5_has 16 = .ok (.iconst 0, 1) := by decide +kernel
theorem dX5_has_17 : decode cX5_has 17 = .ok (.ireturn, 1) := by decide +kernel
theorem dX5_add_0 : decode cX5_add 0 = .ok (.aload_n 0, 1) := by decide +kernel
theorem dX5_add_1 : decode cX5_add 1 = .ok (.invokevirtual 31, 3) := by decide +kernel
theorem dX5_add_4 : decode cX5_add 4 = .ok (.ifCond .eq 5, 3) := by decide +kernel
theorem dX5_add_7 : decode cX5_add 7 = .ok (.iconst (-1), 1) := by decide +kernel
theorem dX5_add_8 : decode cX5_add 8 = .ok (.ireturn, 1) := by decide +kernel
theorem dX5_add_9 : decode cX5_add 9 = .ok (.aload_n 0, 1) := by decide +kernel
theorem dX5_add_10 : decode cX5_add 10 = .ok (.getfield 24, 3) := by decide +kernel
theorem dX5_add_13 : decode cX5_add 13 = .ok (.istore 4, 2) := by decide +kernel
theorem dX5_add_15 : decode cX5_add 15 = .ok (.aload_n 0, 1) := by decide +kernel
theorem dX5_add_16 : decode cX5_add 16 = .ok (.getfield 9, 3) := by decide +kernel
theorem dX5_add_19 : decode cX5_add 19 = .ok (.iload 4, 2) := by decide +kernel
theorem dX5_add_21 : decode cX5_add 21 = .ok (.iload_n 1, 1) := by decide +kernel
theorem dX5_add_22 : decode cX5_add 22 = .ok (.iastore, 1) := by decide +kernel
theorem dX5_add_23 : decode cX5_add 23 = .ok (.aload_n 0, 1) := by decide +kernel
theorem dX5_add_24 : decode cX5_add 24 = .ok (.getfield 15, 3) := by decide +kernel
theorem dX5_add_27 : decode cX5_add 27 = .ok (.iload 4, 2) := by decide +kernel
theorem dX5_add_29 : decode cX5_add 29 = .ok (.iload_n 2, 1) := by decide +kernel
theorem dX5_add_30 : decode cX5_add 30 = .ok (.iastore, 1) := by decide +kernel
theorem dX5_add_31 : decode cX5_add 31 = .ok (.aload_n 0, 1) := by decide +kernel
theorem dX5_add_32 : decode cX5_add 32 = .ok (.getfield 20, 3) := by decide +kernel
theorem dX5_add_35 : decode cX5_add 35 = .ok (.iload 4, 2) := by decide +kernel
theorem dX5_add_37 : decode cX5_add 37 = .ok (.aaload, 1) := by decide +kernel
theorem dX5_add_38 : decode cX5_add 38 = .ok (.aload_n 3, 1) := by decide +kernel
theorem dX5_add_39 : decode cX5_add 39 = .ok (.invokevirtual 35, 3) := by decide +kernel
theorem dX5_add_42 : decode cX5_add 42 = .ok (.aload_n 0, 1) := by decide +kernel
theorem dX5_add_43 : decode cX5_add 43 = .ok (.dup, 1) := by decide +kernel
theorem dX5_add_44 : decode cX5_add 44 = .ok (.getfield 24, 3) := by decide +kernel
theorem dX5_add_47 : decode cX5_add 47 = .ok (.iconst 1, 1) := by decide +kernel
theorem dX5_add_48 : decode cX5_add 48 = .ok (.iadd, 1) := by decide +kernel
theorem dX5_add_49 : decode cX5_add 49 = .ok (.putfield 24, 3) := by decide +kernel
theorem dX5_add_52 : decode cX5_add 52 = .ok (.iload 4, 2) := by decide +kernel
theorem dX5_add_54 : decode cX5_add 54 = .ok (.ireturn, 1) := by decide +kernel
theorem dX5_scopeOf_0 : decode cX5_scopeOf 0 = .ok (.aload_n 0, 1) := by decide +kernel
theorem dX5_scopeOf_1 : decode cX5_scopeOf 1 = .ok (.iload_n 1, 1) := by decide +kernel
theorem dX5_scopeOf_2 : decode cX5_scopeOf 2 = .ok (.invokevirtual 39, 3) := by decide +kernel
theorem dX5_scopeOf_5 : decode cX5_scopeOf 5 = .ok (.ifCond .eq 12, 3) := by decide +kernel
theorem dX5_scopeOf_8 : decode cX5_scopeOf 8 = .ok (.aload_n 0, 1) := by decide +kernel
theorem dX5_scopeOf_9 : decode cX5_scopeOf 9 = .ok (.getfield 9, 3) := by decide +kernel
theorem dX5_scopeOf_12 : decode cX5_scopeOf 12 = .ok (.iload_n 1, 1) := by decide +kernel
theorem dX5_scopeOf_13 : decode cX5_scopeOf 13 = .ok (.iaload, 1) := by decide +kernel
theorem dX5_scopeOf_14 : decode cX5_scopeOf 14 = .ok (.goto 4, 3) := by decide +kernel
theorem dX5_scopeOf_17 : decode cX5_scopeOf 17 = .ok (.iconst (-1), 1) := by decide +kernel
theorem dX5_scopeOf_18 : decode cX5_scopeOf 18 = .ok (.ireturn, 1) := by decide +kernel
theorem dX5_kindOf_0 : decode cX5_kindOf 0 = .ok (.aload_n 0, 1) := by decide +kernel
theorem dX5_kindOf_1 : decode cX5_kindOf 1 = .ok (.iload_n 1, 1) := by decide +kernel
theorem dX5_kindOf_2 : decode cX5_kindOf 2 = .ok (.invokevirtual 39, 3) := by decide +kernel
theorem dX5_kindOf_5 : decode cX5_kindOf 5 = .ok (.ifCond .eq 12, 3) := by decide +kernel
theorem dX5_kindOf_8 : decode cX5_kindOf 8 = .ok (.aload_n 0, 1) := by decide +kernel
theorem dX5_kindOf_9 : decode cX5_kindOf 9 = .ok (.getfield 15, 3) := by decide +kernel
theorem dX5_kindOf_12 : decode cX5_kindOf 12 = .ok (.iload_n 1, 1) := by decide +kernel
theorem dX5_kindOf_13 : decode cX5_kindOf 13 = .ok (.iaload, 1) := by decide +kernel
theorem dX5_kindOf_14 : decode cX5_kindOf 14 = .ok (.goto 4, 3) := by decide +kernel
theorem dX5_kindOf_17 : decode cX5_kindOf 17 = .ok (.iconst (-1), 1) := by decide +kernel
theorem dX5_kindOf_18 : decode cX5_kindOf 18 = .ok (.ireturn, 1) := by decide +kernel
theorem dX5_nameOf_0 : decode cX5_nameOf 0 = .ok (.aload_n 0, 1) := by decide +kernel
theorem dX5_nameOf_1 : decode cX5_nameOf 1 = .ok (.getfield 20, 3) := by decide +kernel
theorem dX5_nameOf_4 : decode cX5_nameOf 4 = .ok (.aload_n 0, 1) := by decide +kernel
theorem dX5_nameOf_5 : decode cX5_nameOf 5 = .ok (.iload_n 1, 1) := by decide +kernel
theorem dX5_nameOf_6 : decode cX5_nameOf 6 = .ok (.invokevirtual 39, 3) := by decide +kernel
theorem dX5_nameOf_9 : decode cX5_nameOf 9 = .ok (.ifCond .eq 7, 3) := by decide +kernel
theorem dX5_nameOf_12 : decode cX5_nameOf 12 = .ok (.iload_n 1, 1) := by decide +kernel
theorem dX5_nameOf_13 : decode cX5_nameOf 13 = .ok (.goto 4, 3) := by decide +kernel
theorem dX5_nameOf_16 : decode cX5_nameOf 16 = .ok (.iconst 0, 1) := by decide +kernel
theorem dX5_nameOf_17 : decode cX5_nameOf 17 = .ok (.aaload, 1) := by decide +kernel
theorem dX5_nameOf_18 : decode cX5_nameOf 18 = .ok (.areturn, 1) := by decide +kernel
theorem dX6_init_0 : decode cX6_init 0 = .ok (.aload_n 0, 1) := by decide +kernel
theorem dX6_init_1 : decode cX6_init 1 = .ok (.invokespecial 3, 3) := by decide +kernel
theorem dX6_init_4 : decode cX6_init 4 = .ok (.aload_n 0, 1) := by decide +kernel
theorem dX6_init_5 : decode cX6_init 5 = .ok (.sipush 150, 3) := by decide +kernel
theorem dX6_init_8 : decode cX6_init 8 = .ok (.newarray .int, 2) := by decide +kernel
theorem dX6_init_10 : decode cX6_init 10 = .ok (.putfield 9, 3) := by decide +kernel
theorem dX6_init_13 : decode cX6_init 13 = .ok (.aload_n 0, 1) := by decide +kernel
theorem dX6_init_14 : decode cX6_init 14 = .ok (.sipush 150, 3) := by decide +kernel
theorem dX6_init_17 : decode cX6_init 17 = .ok (.newarray .int, 2) := by decide +kernel
theorem dX6_init_19 : decode cX6_init 19 = .ok (.putfield 15, 3) := by decide +kernel
theorem dX6_init_22 : decode cX6_init 22 = .ok (.aload_n 0, 1) := by decide +kernel
theorem dX6_init_23 : decode cX6_init 23 = .ok (.iconst 0, 1) := by decide +kernel
theorem dX6_init_24 : decode cX6_init 24 = .ok (.putfield 18, 3) := by decide +kernel
theorem dX6_init_27 : decode cX6_init 27 = .ok (.return_, 1) := by decide +kernel
theorem dX6_size_0 : decode cX6_size 0 = .ok (.aload_n 0, 1) := by decide +kernel
theorem dX6_size_1 : decode cX6_size 1 = .ok (.getfield 18, 3) := by decide +kernel
theorem dX6_size_4 : decode cX6_size 4 = .ok (.ireturn, 1) := by decide +kernel
theorem dX6_isFull_0 : decode cX6_isFull 0 = .ok (.aload_n 0, 1) := by decide +kernel
theorem dX6_isFull_1 : decode cX6_isFull 1 = .ok (.getfield 18, 3) := by decide +kernel
theorem dX6_isFull_4 : decode cX6_isFull 4 = .ok (.sipush 150, 3) := by decide +kernel
theorem dX6_isFull_7 : decode cX6_isFull 7 = .ok (.if_icmp .lt 7, 3) := by decide +kernel
theorem dX6_isFull_10 : decode cX6_isFull 10 = .ok (.iconst 1, 1) := by decide +kernel
theorem dX6_isFull_11 : decode cX6_isFull 11 = .ok (.goto 4, 3) := by decide +kernel
theorem dX6_isFull_14 : decode cX6_isFull 14 = .ok (.iconst 0, 1) := by decide +kernel
theorem dX6_isFull_15 : decode cX6_isFull 15 = .ok (.ireturn, 1) := by decide +kernel
theorem dX6_has_0 : decode cX6_has 0 = .ok (.iload_n 1, 1) := by decide +kernel
theorem dX6_has_1 : decode cX6_has 1 = .ok (.ifCond .lt 15, 3) := by decide +kernel
theorem dX6_has_4 : decode cX6_has 4 = .ok (.iload_n 1, 1) := by decide +kernel
theorem dX6_has_5 : decode cX6_has 5 = .ok (.aload_n 0, 1) := by decide +kernel
theorem dX6_has_6 : decode cX6_has 6 = .ok (.getfield 18, 3) := by decide +kernel
theorem dX6_has_9 : decode cX6_has 9 = .ok (.if_icmp .ge 7, 3) := by decide +kernel
theorem dX6_has_12 : decode cX6_has 12 = .ok (.iconst 1, 1) := by decide +kernel
theorem dX6_has_13 : decode cX6_has 13 = .ok (.goto 4, 3) := by decide +kernel
theorem dX6_has_16 : decode cX6_has 16 = .ok (.iconst 0, 1) := by decide +kernel
theorem dX6_has_17 : decode cX6_has 17 = .ok (.ireturn, 1) := by decide +kernel
theorem dX6_add_0 : decode cX6_add 0 = .ok (.aload_n 0, 1) := by decide +kernel
theorem dX6_add_1 : decode cX6_add 1 = .ok (.invokevirtual 22, 3) := by decide +kernel
theorem dX6_add_4 : decode cX6_add 4 = .ok (.ifCond .eq 5, 3) := by decide +kernel
theorem dX6_add_7 : decode cX6_add 7 = .ok (.iconst (-1), 1) := by decide +kernel
theorem dX6_add_8 : decode cX6_add 8 = .ok (.ireturn, 1) := by decide +kernel
theorem dX6_add_9 : decode cX6_add 9 = .ok (.aload_n 0, 1) := by decide +kernel
theorem dX6_add_10 : decode cX6_add 10 = .ok (.getfield 18, 3) := by decide +kernel
theorem dX6_add_13 : decode cX6_add 13 = .ok (.istore_n 3, 1) := by decide +kernel
theorem dX6_add_14 : decode cX6_add 14 = .ok (.aload_n 0, 1) := by decide +kernel
theorem dX6_add_15 : decode cX6_add 15 = .ok (.getfield 9, 3) := by decide +kernel
theorem dX6_add_18 : decode cX6_add 18 = .ok (.iload_n 3, 1) := by decide +kernel
theorem dX6_add_19 : decode cX6_add 19 = .ok (.iload_n 1, 1) := by decide +kernel
theorem dX6_add_20 : decode cX6_add 20 = .ok (.iastore, 1) := by decide +kernel
theorem dX6_add_21 : decode cX6_add 21 = .ok (.aload_n 0, 1) := by decide +kernel
theorem dX6_add_22 : decode cX6_add 22 = .ok (.getfield 15, 3) := by decide +kernel
theorem dX6_add_25 : decode cX6_add 25 = .ok (.iload_n 3, 1) := by decide +kernel
theorem dX6_add_26 : decode cX6_add 26 = .ok (.iload_n 2, 1) := by decide +kernel
theorem dX6_add_27 : decode cX6_add 27 = .ok (.iastore, 1) := by decide +kernel
theorem dX6_add_28 : decode cX6_add 28 = .ok (.aload_n 0, 1) := by decide +kernel
theorem dX6_add_29 : decode cX6_add 29 = .ok (.dup, 1) := by decide +kernel
theorem dX6_add_30 : decode cX6_add 30 = .ok (.getfield 18, 3) := by decide +kernel
theorem dX6_add_33 : decode cX6_add 33 = .ok (.iconst 1, 1) := by decide +kernel
theorem dX6_add_34 : decode cX6_add 34 = .ok (.iadd, 1) := by decide +kernel
theorem dX6_add_35 : decode cX6_add 35 = .ok (.putfield 18, 3) := by decide +kernel
theorem dX6_add_38 : decode cX6_add 38 = .ok (.iload_n 3, 1) := by decide +kernel
theorem dX6_add_39 : decode cX6_add 39 = .ok (.ireturn, 1) := by decide +kernel
theorem dX6_scopeOf_0 : decode cX6_scopeOf 0 = .ok (.aload_n 0, 1) := by decide +kernel
theorem dX6_scopeOf_1 : decode cX6_scopeOf 1 = .ok (.iload_n 1, 1) := by decide +kernel
theorem dX6_scopeOf_2 : decode cX6_scopeOf 2 = .ok (.invokevirtual 26, 3) := by decide +kernel
theorem dX6_scopeOf_5 : decode cX6_scopeOf 5 = .ok (.ifCond .eq 12, 3) := by decide +kernel
theorem dX6_scopeOf_8 : decode cX6_scopeOf 8 = .ok (.aload_n 0, 1) := by decide +kernel
theorem dX6_scopeOf_9 : decode cX6_scopeOf 9 = .ok (.getfield 9, 3) := by decide +kernel
theorem dX6_scopeOf_12 : decode cX6_scopeOf 12 = .ok (.iload_n 1, 1) := by decide +kernel
theorem dX6_scopeOf_13 : decode cX6_scopeOf 13 = .ok (.iaload, 1) := by decide +kernel
theorem dX6_scopeOf_14 : decode cX6_scopeOf 14 = .ok (.goto 4, 3) := by decide +kernel
theorem dX6_scopeOf_17 : decode cX6_scopeOf 17 = .ok (.iconst (-1), 1) := by decide +kernel
theorem dX6_scopeOf_18 : decode cX6_scopeOf 18 = .ok (.ireturn, 1) := by decide +kernel
theorem dX6_thingOf_0 : decode cX6_thingOf 0 = .ok (.aload_n 0, 1) := by decide +kernel
theorem dX6_thingOf_1 : decode cX6_thingOf 1 = .ok (.iload_n 1, 1) := by decide +kernel
theorem dX6_thingOf_2 : decode cX6_thingOf 2 = .ok (.invokevirtual 26, 3) := by decide +kernel
theorem dX6_thingOf_5 : decode cX6_thingOf 5 = .ok (.ifCond .eq 12, 3) := by decide +kernel
theorem dX6_thingOf_8 : decode cX6_thingOf 8 = .ok (.aload_n 0, 1) := by decide +kernel
theorem dX6_thingOf_9 : decode cX6_thingOf 9 = .ok (.getfield 15, 3) := by decide +kernel
theorem dX6_thingOf_12 : decode cX6_thingOf 12 = .ok (.iload_n 1, 1) := by decide +kernel
theorem dX6_thingOf_13 : decode cX6_thingOf 13 = .ok (.iaload, 1) := by decide +kernel
theorem dX6_thingOf_14 : decode cX6_thingOf 14 = .ok (.goto 4, 3) := by decide +kernel
theorem dX6_thingOf_17 : decode cX6_thingOf 17 = .ok (.iconst (-1), 1) := by decide +kernel
theorem dX6_thingOf_18 : decode cX6_thingOf 18 = .ok (.ireturn, 1) := by decide +kernel
theorem dX6_howManyMean_0 : decode cX6_howManyMean 0 = .ok (.iconst 0, 1) := by decide +kernel
theorem dX6_howManyMean_1 : decode cX6_howManyMean 1 = .ok (.istore_n 2, 1) := by decide +kernel
theorem dX6_howManyMean_2 : decode cX6_howManyMean 2 = .ok (.iconst 0, 1) := by decide +kernel
theorem dX6_howManyMean_3 : decode cX6_howManyMean 3 = .ok (.istore_n 3, 1) := by decide +kernel
theorem dX6_howManyMean_4 : decode cX6_howManyMean 4 = .ok (.iload_n 3, 1) := by decide +kernel
theorem dX6_howManyMean_5 : decode cX6_howManyMean 5 = .ok (.aload_n 0, 1) := by decide +kernel
theorem dX6_howManyMean_6 : decode cX6_howManyMean 6 = .ok (.getfield 18, 3) := by decide +kernel
theorem dX6_howManyMean_9 : decode cX6_howManyMean 9 = .ok (.if_icmp .ge 22, 3) := by decide +kernel
theorem dX6_howManyMean_12 : decode cX6_howManyMean 12 = .ok (.aload_n 0, 1) := by decide +kernel
theorem dX6_howManyMean_13 : decode cX6_howManyMean 13 = .ok (.getfield 15, 3) := by decide +kernel
theorem dX6_howManyMean_16 : decode cX6_howManyMean 16 = .ok (.iload_n 3, 1) := by decide +kernel
theorem dX6_howManyMean_17 : decode cX6_howManyMean 17 = .ok (.iaload, 1) := by decide +kernel
theorem dX6_howManyMean_18 : decode cX6_howManyMean 18 = .ok (.iload_n 1, 1) := by decide +kernel
theorem dX6_howManyMean_19 : decode cX6_howManyMean 19 = .ok (.if_icmp .ne 6, 3) := by decide +kernel
theorem dX6_howManyMean_22 : decode cX6_howManyMean 22 = .ok (.iinc 2 1, 3) := by decide +kernel
theorem dX6_howManyMean_25 : decode cX6_howManyMean 25 = .ok (.iinc 3 1, 3) := by decide +kernel
theorem dX6_howManyMean_28 : decode cX6_howManyMean 28 = .ok (.goto (-24), 3) := by decide +kernel
theorem dX6_howManyMean_31 : decode cX6_howManyMean 31 = .ok (.iload_n 2, 1) := by decide +kernel
theorem dX6_howManyMean_32 : decode cX6_howManyMean 32 = .ok (.ireturn, 1) := by decide +kernel
theorem dJ9_min_7cf53_0 : decode cJ9_min_7cf53 0 = .ok (.iload_n 0, 1) := by decide +kernel
theorem dJ9_min_7cf53_1 : decode cJ9_min_7cf53 1 = .ok (.iload_n 1, 1) := by decide +kernel
theorem dJ9_min_7cf53_2 : decode cJ9_min_7cf53 2 = .ok (.if_icmp .gt 7, 3) := by decide +kernel
theorem dJ9_min_7cf53_5 : decode cJ9_min_7cf53 5 = .ok (.iload_n 0, 1) := by decide +kernel
theorem dJ9_min_7cf53_6 : decode cJ9_min_7cf53 6 = .ok (.goto 4, 3) := by decide +kernel
theorem dJ9_min_7cf53_9 : decode cJ9_min_7cf53 9 = .ok (.iload_n 1, 1) := by decide +kernel
theorem dJ9_min_7cf53_10 : decode cJ9_min_7cf53 10 = .ok (.ireturn, 1) := by decide +kernel
end
section
theorem dX7_init_0 : decode cX7_init 0 = .ok (.aload_n 0, 1) := by decide +kernel
theorem dX7_init_1 : decode cX7_init 1 = .ok (.invokespecial 1, 3) := by decide +kernel
theorem dX7_init_4 : decode cX7_init 4 = .ok (.aload_n 0, 1) := by decide +kernel
theorem dX7_init_5 : decode cX7_init 5 = .ok (.new 7, 3) := by decide +kernel
theorem dX7_init_8 : decode cX7_init 8 = .ok (.dup, 1) := by decide +kernel
theorem dX7_init_9 : decode cX7_init 9 = .ok (.sipush 200, 3) := by decide +kernel
theorem dX7_init_12 : decode cX7_init 12 = .ok (.invokespecial 11, 3) := by decide +kernel
theorem dX7_init_15 : decode cX7_init 15 = .ok (.putfield 14, 3) := by decide +kernel
theorem dX7_init_18 : decode cX7_init 18 = .ok (.aload_n 0, 1) := by decide +kernel
theorem dX7_init_19 : decode cX7_init 19 = .ok (.new 7, 3) := by decide +kernel
theorem dX7_init_22 : decode cX7_init 22 = .ok (.dup, 1) := by decide +kernel
theorem dX7_init_23 : decode cX7_init 23 = .ok (.bipush 24, 2) := by decide +kernel
theorem dX7_init_25 : decode cX7_init 25 = .ok (.invokespecial 11, 3) := by decide +kernel
theorem dX7_init_28 : decode cX7_init 28 = .ok (.putfield 18, 3) := by decide +kernel
theorem dX7_init_31 : decode cX7_init 31 = .ok (.aload_n 0, 1) := by decide +kernel
theorem dX7_init_32 : decode cX7_init 32 = .ok (.new 7, 3) := by decide +kernel
theorem dX7_init_35 : decode cX7_init 35 = .ok (.dup, 1) := by decide +kernel
theorem dX7_init_36 : decode cX7_init 36 = .ok (.bipush 24, 2) := by decide +kernel
theorem dX7_init_38 : decode cX7_init 38 = .ok (.invokespecial 11, 3) := by decide +kernel
theorem dX7_init_41 : decode cX7_init 41 = .ok (.putfield 21, 3) := by decide +kernel
theorem dX7_init_44 : decode cX7_init 44 = .ok (.aload_n 0, 1) := by decide +kernel
theorem dX7_init_45 : decode cX7_init 45 = .ok (.new 7, 3) := by decide +kernel
theorem dX7_init_48 : decode cX7_init 48 = .ok (.dup, 1) := by decide +kernel
theorem dX7_init_49 : decode cX7_init 49 = .ok (.bipush 24, 2) := by decide +kernel
theorem dX7_init_51 : decode cX7_init 51 = .ok (.invokespecial 11, 3) := by decide +kernel
theorem dX7_init_54 : decode cX7_init 54 = .ok (.putfield 24, 3) := by decide +kernel
theorem dX7_init_57 : decode cX7_init 57 = .ok (.aload_n 0, 1) := by decide +kernel
theorem dX7_init_58 : decode cX7_init 58 = .ok (.new 27, 3) := by decide +kernel
theorem dX7_init_61 : decode cX7_init 61 = .ok (.dup, 1) := by decide +kernel
theorem dX7_init_62 : decode cX7_init 62 = .ok (.invokespecial 29, 3) := by decide +kernel
theorem dX7_init_65 : decode cX7_init 65 = .ok (.putfield 30, 3) := by decide +kernel
theorem dX7_init_68 : decode cX7_init 68 = .ok (.aload_n 0, 1) := by decide +kernel
theorem dX7_init_69 : decode cX7_init 69 = .ok (.new 34, 3) := by decide +kernel
theorem dX7_init_72 : decode cX7_init 72 = .ok (.dup, 1) := by decide +kernel
theorem dX7_init_73 : decode cX7_init 73 = .ok (.invokespecial 36, 3) := by decide +kernel
theorem dX7_init_76 : decode cX7_init 76 = .ok (.putfield 37, 3) := by decide +kernel
theorem dX7_init_79 : decode cX7_init 79 = .ok (.aload_n 0, 1) := by decide +kernel
theorem dX7_init_80 : decode cX7_init 80 = .ok (.new 41, 3) := by decide +kernel
theorem dX7_init_83 : decode cX7_init 83 = .ok (.dup, 1) := by decide +kernel
theorem dX7_init_84 : decode cX7_init 84 = .ok (.invokespecial 43, 3) := by decide +kernel
theorem dX7_init_87 : decode cX7_init 87 = .ok (.putfield 44, 3) := by decide +kernel
theorem dX7_init_90 : decode cX7_init 90 = .ok (.aload_n 0, 1) := by decide +kernel
theorem dX7_init_91 : decode cX7_init 91 = .ok (.new 48, 3) := by decide +kernel
theorem dX7_init_94 : decode cX7_init 94 = .ok (.dup, 1) := by decide +kernel
theorem dX7_init_95 : decode cX7_init 95 = .ok (.invokespecial 50, 3) := by decide +kernel
theorem dX7_init_98 : decode cX7_init 98 = .ok (.putfield 51, 3) := by decide +kernel
theorem dX7_init_101 : decode cX7_init 101 = .ok (.aload_n 0, 1) := by decide +kernel
theorem dX7_init_102 : decode cX7_init 102 = .ok (.new 55, 3) := by decide +kernel
theorem dX7_init_105 : decode cX7_init 105 = .ok (.dup, 1) := by decide +kernel
theorem dX7_init_106 : decode cX7_init 106 = .ok (.invokespecial 57, 3) := by decide +kernel
theorem dX7_init_109 : decode cX7_init 109 = .ok (.putfield 58, 3) := by decide +kernel
theorem dX7_init_112 : decode cX7_init 112 = .ok (.aload_n 0, 1) := by decide +kernel
theorem dX7_init_113 : decode cX7_init 113 = .ok (.new 62, 3) := by decide +kernel
theorem dX7_init_116 : decode cX7_init 116 = .ok (.dup, 1) := by decide +kernel
theorem dX7_init_117 : decode cX7_init 117 = .ok (.invokespecial 64, 3) := by decide +kernel
theorem dX7_init_120 : decode cX7_init 120 = .ok (.putfield 65, 3) := by decide +kernel
theorem dX7_init_123 : decode cX7_init 123 = .ok (.aload_n 0, 1) := by decide +kernel
theorem dX7_init_124 : decode cX7_init 124 = .ok (.new 62, 3) := by decide +kernel
theorem dX7_init_127 : decode cX7_init 127 = .ok (.dup, 1) := by decide +kernel
theorem dX7_init_128 : decode cX7_init 128 = .ok (.invokespecial 64, 3) := by decide +kernel
theorem dX7_init_131 : decode cX7_init 131 = .ok (.putfield 69, 3) := by decide +kernel
theorem dX7_init_134 : decode cX7_init 134 = .ok (.aload_n 0, 1) := by decide +kernel
theorem dX7_init_135 : decode cX7_init 135 = .ok (.bipush 80, 2) := by decide +kernel
theorem dX7_init_137 : decode cX7_init 137 = .ok (.newarray .boolean, 2) := by decide +kernel
theorem dX7_init_139 : decode cX7_init 139 = .ok (.putfield 72, 3) := by decide +kernel
theorem dX7_init_142 : decode cX7_init 142 = .ok (.aload_n 0, 1) := by decide +kernel
theorem dX7_init_143 : decode cX7_init 143 = .ok (.bipush 80, 2) := by decide +kernel
theorem dX7_init_145 : decode cX7_init 145 = .ok (.newarray .int, 2) := by decide +kernel
theorem dX7_init_147 : decode cX7_init 147 = .ok (.putfield 76, 3) := by decide +kernel
theorem dX7_init_150 : decode cX7_init 150 = .ok (.aload_n 0, 1) := by decide +kernel
theorem dX7_init_151 : decode cX7_init 151 = .ok (.iconst 0, 1) := by decide +kernel
theorem dX7_init_152 : decode cX7_init 152 = .ok (.putfield 80, 3) := by decide +kernel
theorem dX7_init_155 : decode cX7_init 155 = .ok (.aload_n 0, 1) := by decide +kernel
theorem dX7_init_156 : decode cX7_init 156 = .ok (.iconst 0, 1) := by decide +kernel
theorem dX7_init_157 : decode cX7_init 157 = .ok (.putfield 84, 3) := by decide +kernel
theorem dX7_init_160 : decode cX7_init 160 = .ok (.return_, 1) := by decide +kernel
theorem dX7_feed_0 : decode cX7_feed 0 = .ok (.aload_n 0, 1) := by decide +kernel
theorem dX7_feed_1 : decode cX7_feed 1 = .ok (.getfield 14, 3) := by decide +kernel
theorem dX7_feed_4 : decode cX7_feed 4 = .ok (.invokevirtual 88, 3) := by decide +kernel
theorem dX7_feed_7 : decode cX7_feed 7 = .ok (.bipush 20, 2) := by decide +kernel
theorem dX7_feed_9 : decode cX7_feed 9 = .ok (.iadd, 1) := by decide +kernel
theorem dX7_feed_10 : decode cX7_feed 10 = .ok (.sipush 200, 3) := by decide +kernel
theorem dX7_feed_13 : decode cX7_feed 13 = .ok (.if_icmp .le 5, 3) := by decide +kernel
theorem dX7_feed_16 : decode cX7_feed 16 = .ok (.iconst (-1), 1) := by decide +kernel
theorem dX7_feed_17 : decode cX7_feed 17 = .ok (.ireturn, 1) := by decide +kernel
theorem dX7_feed_18 : decode cX7_feed 18 = .ok (.aload_n 0, 1) := by decide +kernel
theorem dX7_feed_19 : decode cX7_feed 19 = .ok (.getfield 14, 3) := by decide +kernel
theorem dX7_feed_22 : decode cX7_feed 22 = .ok (.iload_n 1, 1) := by decide +kernel
theorem dX7_feed_23 : decode cX7_feed 23 = .ok (.invokevirtual 92, 3) := by decide +kernel
theorem dX7_feed_26 : decode cX7_feed 26 = .ok (.aload_n 0, 1) := by decide +kernel
theorem dX7_feed_27 : decode cX7_feed 27 = .ok (.getfield 14, 3) := by decide +kernel
theorem dX7_feed_30 : decode cX7_feed 30 = .ok (.iload_n 2, 1) := by decide +kernel
theorem dX7_feed_31 : decode cX7_feed 31 = .ok (.invokevirtual 92, 3) := by decide +kernel
theorem dX7_feed_34 : decode cX7_feed 34 = .ok (.aload_n 0, 1) := by decide +kernel
theorem dX7_feed_35 : decode cX7_feed 35 = .ok (.getfield 14, 3) := by decide +kernel
theorem dX7_feed_38 : decode cX7_feed 38 = .ok (.iload_n 3, 1) := by decide +kernel
theorem dX7_feed_39 : decode cX7_feed 39 = .ok (.invokevirtual 92, 3) := by decide +kernel
theorem dX7_feed_42 : decode cX7_feed 42 = .ok (.aload_n 0, 1) := by decide +kernel
theorem dX7_feed_43 : decode cX7_feed 43 = .ok (.getfield 14, 3) := by decide +kernel
theorem dX7_feed_46 : decode cX7_feed 46 = .ok (.iload 4, 2) := by decide +kernel
theorem dX7_feed_48 : decode cX7_feed 48 = .ok (.invokevirtual 92, 3) := by decide +kernel
theorem dX7_feed_51 : decode cX7_feed 51 = .ok (.aload_n 0, 1) := by decide +kernel
theorem dX7_feed_52 : decode cX7_feed 52 = .ok (.getfield 14, 3) := by decide +kernel
theorem dX7_feed_55 : decode cX7_feed 55 = .ok (.iload 5, 2) := by decide +kernel
theorem dX7_feed_57 : decode cX7_feed 57 = .ok (.invokevirtual 92, 3) := by decide +kernel
theorem dX7_feed_60 : decode cX7_feed 60 = .ok (.aload_n 0, 1) := by decide +kernel
theorem dX7_feed_61 : decode cX7_feed 61 = .ok (.getfield 14, 3) := by decide +kernel
theorem dX7_feed_64 : decode cX7_feed 64 = .ok (.invokevirtual 88, 3) := by decide +kernel
theorem dX7_feed_67 : decode cX7_feed 67 = .ok (.ireturn, 1) := by decide +kernel
theorem dX7_isOnTape_0 : decode cX7_isOnTape 0 = .ok (.iload_n 1, 1) := by decide +kernel
theorem dX7_isOnTape_1 : decode cX7_isOnTape 1 = .ok (.ifCond .lt 18, 3) := by decide +kernel
theorem dX7_isOnTape_4 : decode cX7_isOnTape 4 = .ok (.iload_n 1, 1) := by decide +kernel
theorem dX7_isOnTape_5 : decode cX7_isOnTape 5 = .ok (.aload_n 0, 1) := by decide +kernel
theorem dX7_isOnTape_6 : decode cX7_isOnTape 6 = .ok (.getfield 14, 3) := by decide +kernel
theorem dX7_isOnTape_9 : decode cX7_isOnTape 9 = .ok (.invokevirtual 88, 3) := by decide +kernel
theorem dX7_isOnTape_12 : decode cX7_isOnTape 12 = .ok (.if_icmp .gt 7, 3) := by decide +kernel
theorem dX7_isOnTape_15 : decode cX7_isOnTape 15 = .ok (.iconst 1, 1) := by decide +kernel
theorem dX7_isOnTape_16 : decode cX7_isOnTape 16 = .ok (.goto 4, 3) := by decide +kernel
theorem dX7_isOnTape_19 : decode cX7_isOnTape 19 = .ok (.iconst 0, 1) := by decide +kernel
theorem dX7_isOnTape_20 : decode cX7_isOnTape 20 = .ok (.ireturn, 1) := by decide +kernel
theorem dX7_take_0 : decode cX7_take 0 = .ok (.aload_n 0, 1) := by decide +kernel
theorem dX7_take_1 : decode cX7_take 1 = .ok (.getfield 18, 3) := by decide +kernel
theorem dX7_take_4 : decode cX7_take 4 = .ok (.invokevirtual 95, 3) := by decide +kernel
theorem dX7_take_7 : decode cX7_take 7 = .ok (.iconst 0, 1) := by decide +kernel
theorem dX7_take_8 : decode cX7_take 8 = .ok (.istore_n 2, 1) := by decide +kernel
theorem dX7_take_9 : decode cX7_take 9 = .ok (.iload_n 2, 1) := by decide +kernel
theorem dX7_take_10 : decode cX7_take 10 = .ok (.iload_n 1, 1) := by decide +kernel
theorem dX7_take_11 : decode cX7_take 11 = .ok (.if_icmp .ge 24, 3) := by decide +kernel
theorem dX7_take_14 : decode cX7_take 14 = .ok (.aload_n 0, 1) := by decide +kernel
theorem dX7_take_15 : decode cX7_take 15 = .ok (.getfield 18, 3) := by decide +kernel
theorem dX7_take_18 : decode cX7_take 18 = .ok (.aload_n 0, 1) := by decide +kernel
theorem dX7_take_19 : decode cX7_take 19 = .ok (.getfield 14, 3) := by decide +kernel
theorem dX7_take_22 : decode cX7_take 22 = .ok (.iload_n 2, 1) := by decide +kernel
theorem dX7_take_23 : decode cX7_take 23 = .ok (.invokevirtual 98, 3) := by decide +kernel
theorem dX7_take_26 : decode cX7_take 26 = .ok (.invokevirtual 102, 3) := by decide +kernel
theorem dX7_take_29 : decode cX7_take 29 = .ok (.iinc 2 1, 3) := by decide +kernel
theorem dX7_take_32 : decode cX7_take 32 = .ok (.goto (-23), 3) := by decide +kernel
theorem dX7_take_35 : decode cX7_take 35 = .ok (.aload_n 0, 1) := by decide +kernel
theorem dX7_take_36 : decode cX7_take 36 = .ok (.getfield 14, 3) := by decide +kernel
theorem dX7_take_39 : decode cX7_take 39 = .ok (.invokevirtual 95, 3) := by decide +kernel
theorem dX7_take_42 : decode cX7_take 42 = .ok (.return_, 1) := by decide +kernel
theorem dX7_takesName_0 : decode cX7_takesName 0 = .ok (.aload_n 0, 1) := by decide +kernel
theorem dX7_takesName_1 : decode cX7_takesName 1 = .ok (.iload_n 1, 1) := by decide +kernel
theorem dX7_takesName_2 : decode cX7_takesName 2 = .ok (.invokevirtual 105, 3) := by decide +kernel
theorem dX7_takesName_5 : decode cX7_takesName 5 = .ok (.ifCond .ne 5, 3) := by decide +kernel
theorem dX7_takesName_8 : decode cX7_takesName 8 = .ok (.iconst 0, 1) := by decide +kernel
theorem dX7_takesName_9 : decode cX7_takesName 9 = .ok (.ireturn, 1) := by decide +kernel
theorem dX7_takesName_10 : decode cX7_takesName 10 = .ok (.aload_n 0, 1) := by decide +kernel
theorem dX7_takesName_11 : decode cX7_takesName 11 = .ok (.iload_n 1, 1) := by decide +kernel
theorem dX7_takesName_12 : decode cX7_takesName 12 = .ok (.invokevirtual 109, 3) := by decide +kernel
theorem dX7_takesName_15 : decode cX7_takesName 15 = .ok (.aload_n 0, 1) := by decide +kernel
theorem dX7_takesName_16 : decode cX7_takesName 16 = .ok (.getfield 18, 3) := by decide +kernel
theorem dX7_takesName_19 : decode cX7_takesName 19 = .ok (.invokevirtual 112, 3) := by decide +kernel
theorem dX7_takesName_22 : decode cX7_takesName 22 = .ok (.ireturn, 1) := by decide +kernel
theorem dX7_takesWord_0 : decode cX7_takesWord 0 = .ok (.aload_n 0, 1) := by decide +kernel
theorem dX7_takesWord_1 : decode cX7_takesWord 1 = .ok (.iload_n 1, 1) := by decide +kernel
theorem dX7_takesWord_2 : decode cX7_takesWord 2 = .ok (.invokevirtual 105, 3) := by decide +kernel
theorem dX7_takesWord_5 : decode cX7_takesWord 5 = .ok (.ifCond .ne 5, 3) := by decide +kernel
theorem dX7_takesWord_8 : decode cX7_takesWord 8 = .ok (.iconst 0, 1) := by decide +kernel
theorem dX7_takesWord_9 : decode cX7_takesWord 9 = .ok (.ireturn, 1) := by decide +kernel
theorem dX7_takesWord_10 : decode cX7_takesWord 10 = .ok (.aload_n 0, 1) := by decide +kernel
theorem dX7_takesWord_11 : decode cX7_takesWord 11 = .ok (.iload_n 1, 1) := by decide +kernel
theorem dX7_takesWord_12 : decode cX7_takesWord 12 = .ok (.invokevirtual 109, 3) := by decide +kernel
theorem dX7_takesWord_15 : decode cX7_takesWord 15 = .ok (.aload_n 0, 1) := by decide +kernel
theorem dX7_takesWord_16 : decode cX7_takesWord 16 = .ok (.getfield 18, 3) := by decide +kernel
theorem dX7_takesWord_19 : decode cX7_takesWord 19 = .ok (.invokevirtual 116, 3) := by decide +kernel
theorem dX7_takesWord_22 : decode cX7_takesWord 22 = .ok (.ireturn, 1) := by decide +kernel
theorem dX7_scope_0 : decode cX7_scope 0 = .ok (.aload_n 0, 1) := by decide +kernel
theorem dX7_scope_1 : decode cX7_scope 1 = .ok (.getfield 44, 3) := by decide +kernel
theorem dX7_scope_4 : decode cX7_scope 4 = .ok (.iload_n 1, 1) := by decide +kernel
theorem dX7_scope_5 : decode cX7_scope 5 = .ok (.invokevirtual 119, 3) := by decide +kernel
theorem dX7_scope_8 : decode cX7_scope 8 = .ok (.ifCond .ne 9, 3) := by decide +kernel
theorem dX7_scope_11 : decode cX7_scope 11 = .ok (.aload_n 0, 1) := by decide +kernel
theorem dX7_scope_12 : decode cX7_scope 12 = .ok (.iconst 1, 1) := by decide +kernel
theorem dX7_scope_13 : decode cX7_scope 13 = .ok (.invokevirtual 122, 3) := by decide +kernel
theorem dX7_scope_16 : decode cX7_scope 16 = .ok (.ireturn, 1) := by decide +kernel
theorem dX7_scope_17 : decode cX7_scope 17 = .ok (.aload_n 0, 1) := by decide +kernel
theorem dX7_scope_18 : decode cX7_scope 18 = .ok (.getfield 44, 3) := by decide +kernel
theorem dX7_scope_21 : decode cX7_scope 21 = .ok (.invokevirtual 125, 3) := by decide +kernel
theorem dX7_scope_24 : decode cX7_scope 24 = .ok (.ifCond .eq 9, 3) := by decide +kernel
theorem dX7_scope_27 : decode cX7_scope 27 = .ok (.aload_n 0, 1) := by decide +kernel
theorem dX7_scope_28 : decode cX7_scope 28 = .ok (.iconst 3, 1) := by decide +kernel
theorem dX7_scope_29 : decode cX7_scope 29 = .ok (.invokevirtual 122, 3) := by decide +kernel
theorem dX7_scope_32 : decode cX7_scope 32 = .ok (.ireturn, 1) := by decide +kernel
theorem dX7_scope_33 : decode cX7_scope 33 = .ok (.aload_n 0, 1) := by decide +kernel
theorem dX7_scope_34 : decode cX7_scope 34 = .ok (.aload_n 0, 1) := by decide +kernel
theorem dX7_scope_35 : decode cX7_scope 35 = .ok (.getfield 44, 3) := by decide +kernel
theorem dX7_scope_38 : decode cX7_scope 38 = .ok (.iload_n 1, 1) := by decide +kernel
theorem dX7_scope_39 : decode cX7_scope 39 = .ok (.invokevirtual 128, 3) := by decide +kernel
theorem dX7_scope_42 : decode cX7_scope 42 = .ok (.invokevirtual 131, 3) := by decide +kernel
theorem dX7_scope_45 : decode cX7_scope 45 = .ok (.ireturn, 1) := by decide +kernel
theorem dX7_thing_0 : decode cX7_thing 0 = .ok (.aload_n 0, 1) := by decide +kernel
theorem dX7_thing_1 : decode cX7_thing 1 = .ok (.getfield 44, 3) := by decide +kernel
theorem dX7_thing_4 : decode cX7_thing 4 = .ok (.iload_n 1, 1) := by decide +kernel
theorem dX7_thing_5 : decode cX7_thing 5 = .ok (.invokevirtual 119, 3) := by decide +kernel
theorem dX7_thing_8 : decode cX7_thing 8 = .ok (.ifCond .ne 9, 3) := by decide +kernel
theorem dX7_thing_11 : decode cX7_thing 11 = .ok (.aload_n 0, 1) := by decide +kernel
theorem dX7_thing_12 : decode cX7_thing 12 = .ok (.iconst 1, 1) := by decide +kernel
theorem dX7_thing_13 : decode cX7_thing 13 = .ok (.invokevirtual 122, 3) := by decide +kernel
theorem dX7_thing_16 : decode cX7_thing 16 = .ok (.ireturn, 1) := by decide +kernel
theorem dX7_thing_17 : decode cX7_thing 17 = .ok (.iload_n 2, 1) := by decide +kernel
theorem dX7_thing_18 : decode cX7_thing 18 = .ok (.invokestatic 134, 3) := by decide +kernel
theorem dX7_thing_21 : decode cX7_thing 21 = .ok (.ifCond .eq 11, 3) := by decide +kernel
theorem dX7_thing_24 : decode cX7_thing 24 = .ok (.aload_n 0, 1) := by decide +kernel
theorem dX7_thing_25 : decode cX7_thing 25 = .ok (.iload_n 3, 1) := by decide +kernel
theorem dX7_thing_26 : decode cX7_thing 26 = .ok (.invokevirtual 137, 3) := by decide +kernel
theorem dX7_thing_29 : decode cX7_thing 29 = .ok (.ifCond .ne 9, 3) := by decide +kernel
theorem dX7_thing_32 : decode cX7_thing 32 = .ok (.aload_n 0, 1) := by decide +kernel
theorem dX7_thing_33 : decode cX7_thing 33 = .ok (.iconst 2, 1) := by decide +kernel
theorem dX7_thing_34 : decode cX7_thing 34 = .ok (.invokevirtual 122, 3) := by decide +kernel
theorem dX7_thing_37 : decode cX7_thing 37 = .ok (.ireturn, 1) := by decide +kernel
theorem dX7_thing_38 : decode cX7_thing 38 = .ok (.aload_n 0, 1) := by decide +kernel
theorem dX7_thing_39 : decode cX7_thing 39 = .ok (.iconst (-1), 1) := by decide +kernel
theorem dX7_thing_40 : decode cX7_thing 40 = .ok (.iload_n 1, 1) := by decide +kernel
theorem dX7_thing_41 : decode cX7_thing 41 = .ok (.aload_n 0, 1) := by decide +kernel
theorem dX7_thing_42 : decode cX7_thing 42 = .ok (.getfield 18, 3) := by decide +kernel
theorem dX7_thing_45 : decode cX7_thing 45 = .ok (.iconst 0, 1) := by decide +kernel
theorem dX7_thing_46 : decode cX7_thing 46 = .ok (.invokevirtual 140, 3) := by decide +kernel
theorem dX7_thing_49 : decode cX7_thing 49 = .ok (.ifCond .ne 16, 3) := by decide +kernel
theorem dX7_thing_52 : decode cX7_thing 52 = .ok (.aload_n 0, 1) := by decide +kernel
theorem dX7_thing_53 : decode cX7_thing 53 = .ok (.iload_n 1, 1) := by decide +kernel
theorem dX7_thing_54 : decode cX7_thing 54 = .ok (.aload_n 0, 1) := by decide +kernel
theorem dX7_thing_55 : decode cX7_thing 55 = .ok (.getfield 18, 3) := by decide +kernel
theorem dX7_thing_58 : decode cX7_thing 58 = .ok (.iconst 0, 1) := by decide +kernel
theorem dX7_thing_59 : decode cX7_thing 59 = .ok (.invokevirtual 144, 3) := by decide +kernel
theorem dX7_thing_62 : decode cX7_thing 62 = .ok (.ifCond .eq 9, 3) := by decide +kernel
theorem dX7_thing_65 : decode cX7_thing 65 = .ok (.aload_n 0, 1) := by decide +kernel
theorem dX7_thing_66 : decode cX7_thing 66 = .ok (.iconst 4, 1) := by decide +kernel
theorem dX7_thing_67 : decode cX7_thing 67 = .ok (.invokevirtual 122, 3) := by decide +kernel
theorem dX7_thing_70 : decode cX7_thing 70 = .ok (.ireturn, 1) := by decide +kernel
theorem dX7_thing_71 : decode cX7_thing 71 = .ok (.aload_n 0, 1) := by decide +kernel
theorem dX7_thing_72 : decode cX7_thing 72 = .ok (.getfield 51, 3) := by decide +kernel
theorem dX7_thing_75 : decode cX7_thing 75 = .ok (.invokevirtual 148, 3) := by decide +kernel
theorem dX7_thing_78 : decode cX7_thing 78 = .ok (.ifCond .eq 9, 3) := by decide +kernel
theorem dX7_thing_81 : decode cX7_thing 81 = .ok (.aload_n 0, 1) := by decide +kernel
theorem dX7_thing_82 : decode cX7_thing 82 = .ok (.iconst 3, 1) := by decide +kernel
theorem dX7_thing_83 : decode cX7_thing 83 = .ok (.invokevirtual 122, 3) := by decide +kernel
theorem dX7_thing_86 : decode cX7_thing 86 = .ok (.ireturn, 1) := by decide +kernel
theorem dX7_thing_87 : decode cX7_thing 87 = .ok (.aload_n 0, 1) := by decide +kernel
theorem dX7_thing_88 : decode cX7_thing 88 = .ok (.iconst 0, 1) := by decide +kernel
theorem dX7_thing_89 : decode cX7_thing 89 = .ok (.putfield 80, 3) := by decide +kernel
theorem dX7_thing_92 : decode cX7_thing 92 = .ok (.aload_n 0, 1) := by decide +kernel
theorem dX7_thing_93 : decode cX7_thing 93 = .ok (.aload_n 0, 1) := by decide +kernel
theorem dX7_thing_94 : decode cX7_thing 94 = .ok (.getfield 51, 3) := by decide +kernel
theorem dX7_thing_97 : decode cX7_thing 97 = .ok (.iload_n 1, 1) := by decide +kernel
theorem dX7_thing_98 : decode cX7_thing 98 = .ok (.iload_n 2, 1) := by decide +kernel
theorem dX7_thing_99 : decode cX7_thing 99 = .ok (.aload_n 0, 1) := by decide +kernel
theorem dX7_thing_100 : decode cX7_thing 100 = .ok (.getfield 18, 3) := by decide +kernel
theorem dX7_thing_103 : decode cX7_thing 103 = .ok (.invokevirtual 149, 3) := by decide +kernel
theorem dX7_thing_106 : decode cX7_thing 106 = .ok (.invokevirtual 131, 3) := by decide +kernel
theorem dX7_thing_109 : decode cX7_thing 109 = .ok (.ireturn, 1) := by decide +kernel
theorem dX7_use_0 : decode cX7_use 0 = .ok (.aload_n 0, 1) := by decide +kernel
theorem dX7_use_1 : decode cX7_use 1 = .ok (.getfield 44, 3) := by decide +kernel
theorem dX7_use_4 : decode cX7_use 4 = .ok (.iload_n 1, 1) := by decide +kernel
theorem dX7_use_5 : decode cX7_use 5 = .ok (.invokevirtual 119, 3) := by decide +kernel
theorem dX7_use_8 : decode cX7_use 8 = .ok (.ifCond .ne 9, 3) := by decide +kernel
theorem dX7_use_11 : decode cX7_use 11 = .ok (.aload_n 0, 1) := by decide +kernel
theorem dX7_use_12 : decode cX7_use 12 = .ok (.iconst 1, 1) := by decide +kernel
theorem dX7_use_13 : decode cX7_use 13 = .ok (.invokevirtual 122, 3) := by decide +kernel
theorem dX7_use_16 : decode cX7_use 16 = .ok (.ireturn, 1) := by decide +kernel
theorem dX7_use_17 : decode cX7_use 17 = .ok (.aload_n 0, 1) := by decide +kernel
theorem dX7_use_18 : decode cX7_use 18 = .ok (.iload_n 2, 1) := by decide +kernel
theorem dX7_use_19 : decode cX7_use 19 = .ok (.invokevirtual 137, 3) := by decide +kernel
theorem dX7_use_22 : decode cX7_use 22 = .ok (.ifCond .ne 9, 3) := by decide +kernel
theorem dX7_use_25 : decode cX7_use 25 = .ok (.aload_n 0, 1) := by decide +kernel
theorem dX7_use_26 : decode cX7_use 26 = .ok (.iconst 2, 1) := by decide +kernel
theorem dX7_use_27 : decode cX7_use 27 = .ok (.invokevirtual 122, 3) := by decide +kernel
theorem dX7_use_30 : decode cX7_use 30 = .ok (.ireturn, 1) := by decide +kernel
theorem dX7_use_31 : decode cX7_use 31 = .ok (.aload_n 0, 1) := by decide +kernel
theorem dX7_use_32 : decode cX7_use 32 = .ok (.iload_n 1, 1) := by decide +kernel
theorem dX7_use_33 : decode cX7_use 33 = .ok (.aload_n 0, 1) := by decide +kernel
theorem dX7_use_34 : decode cX7_use 34 = .ok (.getfield 18, 3) := by decide +kernel
theorem dX7_use_37 : decode cX7_use 37 = .ok (.iconst 0, 1) := by decide +kernel
theorem dX7_use_38 : decode cX7_use 38 = .ok (.invokevirtual 152, 3) := by decide +kernel
theorem dX7_use_41 : decode cX7_use 41 = .ok (.istore_n 3, 1) := by decide +kernel
theorem dX7_use_42 : decode cX7_use 42 = .ok (.iload_n 3, 1) := by decide +kernel
theorem dX7_use_43 : decode cX7_use 43 = .ok (.bipush (-2), 2) := by decide +kernel
theorem dX7_use_45 : decode cX7_use 45 = .ok (.if_icmp .ne 10, 3) := by decide +kernel
theorem dX7_use_48 : decode cX7_use 48 = .ok (.aload_n 0, 1) := by decide +kernel
theorem dX7_use_49 : decode cX7_use 49 = .ok (.bipush 6, 2) := by decide +kernel
theorem dX7_use_51 : decode cX7_use 51 = .ok (.invokevirtual 122, 3) := by decide +kernel
theorem dX7_use_54 : decode cX7_use 54 = .ok (.ireturn, 1) := by decide +kernel
theorem dX7_use_55 : decode cX7_use 55 = .ok (.aload_n 0, 1) := by decide +kernel
theorem dX7_use_56 : decode cX7_use 56 = .ok (.getfield 58, 3) := by decide +kernel
theorem dX7_use_59 : decode cX7_use 59 = .ok (.invokevirtual 156, 3) := by decide +kernel
theorem dX7_use_62 : decode cX7_use 62 = .ok (.ifCond .eq 9, 3) := by decide +kernel
theorem dX7_use_65 : decode cX7_use 65 = .ok (.aload_n 0, 1) := by decide +kernel
theorem dX7_use_66 : decode cX7_use 66 = .ok (.iconst 3, 1) := by decide +kernel
theorem dX7_use_67 : decode cX7_use 67 = .ok (.invokevirtual 122, 3) := by decide +kernel
theorem dX7_use_70 : decode cX7_use 70 = .ok (.ireturn, 1) := by decide +kernel
theorem dX7_use_71 : decode cX7_use 71 = .ok (.aload_n 0, 1) := by decide +kernel
theorem dX7_use_72 : decode cX7_use 72 = .ok (.iconst 0, 1) := by decide +kernel
theorem dX7_use_73 : decode cX7_use 73 = .ok (.putfield 80, 3) := by decide +kernel
theorem dX7_use_76 : decode cX7_use 76 = .ok (.aload_n 0, 1) := by decide +kernel
theorem dX7_use_77 : decode cX7_use 77 = .ok (.aload_n 0, 1) := by decide +kernel
theorem dX7_use_78 : decode cX7_use 78 = .ok (.getfield 58, 3) := by decide +kernel
theorem dX7_use_81 : decode cX7_use 81 = .ok (.iload_n 1, 1) := by decide +kernel
theorem dX7_use_82 : decode cX7_use 82 = .ok (.iload_n 3, 1) := by decide +kernel
theorem dX7_use_83 : decode cX7_use 83 = .ok (.invokevirtual 157, 3) := by decide +kernel
theorem dX7_use_86 : decode cX7_use 86 = .ok (.invokevirtual 131, 3) := by decide +kernel
theorem dX7_use_89 : decode cX7_use 89 = .ok (.ireturn, 1) := by decide +kernel
theorem dX7_about_0 : decode cX7_about 0 = .ok (.aload_n 0, 1) := by decide +kernel
theorem dX7_about_1 : decode cX7_about 1 = .ok (.getfield 51, 3) := by decide +kernel
theorem dX7_about_4 : decode cX7_about 4 = .ok (.iload_n 1, 1) := by decide +kernel
theorem dX7_about_5 : decode cX7_about 5 = .ok (.invokevirtual 160, 3) := by decide +kernel
theorem dX7_about_8 : decode cX7_about 8 = .ok (.ifCond .ne 5, 3) := by decide +kernel
theorem dX7_about_11 : decode cX7_about 11 = .ok (.iconst (-1), 1) := by decide +kernel
theorem dX7_about_12 : decode cX7_about 12 = .ok (.ireturn, 1) := by decide +kernel
theorem dX7_about_13 : decode cX7_about 13 = .ok (.iload_n 2, 1) := by decide +kernel
theorem dX7_about_14 : decode cX7_about 14 = .ok (.tableswitch 122 0 6 #[42, 51, 60, 72, 95, 107, 113], 42) := by decide +kernel
theorem dX7_about_56 : decode cX7_about 56 = .ok (.aload_n 0, 1) := by decide +kernel
theorem dX7_about_57 : decode cX7_about 57 = .ok (.getfield 51, 3) := by decide +kernel
theorem dX7_about_60 : decode cX7_about 60 = .ok (.iload_n 1, 1) := by decide +kernel
theorem dX7_about_61 : decode cX7_about 61 = .ok (.invokevirtual 161, 3) := by decide +kernel
theorem dX7_about_64 : decode cX7_about 64 = .ok (.ireturn, 1) := by decide +kernel
theorem dX7_about_65 : decode cX7_about 65 = .ok (.aload_n 0, 1) := by decide +kernel
theorem dX7_about_66 : decode cX7_about 66 = .ok (.getfield 51, 3) := by decide +kernel
theorem dX7_about_69 : decode cX7_about 69 = .ok (.iload_n 1, 1) := by decide +kernel
theorem dX7_about_70 : decode cX7_about 70 = .ok (.invokevirtual 164, 3) := by decide +kernel
theorem dX7_about_73 : decode cX7_about 73 = .ok (.ireturn, 1) := by decide +kernel
theorem dX7_about_74 : decode cX7_about 74 = .ok (.aload_n 0, 1) := by decide +kernel
theorem dX7_about_75 : decode cX7_about 75 = .ok (.getfield 51, 3) := by decide +kernel
theorem dX7_about_78 : decode cX7_about 78 = .ok (.iload_n 1, 1) := by decide +kernel
theorem dX7_about_79 : decode cX7_about 79 = .ok (.invokevirtual 167, 3) := by decide +kernel
theorem dX7_about_82 : decode cX7_about 82 = .ok (.invokevirtual 88, 3) := by decide +kernel
theorem dX7_about_85 : decode cX7_about 85 = .ok (.ireturn, 1) := by decide +kernel
theorem dX7_about_86 : decode cX7_about 86 = .ok (.aload_n 0, 1) := by decide +kernel
theorem dX7_about_87 : decode cX7_about 87 = .ok (.getfield 30, 3) := by decide +kernel
theorem dX7_about_90 : decode cX7_about 90 = .ok (.aload_n 0, 1) := by decide +kernel
theorem dX7_about_91 : decode cX7_about 91 = .ok (.getfield 51, 3) := by decide +kernel
theorem dX7_about_94 : decode cX7_about 94 = .ok (.iload_n 1, 1) := by decide +kernel
theorem dX7_about_95 : decode cX7_about 95 = .ok (.invokevirtual 167, 3) := by decide +kernel
theorem dX7_about_98 : decode cX7_about 98 = .ok (.invokevirtual 171, 3) := by decide +kernel
theorem dX7_about_101 : decode cX7_about 101 = .ok (.aload_n 0, 1) := by decide +kernel
theorem dX7_about_102 : decode cX7_about 102 = .ok (.getfield 30, 3) := by decide +kernel
theorem dX7_about_105 : decode cX7_about 105 = .ok (.invokevirtual 175, 3) := by decide +kernel
theorem dX7_about_108 : decode cX7_about 108 = .ok (.ireturn, 1) := by decide +kernel
theorem dX7_about_109 : decode cX7_about 109 = .ok (.aload_n 0, 1) := by decide +kernel
theorem dX7_about_110 : decode cX7_about 110 = .ok (.getfield 51, 3) := by decide +kernel
theorem dX7_about_113 : decode cX7_about 113 = .ok (.iload_n 1, 1) := by decide +kernel
theorem dX7_about_114 : decode cX7_about 114 = .ok (.invokevirtual 167, 3) := by decide +kernel
theorem dX7_about_117 : decode cX7_about 117 = .ok (.invokevirtual 176, 3) := by decide +kernel
theorem dX7_about_120 : decode cX7_about 120 = .ok (.ireturn, 1) := by decide +kernel
theorem dX7_about_121 : decode cX7_about 121 = .ok (.aload_n 0, 1) := by decide +kernel
theorem dX7_about_122 : decode cX7_about 122 = .ok (.iload_n 1, 1) := by decide +kernel
theorem dX7_about_123 : decode cX7_about 123 = .ok (.invokevirtual 179, 3) := by decide +kernel
theorem dX7_about_126 : decode cX7_about 126 = .ok (.ireturn, 1) := by decide +kernel
theorem dX7_about_127 : decode cX7_about 127 = .ok (.aload_n 0, 1) := by decide +kernel
theorem dX7_about_128 : decode cX7_about 128 = .ok (.getfield 58, 3) := by decide +kernel
theorem dX7_about_131 : decode cX7_about 131 = .ok (.iload_n 1, 1) := by decide +kernel
theorem dX7_about_132 : decode cX7_about 132 = .ok (.invokevirtual 182, 3) := by decide +kernel
theorem dX7_about_135 : decode cX7_about 135 = .ok (.ireturn, 1) := by decide +kernel
theorem dX7_about_136 : decode cX7_about 136 = .ok (.iconst (-1), 1) := by decide +kernel
theorem dX7_about_137 : decode cX7_about 137 = .ok (.ireturn, 1) := by decide +kernel
theorem dX7_name_0 : decode cX7_name 0 = .ok (.aload_n 0, 1) := by decide +kernel
theorem dX7_name_1 : decode cX7_name 1 = .ok (.getfield 51, 3) := by decide +kernel
theorem dX7_name_4 : decode cX7_name 4 = .ok (.iload_n 1, 1) := by decide +kernel
theorem dX7_name_5 : decode cX7_name 5 = .ok (.invokevirtual 160, 3) := by decide +kernel
theorem dX7_name_8 : decode cX7_name 8 = .ok (.ifCond .eq 18, 3) := by decide +kernel
theorem dX7_name_11 : decode cX7_name 11 = .ok (.aload_n 0, 1) := by decide +kernel
theorem dX7_name_12 : decode cX7_name 12 = .ok (.getfield 51, 3) := by decide +kernel
theorem dX7_name_15 : decode cX7_name 15 = .ok (.iload_n 1, 1) := by decide +kernel
theorem dX7_name_16 : decode cX7_name 16 = .ok (.invokevirtual 167, 3) := by decide +kernel
theorem dX7_name_19 : decode cX7_name 19 = .ok (.iload_n 2, 1) := by decide +kernel
theorem dX7_name_20 : decode cX7_name 20 = .ok (.invokevirtual 185, 3) := by decide +kernel
theorem dX7_name_23 : decode cX7_name 23 = .ok (.ifCond .ne 13, 3) := by decide +kernel
theorem dX7_name_26 : decode cX7_name 26 = .ok (.new 186, 3) := by decide +kernel
theorem dX7_name_29 : decode cX7_name 29 = .ok (.dup, 1) := by decide +kernel
theorem dX7_name_30 : decode cX7_name 30 = .ok (.ldc 188, 2) := by decide +kernel
theorem dX7_name_32 : decode cX7_name 32 = .ok (.invokespecial 190, 3) := by decide +kernel
theorem dX7_name_35 : decode cX7_name 35 = .ok (.athrow, 1) := by decide +kernel
theorem dX7_name_36 : decode cX7_name 36 = .ok (.aload_n 0, 1) := by decide +kernel
theorem dX7_name_37 : decode cX7_name 37 = .ok (.getfield 51, 3) := by decide +kernel
theorem dX7_name_40 : decode cX7_name 40 = .ok (.iload_n 1, 1) := by decide +kernel
theorem dX7_name_41 : decode cX7_name 41 = .ok (.invokevirtual 167, 3) := by decide +kernel
theorem dX7_name_44 : decode cX7_name 44 = .ok (.iload_n 2, 1) := by decide +kernel
theorem dX7_name_45 : decode cX7_name 45 = .ok (.invokevirtual 98, 3) := by decide +kernel
theorem dX7_name_48 : decode cX7_name 48 = .ok (.ireturn, 1) := by decide +kernel
theorem dX7_means_0 : decode cX7_means 0 = .ok (.aload_n 0, 1) := by decide +kernel
theorem dX7_means_1 : decode cX7_means 1 = .ok (.getfield 58, 3) := by decide +kernel
theorem dX7_means_4 : decode cX7_means 4 = .ok (.iload_n 1, 1) := by decide +kernel
theorem dX7_means_5 : decode cX7_means 5 = .ok (.invokevirtual 193, 3) := by decide +kernel
theorem dX7_means_8 : decode cX7_means 8 = .ok (.ifCond .ne 5, 3) := by decide +kernel
theorem dX7_means_11 : decode cX7_means 11 = .ok (.iconst (-1), 1) := by decide +kernel
theorem dX7_means_12 : decode cX7_means 12 = .ok (.ireturn, 1) := by decide +kernel
theorem dX7_means_13 : decode cX7_means 13 = .ok (.iload_n 2, 1) := by decide +kernel
theorem dX7_means_14 : decode cX7_means 14 = .ok (.ifCond .ne 12, 3) := by decide +kernel
theorem dX7_means_17 : decode cX7_means 17 = .ok (.aload_n 0, 1) := by decide +kernel
theorem dX7_means_18 : decode cX7_means 18 = .ok (.getfield 58, 3) := by decide +kernel
theorem dX7_means_21 : decode cX7_means 21 = .ok (.iload_n 1, 1) := by decide +kernel
theorem dX7_means_22 : decode cX7_means 22 = .ok (.invokevirtual 194, 3) := by decide +kernel
theorem dX7_means_25 : decode cX7_means 25 = .ok (.ireturn, 1) := by decide +kernel
theorem dX7_means_26 : decode cX7_means 26 = .ok (.iload_n 2, 1) := by decide +kernel
theorem dX7_means_27 : decode cX7_means 27 = .ok (.iconst 1, 1) := by decide +kernel
theorem dX7_means_28 : decode cX7_means 28 = .ok (.if_icmp .ne 14, 3) := by decide +kernel
theorem dX7_means_31 : decode cX7_means 31 = .ok (.aload_n 0, 1) := by decide +kernel
theorem dX7_means_32 : decode cX7_means 32 = .ok (.getfield 58, 3) := by decide +kernel
theorem dX7_means_35 : decode cX7_means 35 = .ok (.iload_n 1, 1) := by decide +kernel
theorem dX7_means_36 : decode cX7_means 36 = .ok (.invokevirtual 195, 3) := by decide +kernel
theorem dX7_means_39 : decode cX7_means 39 = .ok (.goto 4, 3) := by decide +kernel
theorem dX7_means_42 : decode cX7_means 42 = .ok (.iconst (-1), 1) := by decide +kernel
theorem dX7_means_43 : decode cX7_means 43 = .ok (.ireturn, 1) := by decide +kernel
theorem dX7_find_0 : decode cX7_find 0 = .ok (.aload_n 0, 1) := by decide +kernel
theorem dX7_find_1 : decode cX7_find 1 = .ok (.getfield 44, 3) := by decide +kernel
theorem dX7_find_4 : decode cX7_find 4 = .ok (.iload_n 1, 1) := by decide +kernel
theorem dX7_find_5 : decode cX7_find 5 = .ok (.invokevirtual 119, 3) := by decide +kernel
theorem dX7_find_8 : decode cX7_find 8 = .ok (.ifCond .ne 9, 3) := by decide +kernel
theorem dX7_find_11 : decode cX7_find 11 = .ok (.aload_n 0, 1) := by decide +kernel
theorem dX7_find_12 : decode cX7_find 12 = .ok (.iconst 1, 1) := by decide +kernel
theorem dX7_find_13 : decode cX7_find 13 = .ok (.invokevirtual 122, 3) := by decide +kernel
theorem dX7_find_16 : decode cX7_find 16 = .ok (.ireturn, 1) := by decide +kernel
theorem dX7_find_17 : decode cX7_find 17 = .ok (.aload_n 0, 1) := by decide +kernel
theorem dX7_find_18 : decode cX7_find 18 = .ok (.iload_n 2, 1) := by decide +kernel
theorem dX7_find_19 : decode cX7_find 19 = .ok (.invokevirtual 137, 3) := by decide +kernel
theorem dX7_find_22 : decode cX7_find 22 = .ok (.ifCond .ne 9, 3) := by decide +kernel
theorem dX7_find_25 : decode cX7_find 25 = .ok (.aload_n 0, 1) := by decide +kernel
theorem dX7_find_26 : decode cX7_find 26 = .ok (.iconst 2, 1) := by decide +kernel
theorem dX7_find_27 : decode cX7_find 27 = .ok (.invokevirtual 122, 3) := by decide +kernel
theorem dX7_find_30 : decode cX7_find 30 = .ok (.ireturn, 1) := by decide +kernel
theorem dX7_find_31 : decode cX7_find 31 = .ok (.aload_n 0, 1) := by decide +kernel
theorem dX7_find_32 : decode cX7_find 32 = .ok (.aload_n 0, 1) := by decide +kernel
theorem dX7_find_33 : decode cX7_find 33 = .ok (.iload_n 1, 1) := by decide +kernel
theorem dX7_find_34 : decode cX7_find 34 = .ok (.aload_n 0, 1) := by decide +kernel
theorem dX7_find_35 : decode cX7_find 35 = .ok (.getfield 18, 3) := by decide +kernel
theorem dX7_find_38 : decode cX7_find 38 = .ok (.iconst 0, 1) := by decide +kernel
theorem dX7_find_39 : decode cX7_find 39 = .ok (.invokevirtual 152, 3) := by decide +kernel
theorem dX7_find_42 : decode cX7_find 42 = .ok (.invokevirtual 131, 3) := by decide +kernel
theorem dX7_find_45 : decode cX7_find 45 = .ok (.ireturn, 1) := by decide +kernel
theorem dX7_isKind_0 : decode cX7_isKind 0 = .ok (.iload_n 0, 1) := by decide +kernel
theorem dX7_isKind_1 : decode cX7_isKind 1 = .ok (.ifCond .lt 12, 3) := by decide +kernel
theorem dX7_isKind_4 : decode cX7_isKind 4 = .ok (.iload_n 0, 1) := by decide +kernel
theorem dX7_isKind_5 : decode cX7_isKind 5 = .ok (.iconst 3, 1) := by decide +kernel
theorem dX7_isKind_6 : decode cX7_isKind 6 = .ok (.if_icmp .ge 7, 3) := by decide +kernel
theorem dX7_isKind_9 : decode cX7_isKind 9 = .ok (.iconst 1, 1) := by decide +kernel
theorem dX7_isKind_10 : decode cX7_isKind 10 = .ok (.goto 4, 3) := by decide +kernel
theorem dX7_isKind_13 : decode cX7_isKind 13 = .ok (.iconst 0, 1) := by decide +kernel
theorem dX7_isKind_14 : decode cX7_isKind 14 = .ok (.ireturn, 1) := by decide +kernel
theorem dX7_isNameOfOther_0 : decode cX7_isNameOfOther 0 = .ok (.iconst 0, 1) := by decide +kernel
theorem dX7_isNameOfOther_1 : decode cX7_isNameOfOther 1 = .ok (.istore 5, 2) := by decide +kernel
theorem dX7_isNameOfOther_3 : decode cX7_isNameOfOther 3 = .ok (.iload 5, 2) := by decide +kernel
theorem dX7_isNameOfOther_5 : decode cX7_isNameOfOther 5 = .ok (.aload_n 0, 1) := by decide +kernel
theorem dX7_isNameOfOther_6 : decode cX7_isNameOfOther 6 = .ok (.getfield 51, 3) := by decide +kernel
theorem dX7_isNameOfOther_9 : decode cX7_isNameOfOther 9 = .ok (.invokevirtual 198, 3) := by decide +kernel
theorem dX7_isNameOfOther_12 : decode cX7_isNameOfOther 12 = .ok (.if_icmp .ge 45, 3) := by decide +kernel
theorem dX7_isNameOfOther_15 : decode cX7_isNameOfOther 15 = .ok (.iload 5, 2) := by decide +kernel
theorem dX7_isNameOfOther_17 : decode cX7_isNameOfOther 17 = .ok (.iload_n 1, 1) := by decide +kernel
theorem dX7_isNameOfOther_18 : decode cX7_isNameOfOther 18 = .ok (.if_icmp .eq 33, 3) := by decide +kernel
theorem dX7_isNameOfOther_21 : decode cX7_isNameOfOther 21 = .ok (.aload_n 0, 1) := by decide +kernel
theorem dX7_isNameOfOther_22 : decode cX7_isNameOfOther 22 = .ok (.getfield 51, 3) := by decide +kernel
theorem dX7_isNameOfOther_25 : decode cX7_isNameOfOther 25 = .ok (.iload 5, 2) := by decide +kernel
theorem dX7_isNameOfOther_27 : decode cX7_isNameOfOther 27 = .ok (.invokevirtual 161, 3) := by decide +kernel
theorem dX7_isNameOfOther_30 : decode cX7_isNameOfOther 30 = .ok (.iload_n 2, 1) := by decide +kernel
theorem dX7_isNameOfOther_31 : decode cX7_isNameOfOther 31 = .ok (.if_icmp .ne 20, 3) := by decide +kernel
theorem dX7_isNameOfOther_34 : decode cX7_isNameOfOther 34 = .ok (.aload_n 0, 1) := by decide +kernel
theorem dX7_isNameOfOther_35 : decode cX7_isNameOfOther 35 = .ok (.iload 5, 2) := by decide +kernel
theorem dX7_isNameOfOther_37 : decode cX7_isNameOfOther 37 = .ok (.iload 4, 2) := by decide +kernel
theorem dX7_isNameOfOther_39 : decode cX7_isNameOfOther 39 = .ok (.invokevirtual 199, 3) := by decide +kernel
theorem dX7_isNameOfOther_42 : decode cX7_isNameOfOther 42 = .ok (.aload_n 3, 1) := by decide +kernel
theorem dX7_isNameOfOther_43 : decode cX7_isNameOfOther 43 = .ok (.invokevirtual 203, 3) := by decide +kernel
theorem dX7_isNameOfOther_46 : decode cX7_isNameOfOther 46 = .ok (.ifCond .eq 5, 3) := by decide +kernel
theorem dX7_isNameOfOther_49 : decode cX7_isNameOfOther 49 = .ok (.iconst 1, 1) := by decide +kernel
theorem dX7_isNameOfOther_50 : decode cX7_isNameOfOther 50 = .ok (.ireturn, 1) := by decide +kernel
theorem dX7_isNameOfOther_51 : decode cX7_isNameOfOther 51 = .ok (.iinc 5 1, 3) := by decide +kernel
theorem dX7_isNameOfOther_54 : decode cX7_isNameOfOther 54 = .ok (.goto (-51), 3) := by decide +kernel
theorem dX7_isNameOfOther_57 : decode cX7_isNameOfOther 57 = .ok (.iconst 0, 1) := by decide +kernel
theorem dX7_isNameOfOther_58 : decode cX7_isNameOfOther 58 = .ok (.ireturn, 1) := by decide +kernel
theorem dX7_wouldCatchUse_0 : decode cX7_wouldCatchUse 0 = .ok (.iconst 0, 1) := by decide +kernel
theorem dX7_wouldCatchUse_1 : decode cX7_wouldCatchUse 1 = .ok (.istore 4, 2) := by decide +kernel
theorem dX7_wouldCatchUse_3 : decode cX7_wouldCatchUse 3 = .ok (.iload 4, 2) := by decide +kernel
theorem dX7_wouldCatchUse_5 : decode cX7_wouldCatchUse 5 = .ok (.aload_n 0, 1) := by decide +kernel
theorem dX7_wouldCatchUse_6 : decode cX7_wouldCatchUse 6 = .ok (.getfield 58, 3) := by decide +kernel
theorem dX7_wouldCatchUse_9 : decode cX7_wouldCatchUse 9 = .ok (.invokevirtual 207, 3) := by decide +kernel
theorem dX7_wouldCatchUse_12 : decode cX7_wouldCatchUse 12 = .ok (.if_icmp .ge 69, 3) := by decide +kernel
theorem dX7_wouldCatchUse_15 : decode cX7_wouldCatchUse 15 = .ok (.aload_n 0, 1) := by decide +kernel
theorem dX7_wouldCatchUse_16 : decode cX7_wouldCatchUse 16 = .ok (.getfield 58, 3) := by decide +kernel
theorem dX7_wouldCatchUse_19 : decode cX7_wouldCatchUse 19 = .ok (.iload 4, 2) := by decide +kernel
theorem dX7_wouldCatchUse_21 : decode cX7_wouldCatchUse 21 = .ok (.invokevirtual 195, 3) := by decide +kernel
theorem dX7_wouldCatchUse_24 : decode cX7_wouldCatchUse 24 = .ok (.istore 5, 2) := by decide +kernel
theorem dX7_wouldCatchUse_26 : decode cX7_wouldCatchUse 26 = .ok (.iload_n 1, 1) := by decide +kernel
theorem dX7_wouldCatchUse_27 : decode cX7_wouldCatchUse 27 = .ok (.aload_n 0, 1) := by decide +kernel
theorem dX7_wouldCatchUse_28 : decode cX7_wouldCatchUse 28 = .ok (.getfield 51, 3) := by decide +kernel
theorem dX7_wouldCatchUse_31 : decode cX7_wouldCatchUse 31 = .ok (.iload 5, 2) := by decide +kernel
theorem dX7_wouldCatchUse_33 : decode cX7_wouldCatchUse 33 = .ok (.invokevirtual 161, 3) := by decide +kernel
theorem dX7_wouldCatchUse_36 : decode cX7_wouldCatchUse 36 = .ok (.if_icmp .le 39, 3) := by decide +kernel
theorem dX7_wouldCatchUse_39 : decode cX7_wouldCatchUse 39 = .ok (.aload_n 0, 1) := by decide +kernel
theorem dX7_wouldCatchUse_40 : decode cX7_wouldCatchUse 40 = .ok (.getfield 44, 3) := by decide +kernel
theorem dX7_wouldCatchUse_43 : decode cX7_wouldCatchUse 43 = .ok (.aload_n 0, 1) := by decide +kernel
theorem dX7_wouldCatchUse_44 : decode cX7_wouldCatchUse 44 = .ok (.getfield 58, 3) := by decide +kernel
theorem dX7_wouldCatchUse_47 : decode cX7_wouldCatchUse 47 = .ok (.iload 4, 2) := by decide +kernel
theorem dX7_wouldCatchUse_49 : decode cX7_wouldCatchUse 49 = .ok (.invokevirtual 194, 3) := by decide +kernel
theorem dX7_wouldCatchUse_52 : decode cX7_wouldCatchUse 52 = .ok (.iload_n 1, 1) := by decide +kernel
theorem dX7_wouldCatchUse_53 : decode cX7_wouldCatchUse 53 = .ok (.invokevirtual 208, 3) := by decide +kernel
theorem dX7_wouldCatchUse_56 : decode cX7_wouldCatchUse 56 = .ok (.ifCond .eq 19, 3) := by decide +kernel
theorem dX7_wouldCatchUse_59 : decode cX7_wouldCatchUse 59 = .ok (.aload_n 0, 1) := by decide +kernel
theorem dX7_wouldCatchUse_60 : decode cX7_wouldCatchUse 60 = .ok (.iload 5, 2) := by decide +kernel
theorem dX7_wouldCatchUse_62 : decode cX7_wouldCatchUse 62 = .ok (.iload_n 3, 1) := by decide +kernel
theorem dX7_wouldCatchUse_63 : decode cX7_wouldCatchUse 63 = .ok (.invokevirtual 199, 3) := by decide +kernel
theorem dX7_wouldCatchUse_66 : decode cX7_wouldCatchUse 66 = .ok (.aload_n 2, 1) := by decide +kernel
theorem dX7_wouldCatchUse_67 : decode cX7_wouldCatchUse 67 = .ok (.invokevirtual 203, 3) := by decide +kernel
theorem dX7_wouldCatchUse_70 : decode cX7_wouldCatchUse 70 = .ok (.ifCond .eq 5, 3) := by decide +kernel
theorem dX7_wouldCatchUse_73 : decode cX7_wouldCatchUse 73 = .ok (.iconst 1, 1) := by decide +kernel
theorem dX7_wouldCatchUse_74 : decode cX7_wouldCatchUse 74 = .ok (.ireturn, 1) := by decide +kernel
theorem dX7_wouldCatchUse_75 : decode cX7_wouldCatchUse 75 = .ok (.iinc 4 1, 3) := by decide +kernel
theorem dX7_wouldCatchUse_78 : decode cX7_wouldCatchUse 78 = .ok (.goto (-75), 3) := by decide +kernel
theorem dX7_wouldCatchUse_81 : decode cX7_wouldCatchUse 81 = .ok (.iconst 0, 1) := by decide +kernel
theorem dX7_wouldCatchUse_82 : decode cX7_wouldCatchUse 82 = .ok (.ireturn, 1) := by decide +kernel
theorem dX7_nameNowOrThen_0 : decode cX7_nameNowOrThen 0 = .ok (.iload_n 2, 1) := by decide +kernel
theorem dX7_nameNowOrThen_1 : decode cX7_nameNowOrThen 1 = .ok (.ifCond .eq 25, 3) := by decide +kernel
theorem dX7_nameNowOrThen_4 : decode cX7_nameNowOrThen 4 = .ok (.aload_n 0, 1) := by decide +kernel
theorem dX7_nameNowOrThen_5 : decode cX7_nameNowOrThen 5 = .ok (.getfield 65, 3) := by decide +kernel
theorem dX7_nameNowOrThen_8 : decode cX7_nameNowOrThen 8 = .ok (.iload_n 1, 1) := by decide +kernel
theorem dX7_nameNowOrThen_9 : decode cX7_nameNowOrThen 9 = .ok (.invokevirtual 212, 3) := by decide +kernel
theorem dX7_nameNowOrThen_12 : decode cX7_nameNowOrThen 12 = .ok (.ifCond .eq 14, 3) := by decide +kernel
theorem dX7_nameNowOrThen_15 : decode cX7_nameNowOrThen 15 = .ok (.aload_n 0, 1) := by decide +kernel
theorem dX7_nameNowOrThen_16 : decode cX7_nameNowOrThen 16 = .ok (.getfield 65, 3) := by decide +kernel
theorem dX7_nameNowOrThen_19 : decode cX7_nameNowOrThen 19 = .ok (.iload_n 1, 1) := by decide +kernel
theorem dX7_nameNowOrThen_20 : decode cX7_nameNowOrThen 20 = .ok (.invokevirtual 213, 3) := by decide +kernel
theorem dX7_nameNowOrThen_23 : decode cX7_nameNowOrThen 23 = .ok (.goto 11, 3) := by decide +kernel
theorem dX7_nameNowOrThen_26 : decode cX7_nameNowOrThen 26 = .ok (.aload_n 0, 1) := by decide +kernel
theorem dX7_nameNowOrThen_27 : decode cX7_nameNowOrThen 27 = .ok (.getfield 51, 3) := by decide +kernel
theorem dX7_nameNowOrThen_30 : decode cX7_nameNowOrThen 30 = .ok (.iload_n 1, 1) := by decide +kernel
theorem dX7_nameNowOrThen_31 : decode cX7_nameNowOrThen 31 = .ok (.invokevirtual 167, 3) := by decide +kernel
theorem dX7_nameNowOrThen_34 : decode cX7_nameNowOrThen 34 = .ok (.areturn, 1) := by decide +kernel
theorem dX7_thingMeant_0 : decode cX7_thingMeant 0 = .ok (.bipush (-2), 2) := by decide +kernel
theorem dX7_thingMeant_2 : decode cX7_thingMeant 2 = .ok (.istore 4, 2) := by decide +kernel
theorem dX7_thingMeant_4 : decode cX7_thingMeant 4 = .ok (.iconst (-1), 1) := by decide +kernel
theorem dX7_thingMeant_5 : decode cX7_thingMeant 5 = .ok (.istore 5, 2) := by decide +kernel
theorem dX7_thingMeant_7 : decode cX7_thingMeant 7 = .ok (.iconst 0, 1) := by decide +kernel
theorem dX7_thingMeant_8 : decode cX7_thingMeant 8 = .ok (.istore 6, 2) := by decide +kernel
theorem dX7_thingMeant_10 : decode cX7_thingMeant 10 = .ok (.iload 6, 2) := by decide +kernel
theorem dX7_thingMeant_12 : decode cX7_thingMeant 12 = .ok (.aload_n 0, 1) := by decide +kernel
theorem dX7_thingMeant_13 : decode cX7_thingMeant 13 = .ok (.getfield 51, 3) := by decide +kernel
theorem dX7_thingMeant_16 : decode cX7_thingMeant 16 = .ok (.invokevirtual 198, 3) := by decide +kernel
theorem dX7_thingMeant_19 : decode cX7_thingMeant 19 = .ok (.if_icmp .ge 62, 3) := by decide +kernel
theorem dX7_thingMeant_22 : decode cX7_thingMeant 22 = .ok (.aload_n 0, 1) := by decide +kernel
theorem dX7_thingMeant_23 : decode cX7_thingMeant 23 = .ok (.getfield 51, 3) := by decide +kernel
theorem dX7_thingMeant_26 : decode cX7_thingMeant 26 = .ok (.iload 6, 2) := by decide +kernel
theorem dX7_thingMeant_28 : decode cX7_thingMeant 28 = .ok (.invokevirtual 161, 3) := by decide +kernel
theorem dX7_thingMeant_31 : decode cX7_thingMeant 31 = .ok (.istore 7, 2) := by decide +kernel
theorem dX7_thingMeant_33 : decode cX7_thingMeant 33 = .ok (.iload 7, 2) := by decide +kernel
theorem dX7_thingMeant_35 : decode cX7_thingMeant 35 = .ok (.iload 5, 2) := by decide +kernel
theorem dX7_thingMeant_37 : decode cX7_thingMeant 37 = .ok (.if_icmp .le 38, 3) := by decide +kernel
theorem dX7_thingMeant_40 : decode cX7_thingMeant 40 = .ok (.aload_n 0, 1) := by decide +kernel
theorem dX7_thingMeant_41 : decode cX7_thingMeant 41 = .ok (.getfield 44, 3) := by decide +kernel
theorem dX7_thingMeant_44 : decode cX7_thingMeant 44 = .ok (.iload_n 1, 1) := by decide +kernel
theorem dX7_thingMeant_45 : decode cX7_thingMeant 45 = .ok (.iload 7, 2) := by decide +kernel
theorem dX7_thingMeant_47 : decode cX7_thingMeant 47 = .ok (.invokevirtual 208, 3) := by decide +kernel
theorem dX7_thingMeant_50 : decode cX7_thingMeant 50 = .ok (.ifCond .eq 25, 3) := by decide +kernel
theorem dX7_thingMeant_53 : decode cX7_thingMeant 53 = .ok (.aload_n 0, 1) := by decide +kernel
theorem dX7_thingMeant_54 : decode cX7_thingMeant 54 = .ok (.iload 6, 2) := by decide +kernel
theorem dX7_thingMeant_56 : decode cX7_thingMeant 56 = .ok (.iload_n 3, 1) := by decide +kernel
theorem dX7_thingMeant_57 : decode cX7_thingMeant 57 = .ok (.invokevirtual 199, 3) := by decide +kernel
theorem dX7_thingMeant_60 : decode cX7_thingMeant 60 = .ok (.aload_n 2, 1) := by decide +kernel
theorem dX7_thingMeant_61 : decode cX7_thingMeant 61 = .ok (.invokevirtual 203, 3) := by decide +kernel
theorem dX7_thingMeant_64 : decode cX7_thingMeant 64 = .ok (.ifCond .eq 11, 3) := by decide +kernel
theorem dX7_thingMeant_67 : decode cX7_thingMeant 67 = .ok (.iload 6, 2) := by decide +kernel
theorem dX7_thingMeant_69 : decode cX7_thingMeant 69 = .ok (.istore 4, 2) := by decide +kernel
theorem dX7_thingMeant_71 : decode cX7_thingMeant 71 = .ok (.iload 7, 2) := by decide +kernel
theorem dX7_thingMeant_73 : decode cX7_thingMeant 73 = .ok (.istore 5, 2) := by decide +kernel
theorem dX7_thingMeant_75 : decode cX7_thingMeant 75 = .ok (.iinc 6 1, 3) := by decide +kernel
theorem dX7_thingMeant_78 : decode cX7_thingMeant 78 = .ok (.goto (-68), 3) := by decide +kernel
theorem dX7_thingMeant_81 : decode cX7_thingMeant 81 = .ok (.iload 4, 2) := by decide +kernel
theorem dX7_thingMeant_83 : decode cX7_thingMeant 83 = .ok (.ireturn, 1) := by decide +kernel
theorem dX7_word_0 : decode cX7_word 0 = .ok (.iload_n 1, 1) := by decide +kernel
theorem dX7_word_1 : decode cX7_word 1 = .ok (.ifCond .lt 17, 3) := by decide +kernel
theorem dX7_word_4 : decode cX7_word 4 = .ok (.iload_n 1, 1) := by decide +kernel
theorem dX7_word_5 : decode cX7_word 5 = .ok (.bipush 15, 2) := by decide +kernel
theorem dX7_word_7 : decode cX7_word 7 = .ok (.if_icmp .gt 11, 3) := by decide +kernel
theorem dX7_word_10 : decode cX7_word 10 = .ok (.aload_n 0, 1) := by decide +kernel
theorem dX7_word_11 : decode cX7_word 11 = .ok (.iload_n 2, 1) := by decide +kernel
theorem dX7_word_12 : decode cX7_word 12 = .ok (.invokevirtual 214, 3) := by decide +kernel
theorem dX7_word_15 : decode cX7_word 15 = .ok (.ifCond .ne 9, 3) := by decide +kernel
theorem dX7_word_18 : decode cX7_word 18 = .ok (.aload_n 0, 1) := by decide +kernel
theorem dX7_word_19 : decode cX7_word 19 = .ok (.iconst 2, 1) := by decide +kernel
theorem dX7_word_20 : decode cX7_word 20 = .ok (.invokevirtual 122, 3) := by decide +kernel
theorem dX7_word_23 : decode cX7_word 23 = .ok (.ireturn, 1) := by decide +kernel
theorem dX7_word_24 : decode cX7_word 24 = .ok (.aload_n 0, 1) := by decide +kernel
theorem dX7_word_25 : decode cX7_word 25 = .ok (.getfield 30, 3) := by decide +kernel
theorem dX7_word_28 : decode cX7_word 28 = .ok (.aload_n 0, 1) := by decide +kernel
theorem dX7_word_29 : decode cX7_word 29 = .ok (.getfield 18, 3) := by decide +kernel
theorem dX7_word_32 : decode cX7_word 32 = .ok (.invokevirtual 171, 3) := by decide +kernel
theorem dX7_word_35 : decode cX7_word 35 = .ok (.aload_n 0, 1) := by decide +kernel
theorem dX7_word_36 : decode cX7_word 36 = .ok (.getfield 30, 3) := by decide +kernel
theorem dX7_word_39 : decode cX7_word 39 = .ok (.iconst 0, 1) := by decide +kernel
theorem dX7_word_40 : decode cX7_word 40 = .ok (.invokevirtual 217, 3) := by decide +kernel
theorem dX7_word_43 : decode cX7_word 43 = .ok (.lstore_n 3, 1) := by decide +kernel
theorem dX7_word_44 : decode cX7_word 44 = .ok (.aload_n 0, 1) := by decide +kernel
theorem dX7_word_45 : decode cX7_word 45 = .ok (.getfield 37, 3) := by decide +kernel
theorem dX7_word_48 : decode cX7_word 48 = .ok (.lload_n 3, 1) := by decide +kernel
theorem dX7_word_49 : decode cX7_word 49 = .ok (.invokevirtual 221, 3) := by decide +kernel
theorem dX7_word_52 : decode cX7_word 52 = .ok (.bipush (-2), 2) := by decide +kernel
theorem dX7_word_54 : decode cX7_word 54 = .ok (.if_icmp .eq 9, 3) := by decide +kernel
theorem dX7_word_57 : decode cX7_word 57 = .ok (.aload_n 0, 1) := by decide +kernel
theorem dX7_word_58 : decode cX7_word 58 = .ok (.iconst 4, 1) := by decide +kernel
theorem dX7_word_59 : decode cX7_word 59 = .ok (.invokevirtual 122, 3) := by decide +kernel
theorem dX7_word_62 : decode cX7_word 62 = .ok (.ireturn, 1) := by decide +kernel
theorem dX7_word_63 : decode cX7_word 63 = .ok (.aload_n 0, 1) := by decide +kernel
theorem dX7_word_64 : decode cX7_word 64 = .ok (.getfield 37, 3) := by decide +kernel
theorem dX7_word_67 : decode cX7_word 67 = .ok (.invokevirtual 225, 3) := by decide +kernel
theorem dX7_word_70 : decode cX7_word 70 = .ok (.ifCond .eq 9, 3) := by decide +kernel
theorem dX7_word_73 : decode cX7_word 73 = .ok (.aload_n 0, 1) := by decide +kernel
theorem dX7_word_74 : decode cX7_word 74 = .ok (.iconst 3, 1) := by decide +kernel
theorem dX7_word_75 : decode cX7_word 75 = .ok (.invokevirtual 122, 3) := by decide +kernel
theorem dX7_word_78 : decode cX7_word 78 = .ok (.ireturn, 1) := by decide +kernel
theorem dX7_word_79 : decode cX7_word 79 = .ok (.aload_n 0, 1) := by decide +kernel
theorem dX7_word_80 : decode cX7_word 80 = .ok (.aload_n 0, 1) := by decide +kernel
theorem dX7_word_81 : decode cX7_word 81 = .ok (.getfield 37, 3) := by decide +kernel
theorem dX7_word_84 : decode cX7_word 84 = .ok (.lload_n 3, 1) := by decide +kernel
theorem dX7_word_85 : decode cX7_word 85 = .ok (.iload_n 1, 1) := by decide +kernel
theorem dX7_word_86 : decode cX7_word 86 = .ok (.invokevirtual 226, 3) := by decide +kernel
theorem dX7_word_89 : decode cX7_word 89 = .ok (.invokevirtual 131, 3) := by decide +kernel
theorem dX7_word_92 : decode cX7_word 92 = .ok (.ireturn, 1) := by decide +kernel
theorem dX7_shorts_0 : decode cX7_shorts 0 = .ok (.aload_n 0, 1) := by decide +kernel
theorem dX7_shorts_1 : decode cX7_shorts 1 = .ok (.getfield 37, 3) := by decide +kernel
theorem dX7_shorts_4 : decode cX7_shorts 4 = .ok (.iload_n 1, 1) := by decide +kernel
theorem dX7_shorts_5 : decode cX7_shorts 5 = .ok (.invokevirtual 229, 3) := by decide +kernel
theorem dX7_shorts_8 : decode cX7_shorts 8 = .ok (.ifCond .eq 28, 3) := by decide +kernel
theorem dX7_shorts_11 : decode cX7_shorts 11 = .ok (.iload_n 2, 1) := by decide +kernel
theorem dX7_shorts_12 : decode cX7_shorts 12 = .ok (.iconst (-1), 1) := by decide +kernel
theorem dX7_shorts_13 : decode cX7_shorts 13 = .ok (.if_icmp .eq 14, 3) := by decide +kernel
theorem dX7_shorts_16 : decode cX7_shorts 16 = .ok (.aload_n 0, 1) := by decide +kernel
theorem dX7_shorts_17 : decode cX7_shorts 17 = .ok (.getfield 37, 3) := by decide +kernel
theorem dX7_shorts_20 : decode cX7_shorts 20 = .ok (.iload_n 2, 1) := by decide +kernel
theorem dX7_shorts_21 : decode cX7_shorts 21 = .ok (.invokevirtual 229, 3) := by decide +kernel
theorem dX7_shorts_24 : decode cX7_shorts 24 = .ok (.ifCond .eq 12, 3) := by decide +kernel
theorem dX7_shorts_27 : decode cX7_shorts 27 = .ok (.iload_n 1, 1) := by decide +kernel
theorem dX7_shorts_28 : decode cX7_shorts 28 = .ok (.iload_n 2, 1) := by decide +kernel
theorem dX7_shorts_29 : decode cX7_shorts 29 = .ok (.if_icmp .eq 7, 3) := by decide +kernel
theorem dX7_shorts_32 : decode cX7_shorts 32 = .ok (.iconst 1, 1) := by decide +kernel
theorem dX7_shorts_33 : decode cX7_shorts 33 = .ok (.goto 4, 3) := by decide +kernel
theorem dX7_shorts_36 : decode cX7_shorts 36 = .ok (.iconst 0, 1) := by decide +kernel
theorem dX7_shorts_37 : decode cX7_shorts 37 = .ok (.istore_n 3, 1) := by decide +kernel
theorem dX7_shorts_38 : decode cX7_shorts 38 = .ok (.aload_n 0, 1) := by decide +kernel
theorem dX7_shorts_39 : decode cX7_shorts 39 = .ok (.iload_n 3, 1) := by decide +kernel
theorem dX7_shorts_40 : decode cX7_shorts 40 = .ok (.ifCond .eq 7, 3) := by decide +kernel
theorem dX7_shorts_43 : decode cX7_shorts 43 = .ok (.iconst 0, 1) := by decide +kernel
theorem dX7_shorts_44 : decode cX7_shorts 44 = .ok (.goto 4, 3) := by decide +kernel
theorem dX7_shorts_47 : decode cX7_shorts 47 = .ok (.iconst 1, 1) := by decide +kernel
theorem dX7_shorts_48 : decode cX7_shorts 48 = .ok (.putfield 84, 3) := by decide +kernel
theorem dX7_shorts_51 : decode cX7_shorts 51 = .ok (.iload_n 3, 1) := by decide +kernel
theorem dX7_shorts_52 : decode cX7_shorts 52 = .ok (.ifCond .eq 12, 3) := by decide +kernel
theorem dX7_shorts_55 : decode cX7_shorts 55 = .ok (.aload_n 0, 1) := by decide +kernel
theorem dX7_shorts_56 : decode cX7_shorts 56 = .ok (.getfield 37, 3) := by decide +kernel
theorem dX7_shorts_59 : decode cX7_shorts 59 = .ok (.iload_n 1, 1) := by decide +kernel
theorem dX7_shorts_60 : decode cX7_shorts 60 = .ok (.iload_n 2, 1) := by decide +kernel
theorem dX7_shorts_61 : decode cX7_shorts 61 = .ok (.invokevirtual 230, 3) := by decide +kernel
theorem dX7_shorts_64 : decode cX7_shorts 64 = .ok (.iload_n 3, 1) := by decide +kernel
theorem dX7_shorts_65 : decode cX7_shorts 65 = .ok (.ireturn, 1) := by decide +kernel
theorem dX7_alike_0 : decode cX7_alike 0 = .ok (.aload_n 0, 1) := by decide +kernel
theorem dX7_alike_1 : decode cX7_alike 1 = .ok (.getfield 37, 3) := by decide +kernel
theorem dX7_alike_4 : decode cX7_alike 4 = .ok (.iload_n 1, 1) := by decide +kernel
theorem dX7_alike_5 : decode cX7_alike 5 = .ok (.invokevirtual 229, 3) := by decide +kernel
theorem dX7_alike_8 : decode cX7_alike 8 = .ok (.ifCond .eq 18, 3) := by decide +kernel
theorem dX7_alike_11 : decode cX7_alike 11 = .ok (.aload_n 0, 1) := by decide +kernel
theorem dX7_alike_12 : decode cX7_alike 12 = .ok (.getfield 37, 3) := by decide +kernel
theorem dX7_alike_15 : decode cX7_alike 15 = .ok (.iload_n 2, 1) := by decide +kernel
theorem dX7_alike_16 : decode cX7_alike 16 = .ok (.invokevirtual 229, 3) := by decide +kernel
theorem dX7_alike_19 : decode cX7_alike 19 = .ok (.ifCond .eq 7, 3) := by decide +kernel
theorem dX7_alike_22 : decode cX7_alike 22 = .ok (.iconst 1, 1) := by decide +kernel
theorem dX7_alike_23 : decode cX7_alike 23 = .ok (.goto 4, 3) := by decide +kernel
theorem dX7_alike_26 : decode cX7_alike 26 = .ok (.iconst 0, 1) := by decide +kernel
theorem dX7_alike_27 : decode cX7_alike 27 = .ok (.istore_n 3, 1) := by decide +kernel
theorem dX7_alike_28 : decode cX7_alike 28 = .ok (.aload_n 0, 1) := by decide +kernel
theorem dX7_alike_29 : decode cX7_alike 29 = .ok (.iload_n 3, 1) := by decide +kernel
theorem dX7_alike_30 : decode cX7_alike 30 = .ok (.ifCond .eq 7, 3) := by decide +kernel
theorem dX7_alike_33 : decode cX7_alike 33 = .ok (.iconst 0, 1) := by decide +kernel
theorem dX7_alike_34 : decode cX7_alike 34 = .ok (.goto 4, 3) := by decide +kernel
theorem dX7_alike_37 : decode cX7_alike 37 = .ok (.iconst 1, 1) := by decide +kernel
theorem dX7_alike_38 : decode cX7_alike 38 = .ok (.putfield 84, 3) := by decide +kernel
theorem dX7_alike_41 : decode cX7_alike 41 = .ok (.iload_n 3, 1) := by decide +kernel
theorem dX7_alike_42 : decode cX7_alike 42 = .ok (.ifCond .eq 12, 3) := by decide +kernel
theorem dX7_alike_45 : decode cX7_alike 45 = .ok (.aload_n 0, 1) := by decide +kernel
theorem dX7_alike_46 : decode cX7_alike 46 = .ok (.getfield 37, 3) := by decide +kernel
theorem dX7_alike_49 : decode cX7_alike 49 = .ok (.iload_n 1, 1) := by decide +kernel
theorem dX7_alike_50 : decode cX7_alike 50 = .ok (.iload_n 2, 1) := by decide +kernel
theorem dX7_alike_51 : decode cX7_alike 51 = .ok (.invokevirtual 234, 3) := by decide +kernel
theorem dX7_alike_54 : decode cX7_alike 54 = .ok (.iload_n 3, 1) := by decide +kernel
theorem dX7_alike_55 : decode cX7_alike 55 = .ok (.ireturn, 1) := by decide +kernel
theorem dX7_told_0 : decode cX7_told 0 = .ok (.aload_n 0, 1) := by decide +kernel
theorem dX7_told_1 : decode cX7_told 1 = .ok (.getfield 37, 3) := by decide +kernel
theorem dX7_told_4 : decode cX7_told 4 = .ok (.iload_n 1, 1) := by decide +kernel
theorem dX7_told_5 : decode cX7_told 5 = .ok (.invokevirtual 229, 3) := by decide +kernel
theorem dX7_told_8 : decode cX7_told 8 = .ok (.ifCond .ne 5, 3) := by decide +kernel
theorem dX7_told_11 : decode cX7_told 11 = .ok (.iconst (-1), 1) := by decide +kernel
theorem dX7_told_12 : decode cX7_told 12 = .ok (.ireturn, 1) := by decide +kernel
theorem dX7_told_13 : decode cX7_told 13 = .ok (.iload_n 2, 1) := by decide +kernel
theorem dX7_told_14 : decode cX7_told 14 = .ok (.tableswitch 87 0 4 #[34, 43, 52, 65, 78], 34) := by decide +kernel
theorem dX7_told_48 : decode cX7_told 48 = .ok (.aload_n 0, 1) := by decide +kernel
theorem dX7_told_49 : decode cX7_told 49 = .ok (.getfield 37, 3) := by decide +kernel
theorem dX7_told_52 : decode cX7_told 52 = .ok (.iload_n 1, 1) := by decide +kernel
theorem dX7_told_53 : decode cX7_told 53 = .ok (.invokevirtual 237, 3) := by decide +kernel
theorem dX7_told_56 : decode cX7_told 56 = .ok (.ireturn, 1) := by decide +kernel
theorem dX7_told_57 : decode cX7_told 57 = .ok (.aload_n 0, 1) := by decide +kernel
theorem dX7_told_58 : decode cX7_told 58 = .ok (.getfield 37, 3) := by decide +kernel
theorem dX7_told_61 : decode cX7_told 61 = .ok (.iload_n 1, 1) := by decide +kernel
theorem dX7_told_62 : decode cX7_told 62 = .ok (.invokevirtual 240, 3) := by decide +kernel
theorem dX7_told_65 : decode cX7_told 65 = .ok (.ireturn, 1) := by decide +kernel
theorem dX7_told_66 : decode cX7_told 66 = .ok (.aload_n 0, 1) := by decide +kernel
theorem dX7_told_67 : decode cX7_told 67 = .ok (.invokevirtual 243, 3) := by decide +kernel
theorem dX7_told_70 : decode cX7_told 70 = .ok (.aload_n 0, 1) := by decide +kernel
theorem dX7_told_71 : decode cX7_told 71 = .ok (.getfield 37, 3) := by decide +kernel
theorem dX7_told_74 : decode cX7_told 74 = .ok (.iload_n 1, 1) := by decide +kernel
theorem dX7_told_75 : decode cX7_told 75 = .ok (.invokevirtual 246, 3) := by decide +kernel
theorem dX7_told_78 : decode cX7_told 78 = .ok (.ireturn, 1) := by decide +kernel
theorem dX7_told_79 : decode cX7_told 79 = .ok (.aload_n 0, 1) := by decide +kernel
theorem dX7_told_80 : decode cX7_told 80 = .ok (.invokevirtual 243, 3) := by decide +kernel
theorem dX7_told_83 : decode cX7_told 83 = .ok (.aload_n 0, 1) := by decide +kernel
theorem dX7_told_84 : decode cX7_told 84 = .ok (.getfield 37, 3) := by decide +kernel
theorem dX7_told_87 : decode cX7_told 87 = .ok (.iload_n 1, 1) := by decide +kernel
theorem dX7_told_88 : decode cX7_told 88 = .ok (.invokevirtual 249, 3) := by decide +kernel
theorem dX7_told_91 : decode cX7_told 91 = .ok (.ireturn, 1) := by decide +kernel
theorem dX7_told_92 : decode cX7_told 92 = .ok (.aload_n 0, 1) := by decide +kernel
theorem dX7_told_93 : decode cX7_told 93 = .ok (.getfield 37, 3) := by decide +kernel
theorem dX7_told_96 : decode cX7_told 96 = .ok (.iload_n 1, 1) := by decide +kernel
theorem dX7_told_97 : decode cX7_told 97 = .ok (.invokevirtual 252, 3) := by decide +kernel
theorem dX7_told_100 : decode cX7_told 100 = .ok (.ireturn, 1) := by decide +kernel
theorem dX7_told_101 : decode cX7_told 101 = .ok (.iconst (-1), 1) := by decide +kernel
theorem dX7_told_102 : decode cX7_told 102 = .ok (.ireturn, 1) := by decide +kernel
theorem dX7_part_0 : decode cX7_part 0 = .ok (.aload_n 0, 1) := by decide +kernel
theorem dX7_part_1 : decode cX7_part 1 = .ok (.getfield 51, 3) := by decide +kernel
theorem dX7_part_4 : decode cX7_part 4 = .ok (.iload_n 1, 1) := by decide +kernel
theorem dX7_part_5 : decode cX7_part 5 = .ok (.invokevirtual 160, 3) := by decide +kernel
theorem dX7_part_8 : decode cX7_part 8 = .ok (.ifCond .ne 5, 3) := by decide +kernel
theorem dX7_part_11 : decode cX7_part 11 = .ok (.iconst (-1), 1) := by decide +kernel
theorem dX7_part_12 : decode cX7_part 12 = .ok (.ireturn, 1) := by decide +kernel
theorem dX7_part_13 : decode cX7_part 13 = .ok (.aload_n 0, 1) := by decide +kernel
theorem dX7_part_14 : decode cX7_part 14 = .ok (.getfield 30, 3) := by decide +kernel
theorem dX7_part_17 : decode cX7_part 17 = .ok (.aload_n 0, 1) := by decide +kernel
theorem dX7_part_18 : decode cX7_part 18 = .ok (.getfield 51, 3) := by decide +kernel
theorem dX7_part_21 : decode cX7_part 21 = .ok (.iload_n 1, 1) := by decide +kernel
theorem dX7_part_22 : decode cX7_part 22 = .ok (.invokevirtual 167, 3) := by decide +kernel
theorem dX7_part_25 : decode cX7_part 25 = .ok (.invokevirtual 171, 3) := by decide +kernel
theorem dX7_part_28 : decode cX7_part 28 = .ok (.aload_n 0, 1) := by decide +kernel
theorem dX7_part_29 : decode cX7_part 29 = .ok (.getfield 30, 3) := by decide +kernel
theorem dX7_part_32 : decode cX7_part 32 = .ok (.iload_n 2, 1) := by decide +kernel
theorem dX7_part_33 : decode cX7_part 33 = .ok (.invokevirtual 255, 3) := by decide +kernel
theorem dX7_part_36 : decode cX7_part 36 = .ok (.ifCond .eq 21, 3) := by decide +kernel
theorem dX7_part_39 : decode cX7_part 39 = .ok (.aload_n 0, 1) := by decide +kernel
theorem dX7_part_40 : decode cX7_part 40 = .ok (.getfield 37, 3) := by decide +kernel
theorem dX7_part_43 : decode cX7_part 43 = .ok (.aload_n 0, 1) := by decide +kernel
theorem dX7_part_44 : decode cX7_part 44 = .ok (.getfield 30, 3) := by decide +kernel
theorem dX7_part_47 : decode cX7_part 47 = .ok (.iload_n 2, 1) := by decide +kernel
theorem dX7_part_48 : decode cX7_part 48 = .ok (.invokevirtual 217, 3) := by decide +kernel
theorem dX7_part_51 : decode cX7_part 51 = .ok (.invokevirtual 221, 3) := by decide +kernel
theorem dX7_part_54 : decode cX7_part 54 = .ok (.goto 4, 3) := by decide +kernel
theorem dX7_part_57 : decode cX7_part 57 = .ok (.iconst (-1), 1) := by decide +kernel
theorem dX7_part_58 : decode cX7_part 58 = .ok (.ireturn, 1) := by decide +kernel
theorem dX7_way_0 : decode cX7_way 0 = .ok (.iload_n 1, 1) := by decide +kernel
theorem dX7_way_1 : decode cX7_way 1 = .ok (.invokestatic 134, 3) := by decide +kernel
theorem dX7_way_4 : decode cX7_way 4 = .ok (.ifCond .ne 5, 3) := by decide +kernel
theorem dX7_way_7 : decode cX7_way 7 = .ok (.iconst (-1), 1) := by decide +kernel
theorem dX7_way_8 : decode cX7_way 8 = .ok (.ireturn, 1) := by decide +kernel
theorem dX7_way_9 : decode cX7_way 9 = .ok (.aload_n 0, 1) := by decide +kernel
theorem dX7_way_10 : decode cX7_way 10 = .ok (.iload_n 1, 1) := by decide +kernel
theorem dX7_way_11 : decode cX7_way 11 = .ok (.invokevirtual 256, 3) := by decide +kernel
theorem dX7_way_14 : decode cX7_way 14 = .ok (.ireturn, 1) := by decide +kernel
theorem dX7_odd_0 : decode cX7_odd 0 = .ok (.iload_n 1, 1) := by decide +kernel
theorem dX7_odd_1 : decode cX7_odd 1 = .ok (.invokestatic 134, 3) := by decide +kernel
theorem dX7_odd_4 : decode cX7_odd 4 = .ok (.ifCond .ne 5, 3) := by decide +kernel
theorem dX7_odd_7 : decode cX7_odd 7 = .ok (.iconst (-1), 1) := by decide +kernel
theorem dX7_odd_8 : decode cX7_odd 8 = .ok (.ireturn, 1) := by decide +kernel
theorem dX7_odd_9 : decode cX7_odd 9 = .ok (.aload_n 0, 1) := by decide +kernel
theorem dX7_odd_10 : decode cX7_odd 10 = .ok (.iload_n 1, 1) := by decide +kernel
theorem dX7_odd_11 : decode cX7_odd 11 = .ok (.invokevirtual 256, 3) := by decide +kernel
theorem dX7_odd_14 : decode cX7_odd 14 = .ok (.istore_n 2, 1) := by decide +kernel
theorem dX7_odd_15 : decode cX7_odd 15 = .ok (.iconst 0, 1) := by decide +kernel
theorem dX7_odd_16 : decode cX7_odd 16 = .ok (.istore_n 3, 1) := by decide +kernel
theorem dX7_odd_17 : decode cX7_odd 17 = .ok (.iconst 0, 1) := by decide +kernel
theorem dX7_odd_18 : decode cX7_odd 18 = .ok (.istore 4, 2) := by decide +kernel
theorem dX7_odd_20 : decode cX7_odd 20 = .ok (.iload 4, 2) := by decide +kernel
theorem dX7_odd_22 : decode cX7_odd 22 = .ok (.aload_n 0, 1) := by decide +kernel
theorem dX7_odd_23 : decode cX7_odd 23 = .ok (.getfield 51, 3) := by decide +kernel
theorem dX7_odd_26 : decode cX7_odd 26 = .ok (.invokevirtual 198, 3) := by decide +kernel
theorem dX7_odd_29 : decode cX7_odd 29 = .ok (.if_icmp .ge 36, 3) := by decide +kernel
theorem dX7_odd_32 : decode cX7_odd 32 = .ok (.aload_n 0, 1) := by decide +kernel
theorem dX7_odd_33 : decode cX7_odd 33 = .ok (.getfield 51, 3) := by decide +kernel
theorem dX7_odd_36 : decode cX7_odd 36 = .ok (.iload 4, 2) := by decide +kernel
theorem dX7_odd_38 : decode cX7_odd 38 = .ok (.invokevirtual 164, 3) := by decide +kernel
theorem dX7_odd_41 : decode cX7_odd 41 = .ok (.iload_n 1, 1) := by decide +kernel
theorem dX7_odd_42 : decode cX7_odd 42 = .ok (.if_icmp .ne 17, 3) := by decide +kernel
theorem dX7_odd_45 : decode cX7_odd 45 = .ok (.aload_n 0, 1) := by decide +kernel
theorem dX7_odd_46 : decode cX7_odd 46 = .ok (.getfield 76, 3) := by decide +kernel
theorem dX7_odd_49 : decode cX7_odd 49 = .ok (.iload 4, 2) := by decide +kernel
theorem dX7_odd_51 : decode cX7_odd 51 = .ok (.iaload, 1) := by decide +kernel
theorem dX7_odd_52 : decode cX7_odd 52 = .ok (.iload_n 2, 1) := by decide +kernel
theorem dX7_odd_53 : decode cX7_odd 53 = .ok (.if_icmp .eq 6, 3) := by decide +kernel
theorem dX7_odd_56 : decode cX7_odd 56 = .ok (.iinc 3 1, 3) := by decide +kernel
theorem dX7_odd_59 : decode cX7_odd 59 = .ok (.iinc 4 1, 3) := by decide +kernel
theorem dX7_odd_62 : decode cX7_odd 62 = .ok (.goto (-42), 3) := by decide +kernel
theorem dX7_odd_65 : decode cX7_odd 65 = .ok (.iload_n 3, 1) := by decide +kernel
theorem dX7_odd_66 : decode cX7_odd 66 = .ok (.ireturn, 1) := by decide +kernel
theorem dX7_isOdd_0 : decode cX7_isOdd 0 = .ok (.aload_n 0, 1) := by decide +kernel
theorem dX7_isOdd_1 : decode cX7_isOdd 1 = .ok (.getfield 51, 3) := by decide +kernel
theorem dX7_isOdd_4 : decode cX7_isOdd 4 = .ok (.iload_n 1, 1) := by decide +kernel
theorem dX7_isOdd_5 : decode cX7_isOdd 5 = .ok (.invokevirtual 160, 3) := by decide +kernel
theorem dX7_isOdd_8 : decode cX7_isOdd 8 = .ok (.ifCond .ne 5, 3) := by decide +kernel
theorem dX7_isOdd_11 : decode cX7_isOdd 11 = .ok (.iconst (-1), 1) := by decide +kernel
theorem dX7_isOdd_12 : decode cX7_isOdd 12 = .ok (.ireturn, 1) := by decide +kernel
theorem dX7_isOdd_13 : decode cX7_isOdd 13 = .ok (.aload_n 0, 1) := by decide +kernel
theorem dX7_isOdd_14 : decode cX7_isOdd 14 = .ok (.aload_n 0, 1) := by decide +kernel
theorem dX7_isOdd_15 : decode cX7_isOdd 15 = .ok (.getfield 51, 3) := by decide +kernel
theorem dX7_isOdd_18 : decode cX7_isOdd 18 = .ok (.iload_n 1, 1) := by decide +kernel
theorem dX7_isOdd_19 : decode cX7_isOdd 19 = .ok (.invokevirtual 164, 3) := by decide +kernel
theorem dX7_isOdd_22 : decode cX7_isOdd 22 = .ok (.invokevirtual 256, 3) := by decide +kernel
theorem dX7_isOdd_25 : decode cX7_isOdd 25 = .ok (.istore_n 2, 1) := by decide +kernel
theorem dX7_isOdd_26 : decode cX7_isOdd 26 = .ok (.aload_n 0, 1) := by decide +kernel
theorem dX7_isOdd_27 : decode cX7_isOdd 27 = .ok (.getfield 76, 3) := by decide +kernel
theorem dX7_isOdd_30 : decode cX7_isOdd 30 = .ok (.iload_n 1, 1) := by decide +kernel
theorem dX7_isOdd_31 : decode cX7_isOdd 31 = .ok (.iaload, 1) := by decide +kernel
theorem dX7_isOdd_32 : decode cX7_isOdd 32 = .ok (.iload_n 2, 1) := by decide +kernel
theorem dX7_isOdd_33 : decode cX7_isOdd 33 = .ok (.if_icmp .eq 7, 3) := by decide +kernel
theorem dX7_isOdd_36 : decode cX7_isOdd 36 = .ok (.iconst 1, 1) := by decide +kernel
theorem dX7_isOdd_37 : decode cX7_isOdd 37 = .ok (.goto 4, 3) := by decide +kernel
theorem dX7_isOdd_40 : decode cX7_isOdd 40 = .ok (.iconst 0, 1) := by decide +kernel
theorem dX7_isOdd_41 : decode cX7_isOdd 41 = .ok (.ireturn, 1) := by decide +kernel
theorem dX7_mixed_0 : decode cX7_mixed 0 = .ok (.aload_n 0, 1) := by decide +kernel
theorem dX7_mixed_1 : decode cX7_mixed 1 = .ok (.invokevirtual 243, 3) := by decide +kernel
theorem dX7_mixed_4 : decode cX7_mixed 4 = .ok (.aload_n 0, 1) := by decide +kernel
theorem dX7_mixed_5 : decode cX7_mixed 5 = .ok (.getfield 37, 3) := by decide +kernel
theorem dX7_mixed_8 : decode cX7_mixed 8 = .ok (.invokevirtual 259, 3) := by decide +kernel
theorem dX7_mixed_11 : decode cX7_mixed 11 = .ok (.ireturn, 1) := by decide +kernel
theorem dX7_strange_0 : decode cX7_strange 0 = .ok (.iconst 0, 1) := by decide +kernel
theorem dX7_strange_1 : decode cX7_strange 1 = .ok (.istore_n 1, 1) := by decide +kernel
theorem dX7_strange_2 : decode cX7_strange 2 = .ok (.iconst 0, 1) := by decide +kernel
theorem dX7_strange_3 : decode cX7_strange 3 = .ok (.istore_n 2, 1) := by decide +kernel
theorem dX7_strange_4 : decode cX7_strange 4 = .ok (.iload_n 2, 1) := by decide +kernel
theorem dX7_strange_5 : decode cX7_strange 5 = .ok (.aload_n 0, 1) := by decide +kernel
theorem dX7_strange_6 : decode cX7_strange 6 = .ok (.getfield 51, 3) := by decide +kernel
theorem dX7_strange_9 : decode cX7_strange 9 = .ok (.invokevirtual 198, 3) := by decide +kernel
theorem dX7_strange_12 : decode cX7_strange 12 = .ok (.if_icmp .ge 77, 3) := by decide +kernel
theorem dX7_strange_15 : decode cX7_strange 15 = .ok (.aload_n 0, 1) := by decide +kernel
theorem dX7_strange_16 : decode cX7_strange 16 = .ok (.getfield 30, 3) := by decide +kernel
theorem dX7_strange_19 : decode cX7_strange 19 = .ok (.aload_n 0, 1) := by decide +kernel
theorem dX7_strange_20 : decode cX7_strange 20 = .ok (.getfield 51, 3) := by decide +kernel
theorem dX7_strange_23 : decode cX7_strange 23 = .ok (.iload_n 2, 1) := by decide +kernel
theorem dX7_strange_24 : decode cX7_strange 24 = .ok (.invokevirtual 167, 3) := by decide +kernel
theorem dX7_strange_27 : decode cX7_strange 27 = .ok (.invokevirtual 171, 3) := by decide +kernel
theorem dX7_strange_30 : decode cX7_strange 30 = .ok (.iconst 0, 1) := by decide +kernel
theorem dX7_strange_31 : decode cX7_strange 31 = .ok (.istore_n 3, 1) := by decide +kernel
theorem dX7_strange_32 : decode cX7_strange 32 = .ok (.iload_n 3, 1) := by decide +kernel
theorem dX7_strange_33 : decode cX7_strange 33 = .ok (.aload_n 0, 1) := by decide +kernel
theorem dX7_strange_34 : decode cX7_strange 34 = .ok (.getfield 30, 3) := by decide +kernel
theorem dX7_strange_37 : decode cX7_strange 37 = .ok (.invokevirtual 175, 3) := by decide +kernel
theorem dX7_strange_40 : decode cX7_strange 40 = .ok (.if_icmp .ge 43, 3) := by decide +kernel
theorem dX7_strange_43 : decode cX7_strange 43 = .ok (.aload_n 0, 1) := by decide +kernel
theorem dX7_strange_44 : decode cX7_strange 44 = .ok (.getfield 30, 3) := by decide +kernel
theorem dX7_strange_47 : decode cX7_strange 47 = .ok (.iload_n 3, 1) := by decide +kernel
theorem dX7_strange_48 : decode cX7_strange 48 = .ok (.invokevirtual 262, 3) := by decide +kernel
theorem dX7_strange_51 : decode cX7_strange 51 = .ok (.ifCond .ne 26, 3) := by decide +kernel
theorem dX7_strange_54 : decode cX7_strange 54 = .ok (.aload_n 0, 1) := by decide +kernel
theorem dX7_strange_55 : decode cX7_strange 55 = .ok (.getfield 37, 3) := by decide +kernel
theorem dX7_strange_58 : decode cX7_strange 58 = .ok (.aload_n 0, 1) := by decide +kernel
theorem dX7_strange_59 : decode cX7_strange 59 = .ok (.getfield 30, 3) := by decide +kernel
theorem dX7_strange_62 : decode cX7_strange 62 = .ok (.iload_n 3, 1) := by decide +kernel
theorem dX7_strange_63 : decode cX7_strange 63 = .ok (.invokevirtual 217, 3) := by decide +kernel
theorem dX7_strange_66 : decode cX7_strange 66 = .ok (.invokevirtual 221, 3) := by decide +kernel
theorem dX7_strange_69 : decode cX7_strange 69 = .ok (.bipush (-2), 2) := by decide +kernel
theorem dX7_strange_71 : decode cX7_strange 71 = .ok (.if_icmp .ne 6, 3) := by decide +kernel
theorem dX7_strange_74 : decode cX7_strange 74 = .ok (.iinc 1 1, 3) := by decide +kernel
theorem dX7_strange_77 : decode cX7_strange 77 = .ok (.iinc 3 1, 3) := by decide +kernel
theorem dX7_strange_80 : decode cX7_strange 80 = .ok (.goto (-48), 3) := by decide +kernel
theorem dX7_strange_83 : decode cX7_strange 83 = .ok (.iinc 2 1, 3) := by decide +kernel
theorem dX7_strange_86 : decode cX7_strange 86 = .ok (.goto (-82), 3) := by decide +kernel
theorem dX7_strange_89 : decode cX7_strange 89 = .ok (.iload_n 1, 1) := by decide +kernel
theorem dX7_strange_90 : decode cX7_strange 90 = .ok (.ireturn, 1) := by decide +kernel
theorem dX7_patternOf_0 : decode cX7_patternOf 0 = .ok (.aload_n 0, 1) := by decide +kernel
theorem dX7_patternOf_1 : decode cX7_patternOf 1 = .ok (.getfield 30, 3) := by decide +kernel
theorem dX7_patternOf_4 : decode cX7_patternOf 4 = .ok (.aload_n 0, 1) := by decide +kernel
theorem dX7_patternOf_5 : decode cX7_patternOf 5 = .ok (.getfield 51, 3) := by decide +kernel
theorem dX7_patternOf_8 : decode cX7_patternOf 8 = .ok (.iload_n 1, 1) := by decide +kernel
theorem dX7_patternOf_9 : decode cX7_patternOf 9 = .ok (.invokevirtual 167, 3) := by decide +kernel
theorem dX7_patternOf_12 : decode cX7_patternOf 12 = .ok (.invokevirtual 171, 3) := by decide +kernel
theorem dX7_patternOf_15 : decode cX7_patternOf 15 = .ok (.iconst 0, 1) := by decide +kernel
theorem dX7_patternOf_16 : decode cX7_patternOf 16 = .ok (.istore_n 2, 1) := by decide +kernel
theorem dX7_patternOf_17 : decode cX7_patternOf 17 = .ok (.iconst 0, 1) := by decide +kernel
theorem dX7_patternOf_18 : decode cX7_patternOf 18 = .ok (.istore_n 3, 1) := by decide +kernel
theorem dX7_patternOf_19 : decode cX7_patternOf 19 = .ok (.iload_n 3, 1) := by decide +kernel
theorem dX7_patternOf_20 : decode cX7_patternOf 20 = .ok (.aload_n 0, 1) := by decide +kernel
theorem dX7_patternOf_21 : decode cX7_patternOf 21 = .ok (.getfield 30, 3) := by decide +kernel
theorem dX7_patternOf_24 : decode cX7_patternOf 24 = .ok (.invokevirtual 175, 3) := by decide +kernel
theorem dX7_patternOf_27 : decode cX7_patternOf 27 = .ok (.if_icmp .ge 42, 3) := by decide +kernel
theorem dX7_patternOf_30 : decode cX7_patternOf 30 = .ok (.iload_n 3, 1) := by decide +kernel
theorem dX7_patternOf_31 : decode cX7_patternOf 31 = .ok (.iconst 4, 1) := by decide +kernel
theorem dX7_patternOf_32 : decode cX7_patternOf 32 = .ok (.if_icmp .ge 37, 3) := by decide +kernel
theorem dX7_patternOf_35 : decode cX7_patternOf 35 = .ok (.iload_n 2, 1) := by decide +kernel
theorem dX7_patternOf_36 : decode cX7_patternOf 36 = .ok (.bipush 16, 2) := by decide +kernel
theorem dX7_patternOf_38 : decode cX7_patternOf 38 = .ok (.imul, 1) := by decide +kernel
theorem dX7_patternOf_39 : decode cX7_patternOf 39 = .ok (.aload_n 0, 1) := by decide +kernel
theorem dX7_patternOf_40 : decode cX7_patternOf 40 = .ok (.getfield 37, 3) := by decide +kernel
theorem dX7_patternOf_43 : decode cX7_patternOf 43 = .ok (.aload_n 0, 1) := by decide +kernel
theorem dX7_patternOf_44 : decode cX7_patternOf 44 = .ok (.getfield 37, 3) := by decide +kernel
theorem dX7_patternOf_47 : decode cX7_patternOf 47 = .ok (.aload_n 0, 1) := by decide +kernel
theorem dX7_patternOf_48 : decode cX7_patternOf 48 = .ok (.getfield 30, 3) := by decide +kernel
theorem dX7_patternOf_51 : decode cX7_patternOf 51 = .ok (.iload_n 3, 1) := by decide +kernel
theorem dX7_patternOf_52 : decode cX7_patternOf 52 = .ok (.invokevirtual 217, 3) := by decide +kernel
theorem dX7_patternOf_55 : decode cX7_patternOf 55 = .ok (.invokevirtual 221, 3) := by decide +kernel
theorem dX7_patternOf_58 : decode cX7_patternOf 58 = .ok (.invokevirtual 265, 3) := by decide +kernel
theorem dX7_patternOf_61 : decode cX7_patternOf 61 = .ok (.iadd, 1) := by decide +kernel
theorem dX7_patternOf_62 : decode cX7_patternOf 62 = .ok (.istore_n 2, 1) := by decide +kernel
theorem dX7_patternOf_63 : decode cX7_patternOf 63 = .ok (.iinc 3 1, 3) := by decide +kernel
theorem dX7_patternOf_66 : decode cX7_patternOf 66 = .ok (.goto (-47), 3) := by decide +kernel
theorem dX7_patternOf_69 : decode cX7_patternOf 69 = .ok (.iload_n 2, 1) := by decide +kernel
theorem dX7_patternOf_70 : decode cX7_patternOf 70 = .ok (.ireturn, 1) := by decide +kernel
theorem dX7_wayOf_0 : decode cX7_wayOf 0 = .ok (.iconst 0, 1) := by decide +kernel
theorem dX7_wayOf_1 : decode cX7_wayOf 1 = .ok (.istore_n 2, 1) := by decide +kernel
theorem dX7_wayOf_2 : decode cX7_wayOf 2 = .ok (.iload_n 2, 1) := by decide +kernel
theorem dX7_wayOf_3 : decode cX7_wayOf 3 = .ok (.aload_n 0, 1) := by decide +kernel
theorem dX7_wayOf_4 : decode cX7_wayOf 4 = .ok (.getfield 51, 3) := by decide +kernel
theorem dX7_wayOf_7 : decode cX7_wayOf 7 = .ok (.invokevirtual 198, 3) := by decide +kernel
theorem dX7_wayOf_10 : decode cX7_wayOf 10 = .ok (.if_icmp .ge 32, 3) := by decide +kernel
theorem dX7_wayOf_13 : decode cX7_wayOf 13 = .ok (.aload_n 0, 1) := by decide +kernel
theorem dX7_wayOf_14 : decode cX7_wayOf 14 = .ok (.getfield 51, 3) := by decide +kernel
theorem dX7_wayOf_17 : decode cX7_wayOf 17 = .ok (.iload_n 2, 1) := by decide +kernel
theorem dX7_wayOf_18 : decode cX7_wayOf 18 = .ok (.invokevirtual 164, 3) := by decide +kernel
theorem dX7_wayOf_21 : decode cX7_wayOf 21 = .ok (.iload_n 1, 1) := by decide +kernel
theorem dX7_wayOf_22 : decode cX7_wayOf 22 = .ok (.if_icmp .ne 14, 3) := by decide +kernel
theorem dX7_wayOf_25 : decode cX7_wayOf 25 = .ok (.aload_n 0, 1) := by decide +kernel
theorem dX7_wayOf_26 : decode cX7_wayOf 26 = .ok (.getfield 76, 3) := by decide +kernel
theorem dX7_wayOf_29 : decode cX7_wayOf 29 = .ok (.iload_n 2, 1) := by decide +kernel
theorem dX7_wayOf_30 : decode cX7_wayOf 30 = .ok (.aload_n 0, 1) := by decide +kernel
theorem dX7_wayOf_31 : decode cX7_wayOf 31 = .ok (.iload_n 2, 1) := by decide +kernel
theorem dX7_wayOf_32 : decode cX7_wayOf 32 = .ok (.invokevirtual 179, 3) := by decide +kernel
theorem dX7_wayOf_35 : decode cX7_wayOf 35 = .ok (.iastore, 1) := by decide +kernel
theorem dX7_wayOf_36 : decode cX7_wayOf 36 = .ok (.iinc 2 1, 3) := by decide +kernel
theorem dX7_wayOf_39 : decode cX7_wayOf 39 = .ok (.goto (-37), 3) := by decide +kernel
theorem dX7_wayOf_42 : decode cX7_wayOf 42 = .ok (.bipush (-2), 2) := by decide +kernel
theorem dX7_wayOf_44 : decode cX7_wayOf 44 = .ok (.istore_n 2, 1) := by decide +kernel
theorem dX7_wayOf_45 : decode cX7_wayOf 45 = .ok (.iconst 0, 1) := by decide +kernel
theorem dX7_wayOf_46 : decode cX7_wayOf 46 = .ok (.istore_n 3, 1) := by decide +kernel
theorem dX7_wayOf_47 : decode cX7_wayOf 47 = .ok (.iconst 0, 1) := by decide +kernel
theorem dX7_wayOf_48 : decode cX7_wayOf 48 = .ok (.istore 4, 2) := by decide +kernel
theorem dX7_wayOf_50 : decode cX7_wayOf 50 = .ok (.iload 4, 2) := by decide +kernel
theorem dX7_wayOf_52 : decode cX7_wayOf 52 = .ok (.aload_n 0, 1) := by decide +kernel
theorem dX7_wayOf_53 : decode cX7_wayOf 53 = .ok (.getfield 51, 3) := by decide +kernel
theorem dX7_wayOf_56 : decode cX7_wayOf 56 = .ok (.invokevirtual 198, 3) := by decide +kernel
theorem dX7_wayOf_59 : decode cX7_wayOf 59 = .ok (.if_icmp .ge 70, 3) := by decide +kernel
theorem dX7_wayOf_62 : decode cX7_wayOf 62 = .ok (.aload_n 0, 1) := by decide +kernel
theorem dX7_wayOf_63 : decode cX7_wayOf 63 = .ok (.getfield 51, 3) := by decide +kernel
theorem dX7_wayOf_66 : decode cX7_wayOf 66 = .ok (.iload 4, 2) := by decide +kernel
theorem dX7_wayOf_68 : decode cX7_wayOf 68 = .ok (.invokevirtual 164, 3) := by decide +kernel
theorem dX7_wayOf_71 : decode cX7_wayOf 71 = .ok (.iload_n 1, 1) := by decide +kernel
theorem dX7_wayOf_72 : decode cX7_wayOf 72 = .ok (.if_icmp .ne 51, 3) := by decide +kernel
theorem dX7_wayOf_75 : decode cX7_wayOf 75 = .ok (.aload_n 0, 1) := by decide +kernel
theorem dX7_wayOf_76 : decode cX7_wayOf 76 = .ok (.iload_n 1, 1) := by decide +kernel
theorem dX7_wayOf_77 : decode cX7_wayOf 77 = .ok (.aload_n 0, 1) := by decide +kernel
theorem dX7_wayOf_78 : decode cX7_wayOf 78 = .ok (.getfield 76, 3) := by decide +kernel
theorem dX7_wayOf_81 : decode cX7_wayOf 81 = .ok (.iload 4, 2) := by decide +kernel
theorem dX7_wayOf_83 : decode cX7_wayOf 83 = .ok (.iaload, 1) := by decide +kernel
theorem dX7_wayOf_84 : decode cX7_wayOf 84 = .ok (.invokevirtual 268, 3) := by decide +kernel
theorem dX7_wayOf_87 : decode cX7_wayOf 87 = .ok (.istore 5, 2) := by decide +kernel
theorem dX7_wayOf_89 : decode cX7_wayOf 89 = .ok (.iload 5, 2) := by decide +kernel
theorem dX7_wayOf_91 : decode cX7_wayOf 91 = .ok (.iload_n 3, 1) := by decide +kernel
theorem dX7_wayOf_92 : decode cX7_wayOf 92 = .ok (.if_icmp .gt 20, 3) := by decide +kernel
theorem dX7_wayOf_95 : decode cX7_wayOf 95 = .ok (.iload 5, 2) := by decide +kernel
theorem dX7_wayOf_97 : decode cX7_wayOf 97 = .ok (.iload_n 3, 1) := by decide +kernel
theorem dX7_wayOf_98 : decode cX7_wayOf 98 = .ok (.if_icmp .ne 25, 3) := by decide +kernel
theorem dX7_wayOf_101 : decode cX7_wayOf 101 = .ok (.aload_n 0, 1) := by decide +kernel
theorem dX7_wayOf_102 : decode cX7_wayOf 102 = .ok (.getfield 76, 3) := by decide +kernel
theorem dX7_wayOf_105 : decode cX7_wayOf 105 = .ok (.iload 4, 2) := by decide +kernel
theorem dX7_wayOf_107 : decode cX7_wayOf 107 = .ok (.iaload, 1) := by decide +kernel
theorem dX7_wayOf_108 : decode cX7_wayOf 108 = .ok (.iload_n 2, 1) := by decide +kernel
theorem dX7_wayOf_109 : decode cX7_wayOf 109 = .ok (.if_icmp .ge 14, 3) := by decide +kernel
theorem dX7_wayOf_112 : decode cX7_wayOf 112 = .ok (.aload_n 0, 1) := by decide +kernel
theorem dX7_wayOf_113 : decode cX7_wayOf 113 = .ok (.getfield 76, 3) := by decide +kernel
theorem dX7_wayOf_116 : decode cX7_wayOf 116 = .ok (.iload 4, 2) := by decide +kernel
theorem dX7_wayOf_118 : decode cX7_wayOf 118 = .ok (.iaload, 1) := by decide +kernel
theorem dX7_wayOf_119 : decode cX7_wayOf 119 = .ok (.istore_n 2, 1) := by decide +kernel
theorem dX7_wayOf_120 : decode cX7_wayOf 120 = .ok (.iload 5, 2) := by decide +kernel
theorem dX7_wayOf_122 : decode cX7_wayOf 122 = .ok (.istore_n 3, 1) := by decide +kernel
theorem dX7_wayOf_123 : decode cX7_wayOf 123 = .ok (.iinc 4 1, 3) := by decide +kernel
theorem dX7_wayOf_126 : decode cX7_wayOf 126 = .ok (.goto (-76), 3) := by decide +kernel
theorem dX7_wayOf_129 : decode cX7_wayOf 129 = .ok (.iload_n 2, 1) := by decide +kernel
theorem dX7_wayOf_130 : decode cX7_wayOf 130 = .ok (.ireturn, 1) := by decide +kernel
theorem dX7_howOften_0 : decode cX7_howOften 0 = .ok (.iconst 0, 1) := by decide +kernel
theorem dX7_howOften_1 : decode cX7_howOften 1 = .ok (.istore_n 3, 1) := by decide +kernel
theorem dX7_howOften_2 : decode cX7_howOften 2 = .ok (.iconst 0, 1) := by decide +kernel
theorem dX7_howOften_3 : decode cX7_howOften 3 = .ok (.istore 4, 2) := by decide +kernel
theorem dX7_howOften_5 : decode cX7_howOften 5 = .ok (.iload 4, 2) := by decide +kernel
theorem dX7_howOften_7 : decode cX7_howOften 7 = .ok (.aload_n 0, 1) := by decide +kernel
theorem dX7_howOften_8 : decode cX7_howOften 8 = .ok (.getfield 51, 3) := by decide +kernel
theorem dX7_howOften_11 : decode cX7_howOften 11 = .ok (.invokevirtual 198, 3) := by decide +kernel
theorem dX7_howOften_14 : decode cX7_howOften 14 = .ok (.if_icmp .ge 36, 3) := by decide +kernel
theorem dX7_howOften_17 : decode cX7_howOften 17 = .ok (.aload_n 0, 1) := by decide +kernel
theorem dX7_howOften_18 : decode cX7_howOften 18 = .ok (.getfield 51, 3) := by decide +kernel
theorem dX7_howOften_21 : decode cX7_howOften 21 = .ok (.iload 4, 2) := by decide +kernel
theorem dX7_howOften_23 : decode cX7_howOften 23 = .ok (.invokevirtual 164, 3) := by decide +kernel
theorem dX7_howOften_26 : decode cX7_howOften 26 = .ok (.iload_n 1, 1) := by decide +kernel
theorem dX7_howOften_27 : decode cX7_howOften 27 = .ok (.if_icmp .ne 17, 3) := by decide +kernel
theorem dX7_howOften_30 : decode cX7_howOften 30 = .ok (.aload_n 0, 1) := by decide +kernel
theorem dX7_howOften_31 : decode cX7_howOften 31 = .ok (.getfield 76, 3) := by decide +kernel
theorem dX7_howOften_34 : decode cX7_howOften 34 = .ok (.iload 4, 2) := by decide +kernel
theorem dX7_howOften_36 : decode cX7_howOften 36 = .ok (.iaload, 1) := by decide +kernel
theorem dX7_howOften_37 : decode cX7_howOften 37 = .ok (.iload_n 2, 1) := by decide +kernel
theorem dX7_howOften_38 : decode cX7_howOften 38 = .ok (.if_icmp .ne 6, 3) := by decide +kernel
theorem dX7_howOften_41 : decode cX7_howOften 41 = .ok (.iinc 3 1, 3) := by decide +kernel
theorem dX7_howOften_44 : decode cX7_howOften 44 = .ok (.iinc 4 1, 3) := by decide +kernel
theorem dX7_howOften_47 : decode cX7_howOften 47 = .ok (.goto (-42), 3) := by decide +kernel
theorem dX7_howOften_50 : decode cX7_howOften 50 = .ok (.iload_n 3, 1) := by decide +kernel
theorem dX7_howOften_51 : decode cX7_howOften 51 = .ok (.ireturn, 1) := by decide +kernel
theorem dX7_countUsed_0 : decode cX7_countUsed 0 = .ok (.aload_n 0, 1) := by decide +kernel
theorem dX7_countUsed_1 : decode cX7_countUsed 1 = .ok (.getfield 37, 3) := by decide +kernel
theorem dX7_countUsed_4 : decode cX7_countUsed 4 = .ok (.invokevirtual 271, 3) := by decide +kernel
theorem dX7_countUsed_7 : decode cX7_countUsed 7 = .ok (.iconst 0, 1) := by decide +kernel
theorem dX7_countUsed_8 : decode cX7_countUsed 8 = .ok (.istore_n 1, 1) := by decide +kernel
theorem dX7_countUsed_9 : decode cX7_countUsed 9 = .ok (.iload_n 1, 1) := by decide +kernel
theorem dX7_countUsed_10 : decode cX7_countUsed 10 = .ok (.aload_n 0, 1) := by decide +kernel
theorem dX7_countUsed_11 : decode cX7_countUsed 11 = .ok (.getfield 51, 3) := by decide +kernel
theorem dX7_countUsed_14 : decode cX7_countUsed 14 = .ok (.invokevirtual 198, 3) := by decide +kernel
theorem dX7_countUsed_17 : decode cX7_countUsed 17 = .ok (.if_icmp .ge 72, 3) := by decide +kernel
theorem dX7_countUsed_20 : decode cX7_countUsed 20 = .ok (.aload_n 0, 1) := by decide +kernel
theorem dX7_countUsed_21 : decode cX7_countUsed 21 = .ok (.getfield 30, 3) := by decide +kernel
theorem dX7_countUsed_24 : decode cX7_countUsed 24 = .ok (.aload_n 0, 1) := by decide +kernel
theorem dX7_countUsed_25 : decode cX7_countUsed 25 = .ok (.getfield 51, 3) := by decide +kernel
theorem dX7_countUsed_28 : decode cX7_countUsed 28 = .ok (.iload_n 1, 1) := by decide +kernel
theorem dX7_countUsed_29 : decode cX7_countUsed 29 = .ok (.invokevirtual 167, 3) := by decide +kernel
theorem dX7_countUsed_32 : decode cX7_countUsed 32 = .ok (.invokevirtual 171, 3) := by decide +kernel
theorem dX7_countUsed_35 : decode cX7_countUsed 35 = .ok (.iconst 0, 1) := by decide +kernel
theorem dX7_countUsed_36 : decode cX7_countUsed 36 = .ok (.istore_n 2, 1) := by decide +kernel
theorem dX7_countUsed_37 : decode cX7_countUsed 37 = .ok (.iload_n 2, 1) := by decide +kernel
theorem dX7_countUsed_38 : decode cX7_countUsed 38 = .ok (.aload_n 0, 1) := by decide +kernel
theorem dX7_countUsed_39 : decode cX7_countUsed 39 = .ok (.getfield 30, 3) := by decide +kernel
theorem dX7_countUsed_42 : decode cX7_countUsed 42 = .ok (.invokevirtual 175, 3) := by decide +kernel
theorem dX7_countUsed_45 : decode cX7_countUsed 45 = .ok (.if_icmp .ge 38, 3) := by decide +kernel
theorem dX7_countUsed_48 : decode cX7_countUsed 48 = .ok (.aload_n 0, 1) := by decide +kernel
theorem dX7_countUsed_49 : decode cX7_countUsed 49 = .ok (.getfield 37, 3) := by decide +kernel
theorem dX7_countUsed_52 : decode cX7_countUsed 52 = .ok (.aload_n 0, 1) := by decide +kernel
theorem dX7_countUsed_53 : decode cX7_countUsed 53 = .ok (.getfield 37, 3) := by decide +kernel
theorem dX7_countUsed_56 : decode cX7_countUsed 56 = .ok (.aload_n 0, 1) := by decide +kernel
theorem dX7_countUsed_57 : decode cX7_countUsed 57 = .ok (.getfield 37, 3) := by decide +kernel
theorem dX7_countUsed_60 : decode cX7_countUsed 60 = .ok (.aload_n 0, 1) := by decide +kernel
theorem dX7_countUsed_61 : decode cX7_countUsed 61 = .ok (.getfield 30, 3) := by decide +kernel
theorem dX7_countUsed_64 : decode cX7_countUsed 64 = .ok (.iload_n 2, 1) := by decide +kernel
theorem dX7_countUsed_65 : decode cX7_countUsed 65 = .ok (.invokevirtual 217, 3) := by decide +kernel
theorem dX7_countUsed_68 : decode cX7_countUsed 68 = .ok (.invokevirtual 221, 3) := by decide +kernel
theorem dX7_countUsed_71 : decode cX7_countUsed 71 = .ok (.invokevirtual 274, 3) := by decide +kernel
theorem dX7_countUsed_74 : decode cX7_countUsed 74 = .ok (.invokevirtual 277, 3) := by decide +kernel
theorem dX7_countUsed_77 : decode cX7_countUsed 77 = .ok (.iinc 2 1, 3) := by decide +kernel
theorem dX7_countUsed_80 : decode cX7_countUsed 80 = .ok (.goto (-43), 3) := by decide +kernel
theorem dX7_countUsed_83 : decode cX7_countUsed 83 = .ok (.iinc 1 1, 3) := by decide +kernel
theorem dX7_countUsed_86 : decode cX7_countUsed 86 = .ok (.goto (-77), 3) := by decide +kernel
theorem dX7_countUsed_89 : decode cX7_countUsed 89 = .ok (.return_, 1) := by decide +kernel
theorem dX7_offer_0 : decode cX7_offer 0 = .ok (.aload_n 0, 1) := by decide +kernel
theorem dX7_offer_1 : decode cX7_offer 1 = .ok (.getfield 51, 3) := by decide +kernel
theorem dX7_offer_4 : decode cX7_offer 4 = .ok (.iload_n 1, 1) := by decide +kernel
theorem dX7_offer_5 : decode cX7_offer 5 = .ok (.invokevirtual 160, 3) := by decide +kernel
theorem dX7_offer_8 : decode cX7_offer 8 = .ok (.ifCond .ne 9, 3) := by decide +kernel
theorem dX7_offer_11 : decode cX7_offer 11 = .ok (.aload_n 0, 1) := by decide +kernel
theorem dX7_offer_12 : decode cX7_offer 12 = .ok (.iconst 1, 1) := by decide +kernel
theorem dX7_offer_13 : decode cX7_offer 13 = .ok (.invokevirtual 122, 3) := by decide +kernel
theorem dX7_offer_16 : decode cX7_offer 16 = .ok (.ireturn, 1) := by decide +kernel
theorem dX7_offer_17 : decode cX7_offer 17 = .ok (.aload_n 0, 1) := by decide +kernel
theorem dX7_offer_18 : decode cX7_offer 18 = .ok (.invokevirtual 243, 3) := by decide +kernel
theorem dX7_offer_21 : decode cX7_offer 21 = .ok (.aload_n 0, 1) := by decide +kernel
theorem dX7_offer_22 : decode cX7_offer 22 = .ok (.iload_n 1, 1) := by decide +kernel
theorem dX7_offer_23 : decode cX7_offer 23 = .ok (.invokevirtual 280, 3) := by decide +kernel
theorem dX7_offer_26 : decode cX7_offer 26 = .ok (.ifCond .ne 10, 3) := by decide +kernel
theorem dX7_offer_29 : decode cX7_offer 29 = .ok (.aload_n 0, 1) := by decide +kernel
theorem dX7_offer_30 : decode cX7_offer 30 = .ok (.bipush (-2), 2) := by decide +kernel
theorem dX7_offer_32 : decode cX7_offer 32 = .ok (.invokevirtual 131, 3) := by decide +kernel
theorem dX7_offer_35 : decode cX7_offer 35 = .ok (.ireturn, 1) := by decide +kernel
theorem dX7_offer_36 : decode cX7_offer 36 = .ok (.aload_n 0, 1) := by decide +kernel
theorem dX7_offer_37 : decode cX7_offer 37 = .ok (.getfield 24, 3) := by decide +kernel
theorem dX7_offer_40 : decode cX7_offer 40 = .ok (.aload_n 0, 1) := by decide +kernel
theorem dX7_offer_41 : decode cX7_offer 41 = .ok (.getfield 21, 3) := by decide +kernel
theorem dX7_offer_44 : decode cX7_offer 44 = .ok (.invokevirtual 283, 3) := by decide +kernel
theorem dX7_offer_47 : decode cX7_offer 47 = .ok (.aload_n 0, 1) := by decide +kernel
theorem dX7_offer_48 : decode cX7_offer 48 = .ok (.aload_n 0, 1) := by decide +kernel
theorem dX7_offer_49 : decode cX7_offer 49 = .ok (.getfield 24, 3) := by decide +kernel
theorem dX7_offer_52 : decode cX7_offer 52 = .ok (.invokevirtual 88, 3) := by decide +kernel
theorem dX7_offer_55 : decode cX7_offer 55 = .ok (.invokevirtual 131, 3) := by decide +kernel
theorem dX7_offer_58 : decode cX7_offer 58 = .ok (.ireturn, 1) := by decide +kernel
theorem dX7_out_0 : decode cX7_out 0 = .ok (.aload_n 0, 1) := by decide +kernel
theorem dX7_out_1 : decode cX7_out 1 = .ok (.getfield 24, 3) := by decide +kernel
theorem dX7_out_4 : decode cX7_out 4 = .ok (.iload_n 1, 1) := by decide +kernel
theorem dX7_out_5 : decode cX7_out 5 = .ok (.invokevirtual 185, 3) := by decide +kernel
theorem dX7_out_8 : decode cX7_out 8 = .ok (.ifCond .ne 14, 3) := by decide +kernel
theorem dX7_out_11 : decode cX7_out 11 = .ok (.new 186, 3) := by decide +kernel
theorem dX7_out_14 : decode cX7_out 14 = .ok (.dup, 1) := by decide +kernel
theorem dX7_out_15 : decode cX7_out 15 = .ok (.ldc_w 286, 3) := by decide +kernel
theorem dX7_out_18 : decode cX7_out 18 = .ok (.invokespecial 190, 3) := by decide +kernel
theorem dX7_out_21 : decode cX7_out 21 = .ok (.athrow, 1) := by decide +kernel
theorem dX7_out_22 : decode cX7_out 22 = .ok (.aload_n 0, 1) := by decide +kernel
theorem dX7_out_23 : decode cX7_out 23 = .ok (.getfield 24, 3) := by decide +kernel
theorem dX7_out_26 : decode cX7_out 26 = .ok (.iload_n 1, 1) := by decide +kernel
theorem dX7_out_27 : decode cX7_out 27 = .ok (.invokevirtual 98, 3) := by decide +kernel
theorem dX7_out_30 : decode cX7_out 30 = .ok (.ireturn, 1) := by decide +kernel
theorem dX7_rename_0 : decode cX7_rename 0 = .ok (.aload_n 0, 1) := by decide +kernel
theorem dX7_rename_1 : decode cX7_rename 1 = .ok (.getfield 51, 3) := by decide +kernel
theorem dX7_rename_4 : decode cX7_rename 4 = .ok (.iload_n 1, 1) := by decide +kernel
theorem dX7_rename_5 : decode cX7_rename 5 = .ok (.invokevirtual 160, 3) := by decide +kernel
theorem dX7_rename_8 : decode cX7_rename 8 = .ok (.ifCond .ne 9, 3) := by decide +kernel
theorem dX7_rename_11 : decode cX7_rename 11 = .ok (.aload_n 0, 1) := by decide +kernel
theorem dX7_rename_12 : decode cX7_rename 12 = .ok (.iconst 1, 1) := by decide +kernel
theorem dX7_rename_13 : decode cX7_rename 13 = .ok (.invokevirtual 122, 3) := by decide +kernel
theorem dX7_rename_16 : decode cX7_rename 16 = .ok (.ireturn, 1) := by decide +kernel
theorem dX7_rename_17 : decode cX7_rename 17 = .ok (.aload_n 0, 1) := by decide +kernel
theorem dX7_rename_18 : decode cX7_rename 18 = .ok (.iload_n 2, 1) := by decide +kernel
theorem dX7_rename_19 : decode cX7_rename 19 = .ok (.invokevirtual 137, 3) := by decide +kernel
theorem dX7_rename_22 : decode cX7_rename 22 = .ok (.ifCond .ne 9, 3) := by decide +kernel
theorem dX7_rename_25 : decode cX7_rename 25 = .ok (.aload_n 0, 1) := by decide +kernel
theorem dX7_rename_26 : decode cX7_rename 26 = .ok (.iconst 2, 1) := by decide +kernel
theorem dX7_rename_27 : decode cX7_rename 27 = .ok (.invokevirtual 122, 3) := by decide +kernel
theorem dX7_rename_30 : decode cX7_rename 30 = .ok (.ireturn, 1) := by decide +kernel
theorem dX7_rename_31 : decode cX7_rename 31 = .ok (.aload_n 0, 1) := by decide +kernel
theorem dX7_rename_32 : decode cX7_rename 32 = .ok (.getfield 65, 3) := by decide +kernel
theorem dX7_rename_35 : decode cX7_rename 35 = .ok (.iload_n 1, 1) := by decide +kernel
theorem dX7_rename_36 : decode cX7_rename 36 = .ok (.aload_n 0, 1) := by decide +kernel
theorem dX7_rename_37 : decode cX7_rename 37 = .ok (.getfield 18, 3) := by decide +kernel
theorem dX7_rename_40 : decode cX7_rename 40 = .ok (.invokevirtual 288, 3) := by decide +kernel
theorem dX7_rename_43 : decode cX7_rename 43 = .ok (.aload_n 0, 1) := by decide +kernel
theorem dX7_rename_44 : decode cX7_rename 44 = .ok (.aload_n 0, 1) := by decide +kernel
theorem dX7_rename_45 : decode cX7_rename 45 = .ok (.getfield 65, 3) := by decide +kernel
theorem dX7_rename_48 : decode cX7_rename 48 = .ok (.invokevirtual 292, 3) := by decide +kernel
theorem dX7_rename_51 : decode cX7_rename 51 = .ok (.invokevirtual 131, 3) := by decide +kernel
theorem dX7_rename_54 : decode cX7_rename 54 = .ok (.ireturn, 1) := by decide +kernel
theorem dX7_renames_0 : decode cX7_renames 0 = .ok (.aload_n 0, 1) := by decide +kernel
theorem dX7_renames_1 : decode cX7_renames 1 = .ok (.getfield 65, 3) := by decide +kernel
theorem dX7_renames_4 : decode cX7_renames 4 = .ok (.invokevirtual 293, 3) := by decide +kernel
theorem dX7_renames_7 : decode cX7_renames 7 = .ok (.aload_n 0, 1) := by decide +kernel
theorem dX7_renames_8 : decode cX7_renames 8 = .ok (.invokevirtual 243, 3) := by decide +kernel
theorem dX7_renames_11 : decode cX7_renames 11 = .ok (.iconst 0, 1) := by decide +kernel
theorem dX7_renames_12 : decode cX7_renames 12 = .ok (.istore_n 1, 1) := by decide +kernel
theorem dX7_renames_13 : decode cX7_renames 13 = .ok (.iload_n 1, 1) := by decide +kernel
theorem dX7_renames_14 : decode cX7_renames 14 = .ok (.aload_n 0, 1) := by decide +kernel
theorem dX7_renames_15 : decode cX7_renames 15 = .ok (.getfield 51, 3) := by decide +kernel
theorem dX7_renames_18 : decode cX7_renames 18 = .ok (.invokevirtual 198, 3) := by decide +kernel
theorem dX7_renames_21 : decode cX7_renames 21 = .ok (.if_icmp .ge 29, 3) := by decide +kernel
theorem dX7_renames_24 : decode cX7_renames 24 = .ok (.aload_n 0, 1) := by decide +kernel
theorem dX7_renames_25 : decode cX7_renames 25 = .ok (.iload_n 1, 1) := by decide +kernel
theorem dX7_renames_26 : decode cX7_renames 26 = .ok (.invokevirtual 280, 3) := by decide +kernel
theorem dX7_renames_29 : decode cX7_renames 29 = .ok (.ifCond .eq 15, 3) := by decide +kernel
theorem dX7_renames_32 : decode cX7_renames 32 = .ok (.aload_n 0, 1) := by decide +kernel
theorem dX7_renames_33 : decode cX7_renames 33 = .ok (.getfield 65, 3) := by decide +kernel
theorem dX7_renames_36 : decode cX7_renames 36 = .ok (.iload_n 1, 1) := by decide +kernel
theorem dX7_renames_37 : decode cX7_renames 37 = .ok (.aload_n 0, 1) := by decide +kernel
theorem dX7_renames_38 : decode cX7_renames 38 = .ok (.getfield 21, 3) := by decide +kernel
theorem dX7_renames_41 : decode cX7_renames 41 = .ok (.invokevirtual 288, 3) := by decide +kernel
theorem dX7_renames_44 : decode cX7_renames 44 = .ok (.iinc 1 1, 3) := by decide +kernel
theorem dX7_renames_47 : decode cX7_renames 47 = .ok (.goto (-34), 3) := by decide +kernel
theorem dX7_renames_50 : decode cX7_renames 50 = .ok (.aload_n 0, 1) := by decide +kernel
theorem dX7_renames_51 : decode cX7_renames 51 = .ok (.getfield 65, 3) := by decide +kernel
theorem dX7_renames_54 : decode cX7_renames 54 = .ok (.invokevirtual 292, 3) := by decide +kernel
theorem dX7_renames_57 : decode cX7_renames 57 = .ok (.ireturn, 1) := by decide +kernel
theorem dX7_none_0 : decode cX7_none 0 = .ok (.aload_n 0, 1) := by decide +kernel
theorem dX7_none_1 : decode cX7_none 1 = .ok (.getfield 65, 3) := by decide +kernel
theorem dX7_none_4 : decode cX7_none 4 = .ok (.invokevirtual 292, 3) := by decide +kernel
theorem dX7_none_7 : decode cX7_none 7 = .ok (.istore_n 1, 1) := by decide +kernel
theorem dX7_none_8 : decode cX7_none 8 = .ok (.aload_n 0, 1) := by decide +kernel
theorem dX7_none_9 : decode cX7_none 9 = .ok (.getfield 65, 3) := by decide +kernel
theorem dX7_none_12 : decode cX7_none 12 = .ok (.invokevirtual 293, 3) := by decide +kernel
theorem dX7_none_15 : decode cX7_none 15 = .ok (.iload_n 1, 1) := by decide +kernel
theorem dX7_none_16 : decode cX7_none 16 = .ok (.ireturn, 1) := by decide +kernel
theorem dX7_hinders_0 : decode cX7_hinders 0 = .ok (.aload_n 0, 1) := by decide +kernel
theorem dX7_hinders_1 : decode cX7_hinders 1 = .ok (.invokevirtual 294, 3) := by decide +kernel
theorem dX7_hinders_4 : decode cX7_hinders 4 = .ok (.istore_n 1, 1) := by decide +kernel
theorem dX7_hinders_5 : decode cX7_hinders 5 = .ok (.iload_n 1, 1) := by decide +kernel
theorem dX7_hinders_6 : decode cX7_hinders 6 = .ok (.bipush (-2), 2) := by decide +kernel
theorem dX7_hinders_8 : decode cX7_hinders 8 = .ok (.if_icmp .eq 5, 3) := by decide +kernel
theorem dX7_hinders_11 : decode cX7_hinders 11 = .ok (.iload_n 1, 1) := by decide +kernel
theorem dX7_hinders_12 : decode cX7_hinders 12 = .ok (.ireturn, 1) := by decide +kernel
theorem dX7_hinders_13 : decode cX7_hinders 13 = .ok (.aload_n 0, 1) := by decide +kernel
theorem dX7_hinders_14 : decode cX7_hinders 14 = .ok (.invokevirtual 297, 3) := by decide +kernel
theorem dX7_hinders_17 : decode cX7_hinders 17 = .ok (.istore_n 2, 1) := by decide +kernel
theorem dX7_hinders_18 : decode cX7_hinders 18 = .ok (.iload_n 2, 1) := by decide +kernel
theorem dX7_hinders_19 : decode cX7_hinders 19 = .ok (.bipush (-2), 2) := by decide +kernel
theorem dX7_hinders_21 : decode cX7_hinders 21 = .ok (.if_icmp .ne 8, 3) := by decide +kernel
theorem dX7_hinders_24 : decode cX7_hinders 24 = .ok (.bipush (-2), 2) := by decide +kernel
theorem dX7_hinders_26 : decode cX7_hinders 26 = .ok (.goto 8, 3) := by decide +kernel
theorem dX7_hinders_29 : decode cX7_hinders 29 = .ok (.sipush 1000, 3) := by decide +kernel
theorem dX7_hinders_32 : decode cX7_hinders 32 = .ok (.iload_n 2, 1) := by decide +kernel
theorem dX7_hinders_33 : decode cX7_hinders 33 = .ok (.iadd, 1) := by decide +kernel
theorem dX7_hinders_34 : decode cX7_hinders 34 = .ok (.ireturn, 1) := by decide +kernel
theorem dX7_turn_0 : decode cX7_turn 0 = .ok (.aload_n 0, 1) := by decide +kernel
theorem dX7_turn_1 : decode cX7_turn 1 = .ok (.invokevirtual 300, 3) := by decide +kernel
theorem dX7_turn_4 : decode cX7_turn 4 = .ok (.ifCond .ne 9, 3) := by decide +kernel
theorem dX7_turn_7 : decode cX7_turn 7 = .ok (.aload_n 0, 1) := by decide +kernel
theorem dX7_turn_8 : decode cX7_turn 8 = .ok (.iconst 5, 1) := by decide +kernel
theorem dX7_turn_9 : decode cX7_turn 9 = .ok (.invokevirtual 122, 3) := by decide +kernel
theorem dX7_turn_12 : decode cX7_turn 12 = .ok (.ireturn, 1) := by decide +kernel
theorem dX7_turn_13 : decode cX7_turn 13 = .ok (.aload_n 0, 1) := by decide +kernel
theorem dX7_turn_14 : decode cX7_turn 14 = .ok (.getfield 69, 3) := by decide +kernel
theorem dX7_turn_17 : decode cX7_turn 17 = .ok (.invokevirtual 293, 3) := by decide +kernel
theorem dX7_turn_20 : decode cX7_turn 20 = .ok (.iconst 0, 1) := by decide +kernel
theorem dX7_turn_21 : decode cX7_turn 21 = .ok (.istore_n 1, 1) := by decide +kernel
theorem dX7_turn_22 : decode cX7_turn 22 = .ok (.iload_n 1, 1) := by decide +kernel
theorem dX7_turn_23 : decode cX7_turn 23 = .ok (.aload_n 0, 1) := by decide +kernel
theorem dX7_turn_24 : decode cX7_turn 24 = .ok (.getfield 51, 3) := by decide +kernel
theorem dX7_turn_27 : decode cX7_turn 27 = .ok (.invokevirtual 198, 3) := by decide +kernel
theorem dX7_turn_30 : decode cX7_turn 30 = .ok (.if_icmp .ge 55, 3) := by decide +kernel
theorem dX7_turn_33 : decode cX7_turn 33 = .ok (.aload_n 0, 1) := by decide +kernel
theorem dX7_turn_34 : decode cX7_turn 34 = .ok (.getfield 65, 3) := by decide +kernel
theorem dX7_turn_37 : decode cX7_turn 37 = .ok (.iload_n 1, 1) := by decide +kernel
theorem dX7_turn_38 : decode cX7_turn 38 = .ok (.invokevirtual 212, 3) := by decide +kernel
theorem dX7_turn_41 : decode cX7_turn 41 = .ok (.ifCond .eq 38, 3) := by decide +kernel
theorem dX7_turn_44 : decode cX7_turn 44 = .ok (.aload_n 0, 1) := by decide +kernel
theorem dX7_turn_45 : decode cX7_turn 45 = .ok (.getfield 69, 3) := by decide +kernel
theorem dX7_turn_48 : decode cX7_turn 48 = .ok (.iload_n 1, 1) := by decide +kernel
theorem dX7_turn_49 : decode cX7_turn 49 = .ok (.aload_n 0, 1) := by decide +kernel
theorem dX7_turn_50 : decode cX7_turn 50 = .ok (.getfield 51, 3) := by decide +kernel
theorem dX7_turn_53 : decode cX7_turn 53 = .ok (.iload_n 1, 1) := by decide +kernel
theorem dX7_turn_54 : decode cX7_turn 54 = .ok (.invokevirtual 167, 3) := by decide +kernel
theorem dX7_turn_57 : decode cX7_turn 57 = .ok (.invokevirtual 288, 3) := by decide +kernel
theorem dX7_turn_60 : decode cX7_turn 60 = .ok (.aload_n 0, 1) := by decide +kernel
theorem dX7_turn_61 : decode cX7_turn 61 = .ok (.getfield 51, 3) := by decide +kernel
theorem dX7_turn_64 : decode cX7_turn 64 = .ok (.iload_n 1, 1) := by decide +kernel
theorem dX7_turn_65 : decode cX7_turn 65 = .ok (.invokevirtual 167, 3) := by decide +kernel
theorem dX7_turn_68 : decode cX7_turn 68 = .ok (.aload_n 0, 1) := by decide +kernel
theorem dX7_turn_69 : decode cX7_turn 69 = .ok (.getfield 65, 3) := by decide +kernel
theorem dX7_turn_72 : decode cX7_turn 72 = .ok (.iload_n 1, 1) := by decide +kernel
theorem dX7_turn_73 : decode cX7_turn 73 = .ok (.invokevirtual 213, 3) := by decide +kernel
theorem dX7_turn_76 : decode cX7_turn 76 = .ok (.invokevirtual 283, 3) := by decide +kernel
theorem dX7_turn_79 : decode cX7_turn 79 = .ok (.iinc 1 1, 3) := by decide +kernel
theorem dX7_turn_82 : decode cX7_turn 82 = .ok (.goto (-60), 3) := by decide +kernel
theorem dX7_turn_85 : decode cX7_turn 85 = .ok (.aload_n 0, 1) := by decide +kernel
theorem dX7_turn_86 : decode cX7_turn 86 = .ok (.getfield 65, 3) := by decide +kernel
theorem dX7_turn_89 : decode cX7_turn 89 = .ok (.invokevirtual 293, 3) := by decide +kernel
theorem dX7_turn_92 : decode cX7_turn 92 = .ok (.aload_n 0, 1) := by decide +kernel
theorem dX7_turn_93 : decode cX7_turn 93 = .ok (.iconst 1, 1) := by decide +kernel
theorem dX7_turn_94 : decode cX7_turn 94 = .ok (.putfield 80, 3) := by decide +kernel
theorem dX7_turn_97 : decode cX7_turn 97 = .ok (.aload_n 0, 1) := by decide +kernel
theorem dX7_turn_98 : decode cX7_turn 98 = .ok (.aload_n 0, 1) := by decide +kernel
theorem dX7_turn_99 : decode cX7_turn 99 = .ok (.getfield 69, 3) := by decide +kernel
theorem dX7_turn_102 : decode cX7_turn 102 = .ok (.invokevirtual 292, 3) := by decide +kernel
theorem dX7_turn_105 : decode cX7_turn 105 = .ok (.invokevirtual 131, 3) := by decide +kernel
theorem dX7_turn_108 : decode cX7_turn 108 = .ok (.ireturn, 1) := by decide +kernel
theorem dX7_back_0 : decode cX7_back 0 = .ok (.aload_n 0, 1) := by decide +kernel
theorem dX7_back_1 : decode cX7_back 1 = .ok (.getfield 80, 3) := by decide +kernel
theorem dX7_back_4 : decode cX7_back 4 = .ok (.ifCond .ne 10, 3) := by decide +kernel
theorem dX7_back_7 : decode cX7_back 7 = .ok (.aload_n 0, 1) := by decide +kernel
theorem dX7_back_8 : decode cX7_back 8 = .ok (.bipush 6, 2) := by decide +kernel
theorem dX7_back_10 : decode cX7_back 10 = .ok (.invokevirtual 122, 3) := by decide +kernel
theorem dX7_back_13 : decode cX7_back 13 = .ok (.ireturn, 1) := by decide +kernel
theorem dX7_back_14 : decode cX7_back 14 = .ok (.iconst 0, 1) := by decide +kernel
theorem dX7_back_15 : decode cX7_back 15 = .ok (.istore_n 1, 1) := by decide +kernel
theorem dX7_back_16 : decode cX7_back 16 = .ok (.iload_n 1, 1) := by decide +kernel
theorem dX7_back_17 : decode cX7_back 17 = .ok (.aload_n 0, 1) := by decide +kernel
theorem dX7_back_18 : decode cX7_back 18 = .ok (.getfield 51, 3) := by decide +kernel
theorem dX7_back_21 : decode cX7_back 21 = .ok (.invokevirtual 198, 3) := by decide +kernel
theorem dX7_back_24 : decode cX7_back 24 = .ok (.if_icmp .ge 39, 3) := by decide +kernel
theorem dX7_back_27 : decode cX7_back 27 = .ok (.aload_n 0, 1) := by decide +kernel
theorem dX7_back_28 : decode cX7_back 28 = .ok (.getfield 69, 3) := by decide +kernel
theorem dX7_back_31 : decode cX7_back 31 = .ok (.iload_n 1, 1) := by decide +kernel
theorem dX7_back_32 : decode cX7_back 32 = .ok (.invokevirtual 212, 3) := by decide +kernel
theorem dX7_back_35 : decode cX7_back 35 = .ok (.ifCond .eq 22, 3) := by decide +kernel
theorem dX7_back_38 : decode cX7_back 38 = .ok (.aload_n 0, 1) := by decide +kernel
theorem dX7_back_39 : decode cX7_back 39 = .ok (.getfield 51, 3) := by decide +kernel
theorem dX7_back_42 : decode cX7_back 42 = .ok (.iload_n 1, 1) := by decide +kernel
theorem dX7_back_43 : decode cX7_back 43 = .ok (.invokevirtual 167, 3) := by decide +kernel
theorem dX7_back_46 : decode cX7_back 46 = .ok (.aload_n 0, 1) := by decide +kernel
theorem dX7_back_47 : decode cX7_back 47 = .ok (.getfield 69, 3) := by decide +kernel
theorem dX7_back_50 : decode cX7_back 50 = .ok (.iload_n 1, 1) := by decide +kernel
theorem dX7_back_51 : decode cX7_back 51 = .ok (.invokevirtual 213, 3) := by decide +kernel
theorem dX7_back_54 : decode cX7_back 54 = .ok (.invokevirtual 283, 3) := by decide +kernel
theorem dX7_back_57 : decode cX7_back 57 = .ok (.iinc 1 1, 3) := by decide +kernel
theorem dX7_back_60 : decode cX7_back 60 = .ok (.goto (-44), 3) := by decide +kernel
theorem dX7_back_63 : decode cX7_back 63 = .ok (.aload_n 0, 1) := by decide +kernel
theorem dX7_back_64 : decode cX7_back 64 = .ok (.iconst 0, 1) := by decide +kernel
theorem dX7_back_65 : decode cX7_back 65 = .ok (.putfield 80, 3) := by decide +kernel
theorem dX7_back_68 : decode cX7_back 68 = .ok (.aload_n 0, 1) := by decide +kernel
theorem dX7_back_69 : decode cX7_back 69 = .ok (.aload_n 0, 1) := by decide +kernel
theorem dX7_back_70 : decode cX7_back 70 = .ok (.getfield 69, 3) := by decide +kernel
theorem dX7_back_73 : decode cX7_back 73 = .ok (.invokevirtual 292, 3) := by decide +kernel
theorem dX7_back_76 : decode cX7_back 76 = .ok (.invokevirtual 131, 3) := by decide +kernel
theorem dX7_back_79 : decode cX7_back 79 = .ok (.ireturn, 1) := by decide +kernel
theorem dX7_keep_0 : decode cX7_keep 0 = .ok (.iconst 0, 1) := by decide +kernel
theorem dX7_keep_1 : decode cX7_keep 1 = .ok (.istore_n 1, 1) := by decide +kernel
theorem dX7_keep_2 : decode cX7_keep 2 = .ok (.iload_n 1, 1) := by decide +kernel
theorem dX7_keep_3 : decode cX7_keep 3 = .ok (.bipush 80, 2) := by decide +kernel
theorem dX7_keep_5 : decode cX7_keep 5 = .ok (.if_icmp .ge 23, 3) := by decide +kernel
theorem dX7_keep_8 : decode cX7_keep 8 = .ok (.aload_n 0, 1) := by decide +kernel
theorem dX7_keep_9 : decode cX7_keep 9 = .ok (.getfield 72, 3) := by decide +kernel
theorem dX7_keep_12 : decode cX7_keep 12 = .ok (.iload_n 1, 1) := by decide +kernel
theorem dX7_keep_13 : decode cX7_keep 13 = .ok (.aload_n 0, 1) := by decide +kernel
theorem dX7_keep_14 : decode cX7_keep 14 = .ok (.getfield 65, 3) := by decide +kernel
theorem dX7_keep_17 : decode cX7_keep 17 = .ok (.iload_n 1, 1) := by decide +kernel
theorem dX7_keep_18 : decode cX7_keep 18 = .ok (.invokevirtual 212, 3) := by decide +kernel
theorem dX7_keep_21 : decode cX7_keep 21 = .ok (.bastore, 1) := by decide +kernel
theorem dX7_keep_22 : decode cX7_keep 22 = .ok (.iinc 1 1, 3) := by decide +kernel
theorem dX7_keep_25 : decode cX7_keep 25 = .ok (.goto (-23), 3) := by decide +kernel
theorem dX7_keep_28 : decode cX7_keep 28 = .ok (.aload_n 0, 1) := by decide +kernel
theorem dX7_keep_29 : decode cX7_keep 29 = .ok (.getfield 65, 3) := by decide +kernel
theorem dX7_keep_32 : decode cX7_keep 32 = .ok (.invokevirtual 293, 3) := by decide +kernel
theorem dX7_keep_35 : decode cX7_keep 35 = .ok (.iconst 0, 1) := by decide +kernel
theorem dX7_keep_36 : decode cX7_keep 36 = .ok (.istore_n 1, 1) := by decide +kernel
theorem dX7_keep_37 : decode cX7_keep 37 = .ok (.iload_n 1, 1) := by decide +kernel
theorem dX7_keep_38 : decode cX7_keep 38 = .ok (.bipush 80, 2) := by decide +kernel
theorem dX7_keep_40 : decode cX7_keep 40 = .ok (.if_icmp .ge 42, 3) := by decide +kernel
theorem dX7_keep_43 : decode cX7_keep 43 = .ok (.aload_n 0, 1) := by decide +kernel
theorem dX7_keep_44 : decode cX7_keep 44 = .ok (.getfield 72, 3) := by decide +kernel
theorem dX7_keep_47 : decode cX7_keep 47 = .ok (.iload_n 1, 1) := by decide +kernel
theorem dX7_keep_48 : decode cX7_keep 48 = .ok (.baload, 1) := by decide +kernel
theorem dX7_keep_49 : decode cX7_keep 49 = .ok (.ifCond .eq 27, 3) := by decide +kernel
theorem dX7_keep_52 : decode cX7_keep 52 = .ok (.aload_n 0, 1) := by decide +kernel
theorem dX7_keep_53 : decode cX7_keep 53 = .ok (.getfield 65, 3) := by decide +kernel
theorem dX7_keep_56 : decode cX7_keep 56 = .ok (.iload_n 1, 1) := by decide +kernel
theorem dX7_keep_57 : decode cX7_keep 57 = .ok (.invokevirtual 303, 3) := by decide +kernel
theorem dX7_keep_60 : decode cX7_keep 60 = .ok (.aload_n 0, 1) := by decide +kernel
theorem dX7_keep_61 : decode cX7_keep 61 = .ok (.iload_n 1, 1) := by decide +kernel
theorem dX7_keep_62 : decode cX7_keep 62 = .ok (.invokevirtual 306, 3) := by decide +kernel
theorem dX7_keep_65 : decode cX7_keep 65 = .ok (.ifCond .ne 11, 3) := by decide +kernel
theorem dX7_keep_68 : decode cX7_keep 68 = .ok (.aload_n 0, 1) := by decide +kernel
theorem dX7_keep_69 : decode cX7_keep 69 = .ok (.getfield 65, 3) := by decide +kernel
theorem dX7_keep_72 : decode cX7_keep 72 = .ok (.iload_n 1, 1) := by decide +kernel
theorem dX7_keep_73 : decode cX7_keep 73 = .ok (.invokevirtual 309, 3) := by decide +kernel
theorem dX7_keep_76 : decode cX7_keep 76 = .ok (.iinc 1 1, 3) := by decide +kernel
theorem dX7_keep_79 : decode cX7_keep 79 = .ok (.goto (-42), 3) := by decide +kernel
theorem dX7_keep_82 : decode cX7_keep 82 = .ok (.aload_n 0, 1) := by decide +kernel
theorem dX7_keep_83 : decode cX7_keep 83 = .ok (.getfield 65, 3) := by decide +kernel
theorem dX7_keep_86 : decode cX7_keep 86 = .ok (.invokevirtual 292, 3) := by decide +kernel
theorem dX7_keep_89 : decode cX7_keep 89 = .ok (.ireturn, 1) := by decide +kernel
theorem dX7_count_0 : decode cX7_count 0 = .ok (.iload_n 1, 1) := by decide +kernel
theorem dX7_count_1 : decode cX7_count 1 = .ok (.tableswitch 99 0 6 #[43, 51, 59, 67, 75, 83, 91], 43) := by decide +kernel
theorem dX7_count_44 : decode cX7_count 44 = .ok (.aload_n 0, 1) := by decide +kernel
theorem dX7_count_45 : decode cX7_count 45 = .ok (.getfield 44, 3) := by decide +kernel
theorem dX7_count_48 : decode cX7_count 48 = .ok (.invokevirtual 312, 3) := by decide +kernel
theorem dX7_count_51 : decode cX7_count 51 = .ok (.ireturn, 1) := by decide +kernel
theorem dX7_count_52 : decode cX7_count 52 = .ok (.aload_n 0, 1) := by decide +kernel
theorem dX7_count_53 : decode cX7_count 53 = .ok (.getfield 51, 3) := by decide +kernel
theorem dX7_count_56 : decode cX7_count 56 = .ok (.invokevirtual 198, 3) := by decide +kernel
theorem dX7_count_59 : decode cX7_count 59 = .ok (.ireturn, 1) := by decide +kernel
theorem dX7_count_60 : decode cX7_count 60 = .ok (.aload_n 0, 1) := by decide +kernel
theorem dX7_count_61 : decode cX7_count 61 = .ok (.getfield 58, 3) := by decide +kernel
theorem dX7_count_64 : decode cX7_count 64 = .ok (.invokevirtual 207, 3) := by decide +kernel
theorem dX7_count_67 : decode cX7_count 67 = .ok (.ireturn, 1) := by decide +kernel
theorem dX7_count_68 : decode cX7_count 68 = .ok (.aload_n 0, 1) := by decide +kernel
theorem dX7_count_69 : decode cX7_count 69 = .ok (.getfield 37, 3) := by decide +kernel
theorem dX7_count_72 : decode cX7_count 72 = .ok (.invokevirtual 313, 3) := by decide +kernel
theorem dX7_count_75 : decode cX7_count 75 = .ok (.ireturn, 1) := by decide +kernel
theorem dX7_count_76 : decode cX7_count 76 = .ok (.aload_n 0, 1) := by decide +kernel
theorem dX7_count_77 : decode cX7_count 77 = .ok (.getfield 65, 3) := by decide +kernel
theorem dX7_count_80 : decode cX7_count 80 = .ok (.invokevirtual 292, 3) := by decide +kernel
theorem dX7_count_83 : decode cX7_count 83 = .ok (.ireturn, 1) := by decide +kernel
theorem dX7_count_84 : decode cX7_count 84 = .ok (.aload_n 0, 1) := by decide +kernel
theorem dX7_count_85 : decode cX7_count 85 = .ok (.getfield 24, 3) := by decide +kernel
theorem dX7_count_88 : decode cX7_count 88 = .ok (.invokevirtual 88, 3) := by decide +kernel
theorem dX7_count_91 : decode cX7_count 91 = .ok (.ireturn, 1) := by decide +kernel
theorem dX7_count_92 : decode cX7_count 92 = .ok (.aload_n 0, 1) := by decide +kernel
theorem dX7_count_93 : decode cX7_count 93 = .ok (.getfield 14, 3) := by decide +kernel
theorem dX7_count_96 : decode cX7_count 96 = .ok (.invokevirtual 88, 3) := by decide +kernel
theorem dX7_count_99 : decode cX7_count 99 = .ok (.ireturn, 1) := by decide +kernel
theorem dX7_count_100 : decode cX7_count 100 = .ok (.iconst (-1), 1) := by decide +kernel
theorem dX7_count_101 : decode cX7_count 101 = .ok (.ireturn, 1) := by decide +kernel
theorem dX7_trouble_0 : decode cX7_trouble 0 = .ok (.aload_n 0, 1) := by decide +kernel
theorem dX7_trouble_1 : decode cX7_trouble 1 = .ok (.getfield 84, 3) := by decide +kernel
theorem dX7_trouble_4 : decode cX7_trouble 4 = .ok (.ireturn, 1) := by decide +kernel
theorem dX7_refused_0 : decode cX7_refused 0 = .ok (.aload_n 0, 1) := by decide +kernel
theorem dX7_refused_1 : decode cX7_refused 1 = .ok (.iload_n 1, 1) := by decide +kernel
theorem dX7_refused_2 : decode cX7_refused 2 = .ok (.putfield 84, 3) := by decide +kernel
theorem dX7_refused_5 : decode cX7_refused 5 = .ok (.iconst (-1), 1) := by decide +kernel
theorem dX7_refused_6 : decode cX7_refused 6 = .ok (.ireturn, 1) := by decide +kernel
theorem dX7_accepted_0 : decode cX7_accepted 0 = .ok (.aload_n 0, 1) := by decide +kernel
theorem dX7_accepted_1 : decode cX7_accepted 1 = .ok (.iconst 0, 1) := by decide +kernel
theorem dX7_accepted_2 : decode cX7_accepted 2 = .ok (.putfield 84, 3) := by decide +kernel
theorem dX7_accepted_5 : decode cX7_accepted 5 = .ok (.iload_n 1, 1) := by decide +kernel
theorem dX7_accepted_6 : decode cX7_accepted 6 = .ok (.ireturn, 1) := by decide +kernel
theorem dX7_draftsOffer_0 : decode cX7_draftsOffer 0 = .ok (.aload_n 0, 1) := by decide +kernel
theorem dX7_draftsOffer_1 : decode cX7_draftsOffer 1 = .ok (.getfield 51, 3) := by decide +kernel
theorem dX7_draftsOffer_4 : decode cX7_draftsOffer 4 = .ok (.iload_n 1, 1) := by decide +kernel
theorem dX7_draftsOffer_5 : decode cX7_draftsOffer 5 = .ok (.invokevirtual 167, 3) := by decide +kernel
theorem dX7_draftsOffer_8 : decode cX7_draftsOffer 8 = .ok (.astore_n 2, 1) := by decide +kernel
theorem dX7_draftsOffer_9 : decode cX7_draftsOffer 9 = .ok (.aload_n 2, 1) := by decide +kernel
theorem dX7_draftsOffer_10 : decode cX7_draftsOffer 10 = .ok (.invokevirtual 176, 3) := by decide +kernel
theorem dX7_draftsOffer_13 : decode cX7_draftsOffer 13 = .ok (.istore_n 3, 1) := by decide +kernel
theorem dX7_draftsOffer_14 : decode cX7_draftsOffer 14 = .ok (.aload_n 0, 1) := by decide +kernel
theorem dX7_draftsOffer_15 : decode cX7_draftsOffer 15 = .ok (.getfield 21, 3) := by decide +kernel
theorem dX7_draftsOffer_18 : decode cX7_draftsOffer 18 = .ok (.invokevirtual 95, 3) := by decide +kernel
theorem dX7_draftsOffer_21 : decode cX7_draftsOffer 21 = .ok (.aload_n 0, 1) := by decide +kernel
theorem dX7_draftsOffer_22 : decode cX7_draftsOffer 22 = .ok (.getfield 30, 3) := by decide +kernel
theorem dX7_draftsOffer_25 : decode cX7_draftsOffer 25 = .ok (.aload_n 2, 1) := by decide +kernel
theorem dX7_draftsOffer_26 : decode cX7_draftsOffer 26 = .ok (.invokevirtual 171, 3) := by decide +kernel
theorem dX7_draftsOffer_29 : decode cX7_draftsOffer 29 = .ok (.iconst 0, 1) := by decide +kernel
theorem dX7_draftsOffer_30 : decode cX7_draftsOffer 30 = .ok (.istore 4, 2) := by decide +kernel
theorem dX7_draftsOffer_32 : decode cX7_draftsOffer 32 = .ok (.iload 4, 2) := by decide +kernel
theorem dX7_draftsOffer_34 : decode cX7_draftsOffer 34 = .ok (.aload_n 0, 1) := by decide +kernel
theorem dX7_draftsOffer_35 : decode cX7_draftsOffer 35 = .ok (.getfield 30, 3) := by decide +kernel
theorem dX7_draftsOffer_38 : decode cX7_draftsOffer 38 = .ok (.invokevirtual 175, 3) := by decide +kernel
theorem dX7_draftsOffer_41 : decode cX7_draftsOffer 41 = .ok (.if_icmp .ge 72, 3) := by decide +kernel
theorem dX7_draftsOffer_44 : decode cX7_draftsOffer 44 = .ok (.iload 4, 2) := by decide +kernel
theorem dX7_draftsOffer_46 : decode cX7_draftsOffer 46 = .ok (.ifCond .le 22, 3) := by decide +kernel
theorem dX7_draftsOffer_49 : decode cX7_draftsOffer 49 = .ok (.iload_n 3, 1) := by decide +kernel
theorem dX7_draftsOffer_50 : decode cX7_draftsOffer 50 = .ok (.iconst 2, 1) := by decide +kernel
theorem dX7_draftsOffer_51 : decode cX7_draftsOffer 51 = .ok (.if_icmp .eq 8, 3) := by decide +kernel
theorem dX7_draftsOffer_54 : decode cX7_draftsOffer 54 = .ok (.iload_n 3, 1) := by decide +kernel
theorem dX7_draftsOffer_55 : decode cX7_draftsOffer 55 = .ok (.iconst 3, 1) := by decide +kernel
theorem dX7_draftsOffer_56 : decode cX7_draftsOffer 56 = .ok (.if_icmp .ne 12, 3) := by decide +kernel
theorem dX7_draftsOffer_59 : decode cX7_draftsOffer 59 = .ok (.aload_n 0, 1) := by decide +kernel
theorem dX7_draftsOffer_60 : decode cX7_draftsOffer 60 = .ok (.getfield 21, 3) := by decide +kernel
theorem dX7_draftsOffer_63 : decode cX7_draftsOffer 63 = .ok (.bipush 95, 2) := by decide +kernel
theorem dX7_draftsOffer_65 : decode cX7_draftsOffer 65 = .ok (.invokevirtual 102, 3) := by decide +kernel
theorem dX7_draftsOffer_68 : decode cX7_draftsOffer 68 = .ok (.iload_n 3, 1) := by decide +kernel
theorem dX7_draftsOffer_69 : decode cX7_draftsOffer 69 = .ok (.iconst 1, 1) := by decide +kernel
theorem dX7_draftsOffer_70 : decode cX7_draftsOffer 70 = .ok (.if_icmp .eq 12, 3) := by decide +kernel
theorem dX7_draftsOffer_73 : decode cX7_draftsOffer 73 = .ok (.iload_n 3, 1) := by decide +kernel
theorem dX7_draftsOffer_74 : decode cX7_draftsOffer 74 = .ok (.ifCond .ne 12, 3) := by decide +kernel
theorem dX7_draftsOffer_77 : decode cX7_draftsOffer 77 = .ok (.iload 4, 2) := by decide +kernel
theorem dX7_draftsOffer_79 : decode cX7_draftsOffer 79 = .ok (.ifCond .le 7, 3) := by decide +kernel
theorem dX7_draftsOffer_82 : decode cX7_draftsOffer 82 = .ok (.iconst 1, 1) := by decide +kernel
theorem dX7_draftsOffer_83 : decode cX7_draftsOffer 83 = .ok (.goto 4, 3) := by decide +kernel
theorem dX7_draftsOffer_86 : decode cX7_draftsOffer 86 = .ok (.iconst 0, 1) := by decide +kernel
theorem dX7_draftsOffer_87 : decode cX7_draftsOffer 87 = .ok (.istore 5, 2) := by decide +kernel
theorem dX7_draftsOffer_89 : decode cX7_draftsOffer 89 = .ok (.aload_n 0, 1) := by decide +kernel
theorem dX7_draftsOffer_90 : decode cX7_draftsOffer 90 = .ok (.iload 4, 2) := by decide +kernel
theorem dX7_draftsOffer_92 : decode cX7_draftsOffer 92 = .ok (.iload 5, 2) := by decide +kernel
theorem dX7_draftsOffer_94 : decode cX7_draftsOffer 94 = .ok (.iload_n 3, 1) := by decide +kernel
theorem dX7_draftsOffer_95 : decode cX7_draftsOffer 95 = .ok (.iconst 3, 1) := by decide +kernel
theorem dX7_draftsOffer_96 : decode cX7_draftsOffer 96 = .ok (.if_icmp .ne 7, 3) := by decide +kernel
theorem dX7_draftsOffer_99 : decode cX7_draftsOffer 99 = .ok (.iconst 1, 1) := by decide +kernel
theorem dX7_draftsOffer_100 : decode cX7_draftsOffer 100 = .ok (.goto 4, 3) := by decide +kernel
theorem dX7_draftsOffer_103 : decode cX7_draftsOffer 103 = .ok (.iconst 0, 1) := by decide +kernel
theorem dX7_draftsOffer_104 : decode cX7_draftsOffer 104 = .ok (.invokevirtual 314, 3) := by decide +kernel
theorem dX7_draftsOffer_107 : decode cX7_draftsOffer 107 = .ok (.iinc 4 1, 3) := by decide +kernel
theorem dX7_draftsOffer_110 : decode cX7_draftsOffer 110 = .ok (.goto (-78), 3) := by decide +kernel
theorem dX7_draftsOffer_113 : decode cX7_draftsOffer 113 = .ok (.aload_n 0, 1) := by decide +kernel
theorem dX7_draftsOffer_114 : decode cX7_draftsOffer 114 = .ok (.getfield 21, 3) := by decide +kernel
theorem dX7_draftsOffer_117 : decode cX7_draftsOffer 117 = .ok (.invokevirtual 112, 3) := by decide +kernel
theorem dX7_draftsOffer_120 : decode cX7_draftsOffer 120 = .ok (.ifCond .eq 18, 3) := by decide +kernel
theorem dX7_draftsOffer_123 : decode cX7_draftsOffer 123 = .ok (.aload_n 0, 1) := by decide +kernel
theorem dX7_draftsOffer_124 : decode cX7_draftsOffer 124 = .ok (.getfield 21, 3) := by decide +kernel
theorem dX7_draftsOffer_127 : decode cX7_draftsOffer 127 = .ok (.aload_n 2, 1) := by decide +kernel
theorem dX7_draftsOffer_128 : decode cX7_draftsOffer 128 = .ok (.invokevirtual 203, 3) := by decide +kernel
theorem dX7_draftsOffer_131 : decode cX7_draftsOffer 131 = .ok (.ifCond .ne 7, 3) := by decide +kernel
theorem dX7_draftsOffer_134 : decode cX7_draftsOffer 134 = .ok (.iconst 1, 1) := by decide +kernel
theorem dX7_draftsOffer_135 : decode cX7_draftsOffer 135 = .ok (.goto 4, 3) := by decide +kernel
theorem dX7_draftsOffer_138 : decode cX7_draftsOffer 138 = .ok (.iconst 0, 1) := by decide +kernel
theorem dX7_draftsOffer_139 : decode cX7_draftsOffer 139 = .ok (.ireturn, 1) := by decide +kernel
theorem dX7_writePart_0 : decode cX7_writePart 0 = .ok (.aload_n 0, 1) := by decide +kernel
theorem dX7_writePart_1 : decode cX7_writePart 1 = .ok (.getfield 37, 3) := by decide +kernel
theorem dX7_writePart_4 : decode cX7_writePart 4 = .ok (.aload_n 0, 1) := by decide +kernel
theorem dX7_writePart_5 : decode cX7_writePart 5 = .ok (.getfield 37, 3) := by decide +kernel
theorem dX7_writePart_8 : decode cX7_writePart 8 = .ok (.aload_n 0, 1) := by decide +kernel
theorem dX7_writePart_9 : decode cX7_writePart 9 = .ok (.getfield 37, 3) := by decide +kernel
theorem dX7_writePart_12 : decode cX7_writePart 12 = .ok (.aload_n 0, 1) := by decide +kernel
theorem dX7_writePart_13 : decode cX7_writePart 13 = .ok (.getfield 30, 3) := by decide +kernel
theorem dX7_writePart_16 : decode cX7_writePart 16 = .ok (.iload_n 1, 1) := by decide +kernel
theorem dX7_writePart_17 : decode cX7_writePart 17 = .ok (.invokevirtual 217, 3) := by decide +kernel
theorem dX7_writePart_20 : decode cX7_writePart 20 = .ok (.invokevirtual 221, 3) := by decide +kernel
theorem dX7_writePart_23 : decode cX7_writePart 23 = .ok (.invokevirtual 274, 3) := by decide +kernel
theorem dX7_writePart_26 : decode cX7_writePart 26 = .ok (.invokevirtual 249, 3) := by decide +kernel
theorem dX7_writePart_29 : decode cX7_writePart 29 = .ok (.istore 4, 2) := by decide +kernel
theorem dX7_writePart_31 : decode cX7_writePart 31 = .ok (.iload 4, 2) := by decide +kernel
theorem dX7_writePart_33 : decode cX7_writePart 33 = .ok (.bipush (-2), 2) := by decide +kernel
theorem dX7_writePart_35 : decode cX7_writePart 35 = .ok (.if_icmp .ne 14, 3) := by decide +kernel
theorem dX7_writePart_38 : decode cX7_writePart 38 = .ok (.aload_n 0, 1) := by decide +kernel
theorem dX7_writePart_39 : decode cX7_writePart 39 = .ok (.getfield 30, 3) := by decide +kernel
theorem dX7_writePart_42 : decode cX7_writePart 42 = .ok (.iload_n 1, 1) := by decide +kernel
theorem dX7_writePart_43 : decode cX7_writePart 43 = .ok (.invokevirtual 318, 3) := by decide +kernel
theorem dX7_writePart_46 : decode cX7_writePart 46 = .ok (.goto 12, 3) := by decide +kernel
theorem dX7_writePart_49 : decode cX7_writePart 49 = .ok (.aload_n 0, 1) := by decide +kernel
theorem dX7_writePart_50 : decode cX7_writePart 50 = .ok (.getfield 37, 3) := by decide +kernel
theorem dX7_writePart_53 : decode cX7_writePart 53 = .ok (.iload 4, 2) := by decide +kernel
theorem dX7_writePart_55 : decode cX7_writePart 55 = .ok (.invokevirtual 321, 3) := by decide +kernel
theorem dX7_writePart_58 : decode cX7_writePart 58 = .ok (.istore 5, 2) := by decide +kernel
theorem dX7_writePart_60 : decode cX7_writePart 60 = .ok (.iconst 0, 1) := by decide +kernel
theorem dX7_writePart_61 : decode cX7_writePart 61 = .ok (.istore 6, 2) := by decide +kernel
theorem dX7_writePart_63 : decode cX7_writePart 63 = .ok (.iload 6, 2) := by decide +kernel
theorem dX7_writePart_65 : decode cX7_writePart 65 = .ok (.iload 5, 2) := by decide +kernel
theorem dX7_writePart_67 : decode cX7_writePart 67 = .ok (.if_icmp .ge 72, 3) := by decide +kernel
theorem dX7_writePart_70 : decode cX7_writePart 70 = .ok (.iload 4, 2) := by decide +kernel
theorem dX7_writePart_72 : decode cX7_writePart 72 = .ok (.bipush (-2), 2) := by decide +kernel
theorem dX7_writePart_74 : decode cX7_writePart 74 = .ok (.if_icmp .ne 16, 3) := by decide +kernel
theorem dX7_writePart_77 : decode cX7_writePart 77 = .ok (.aload_n 0, 1) := by decide +kernel
theorem dX7_writePart_78 : decode cX7_writePart 78 = .ok (.getfield 30, 3) := by decide +kernel
theorem dX7_writePart_81 : decode cX7_writePart 81 = .ok (.iload_n 1, 1) := by decide +kernel
theorem dX7_writePart_82 : decode cX7_writePart 82 = .ok (.iload 6, 2) := by decide +kernel
theorem dX7_writePart_84 : decode cX7_writePart 84 = .ok (.invokevirtual 322, 3) := by decide +kernel
theorem dX7_writePart_87 : decode cX7_writePart 87 = .ok (.goto 14, 3) := by decide +kernel
theorem dX7_writePart_90 : decode cX7_writePart 90 = .ok (.aload_n 0, 1) := by decide +kernel
theorem dX7_writePart_91 : decode cX7_writePart 91 = .ok (.getfield 37, 3) := by decide +kernel
theorem dX7_writePart_94 : decode cX7_writePart 94 = .ok (.iload 4, 2) := by decide +kernel
theorem dX7_writePart_96 : decode cX7_writePart 96 = .ok (.iload 6, 2) := by decide +kernel
theorem dX7_writePart_98 : decode cX7_writePart 98 = .ok (.invokevirtual 324, 3) := by decide +kernel
theorem dX7_writePart_101 : decode cX7_writePart 101 = .ok (.istore 7, 2) := by decide +kernel
theorem dX7_writePart_103 : decode cX7_writePart 103 = .ok (.aload_n 0, 1) := by decide +kernel
theorem dX7_writePart_104 : decode cX7_writePart 104 = .ok (.getfield 21, 3) := by decide +kernel
theorem dX7_writePart_107 : decode cX7_writePart 107 = .ok (.iload_n 3, 1) := by decide +kernel
theorem dX7_writePart_108 : decode cX7_writePart 108 = .ok (.ifCond .ne 12, 3) := by decide +kernel
theorem dX7_writePart_111 : decode cX7_writePart 111 = .ok (.iload_n 2, 1) := by decide +kernel
theorem dX7_writePart_112 : decode cX7_writePart 112 = .ok (.ifCond .eq 16, 3) := by decide +kernel
theorem dX7_writePart_115 : decode cX7_writePart 115 = .ok (.iload 6, 2) := by decide +kernel
theorem dX7_writePart_117 : decode cX7_writePart 117 = .ok (.ifCond .ne 11, 3) := by decide +kernel
theorem dX7_writePart_120 : decode cX7_writePart 120 = .ok (.iload 7, 2) := by decide +kernel
theorem dX7_writePart_122 : decode cX7_writePart 122 = .ok (.invokestatic 327, 3) := by decide +kernel
theorem dX7_writePart_125 : decode cX7_writePart 125 = .ok (.goto 5, 3) := by decide +kernel
theorem dX7_writePart_128 : decode cX7_writePart 128 = .ok (.iload 7, 2) := by decide +kernel
theorem dX7_writePart_130 : decode cX7_writePart 130 = .ok (.invokevirtual 102, 3) := by decide +kernel
theorem dX7_writePart_133 : decode cX7_writePart 133 = .ok (.iinc 6 1, 3) := by decide +kernel
theorem dX7_writePart_136 : decode cX7_writePart 136 = .ok (.goto (-73), 3) := by decide +kernel
theorem dX7_writePart_139 : decode cX7_writePart 139 = .ok (.return_, 1) := by decide +kernel
theorem dX7_isSafe_0 : decode cX7_isSafe 0 = .ok (.aload_n 0, 1) := by decide +kernel
theorem dX7_isSafe_1 : decode cX7_isSafe 1 = .ok (.invokevirtual 294, 3) := by decide +kernel
theorem dX7_isSafe_4 : decode cX7_isSafe 4 = .ok (.bipush (-2), 2) := by decide +kernel
theorem dX7_isSafe_6 : decode cX7_isSafe 6 = .ok (.if_icmp .ne 16, 3) := by decide +kernel
theorem dX7_isSafe_9 : decode cX7_isSafe 9 = .ok (.aload_n 0, 1) := by decide +kernel
theorem dX7_isSafe_10 : decode cX7_isSafe 10 = .ok (.invokevirtual 297, 3) := by decide +kernel
theorem dX7_isSafe_13 : decode cX7_isSafe 13 = .ok (.bipush (-2), 2) := by decide +kernel
theorem dX7_isSafe_15 : decode cX7_isSafe 15 = .ok (.if_icmp .ne 7, 3) := by decide +kernel
theorem dX7_isSafe_18 : decode cX7_isSafe 18 = .ok (.iconst 1, 1) := by decide +kernel
theorem dX7_isSafe_19 : decode cX7_isSafe 19 = .ok (.goto 4, 3) := by decide +kernel
theorem dX7_isSafe_22 : decode cX7_isSafe 22 = .ok (.iconst 0, 1) := by decide +kernel
theorem dX7_isSafe_23 : decode cX7_isSafe 23 = .ok (.ireturn, 1) := by decide +kernel
theorem dX7_staysSafe_0 : decode cX7_staysSafe 0 = .ok (.aload_n 0, 1) := by decide +kernel
theorem dX7_staysSafe_1 : decode cX7_staysSafe 1 = .ok (.getfield 51, 3) := by decide +kernel
theorem dX7_staysSafe_4 : decode cX7_staysSafe 4 = .ok (.iload_n 1, 1) := by decide +kernel
theorem dX7_staysSafe_5 : decode cX7_staysSafe 5 = .ok (.invokevirtual 161, 3) := by decide +kernel
theorem dX7_staysSafe_8 : decode cX7_staysSafe 8 = .ok (.istore_n 2, 1) := by decide +kernel
theorem dX7_staysSafe_9 : decode cX7_staysSafe 9 = .ok (.aload_n 0, 1) := by decide +kernel
theorem dX7_staysSafe_10 : decode cX7_staysSafe 10 = .ok (.iload_n 1, 1) := by decide +kernel
theorem dX7_staysSafe_11 : decode cX7_staysSafe 11 = .ok (.iconst 1, 1) := by decide +kernel
theorem dX7_staysSafe_12 : decode cX7_staysSafe 12 = .ok (.invokevirtual 199, 3) := by decide +kernel
theorem dX7_staysSafe_15 : decode cX7_staysSafe 15 = .ok (.astore_n 3, 1) := by decide +kernel
theorem dX7_staysSafe_16 : decode cX7_staysSafe 16 = .ok (.aload_n 0, 1) := by decide +kernel
theorem dX7_staysSafe_17 : decode cX7_staysSafe 17 = .ok (.iload_n 1, 1) := by decide +kernel
theorem dX7_staysSafe_18 : decode cX7_staysSafe 18 = .ok (.iload_n 2, 1) := by decide +kernel
theorem dX7_staysSafe_19 : decode cX7_staysSafe 19 = .ok (.aload_n 3, 1) := by decide +kernel
theorem dX7_staysSafe_20 : decode cX7_staysSafe 20 = .ok (.iconst 1, 1) := by decide +kernel
theorem dX7_staysSafe_21 : decode cX7_staysSafe 21 = .ok (.invokevirtual 140, 3) := by decide +kernel
theorem dX7_staysSafe_24 : decode cX7_staysSafe 24 = .ok (.ifCond .ne 13, 3) := by decide +kernel
theorem dX7_staysSafe_27 : decode cX7_staysSafe 27 = .ok (.aload_n 0, 1) := by decide +kernel
theorem dX7_staysSafe_28 : decode cX7_staysSafe 28 = .ok (.iload_n 2, 1) := by decide +kernel
theorem dX7_staysSafe_29 : decode cX7_staysSafe 29 = .ok (.aload_n 3, 1) := by decide +kernel
theorem dX7_staysSafe_30 : decode cX7_staysSafe 30 = .ok (.iconst 1, 1) := by decide +kernel
theorem dX7_staysSafe_31 : decode cX7_staysSafe 31 = .ok (.invokevirtual 144, 3) := by decide +kernel
theorem dX7_staysSafe_34 : decode cX7_staysSafe 34 = .ok (.ifCond .eq 5, 3) := by decide +kernel
theorem dX7_staysSafe_37 : decode cX7_staysSafe 37 = .ok (.iconst 0, 1) := by decide +kernel
theorem dX7_staysSafe_38 : decode cX7_staysSafe 38 = .ok (.ireturn, 1) := by decide +kernel
theorem dX7_staysSafe_39 : decode cX7_staysSafe 39 = .ok (.iconst 0, 1) := by decide +kernel
theorem dX7_staysSafe_40 : decode cX7_staysSafe 40 = .ok (.istore 4, 2) := by decide +kernel
theorem dX7_staysSafe_42 : decode cX7_staysSafe 42 = .ok (.iload 4, 2) := by decide +kernel
theorem dX7_staysSafe_44 : decode cX7_staysSafe 44 = .ok (.aload_n 0, 1) := by decide +kernel
theorem dX7_staysSafe_45 : decode cX7_staysSafe 45 = .ok (.getfield 58, 3) := by decide +kernel
theorem dX7_staysSafe_48 : decode cX7_staysSafe 48 = .ok (.invokevirtual 207, 3) := by decide +kernel
theorem dX7_staysSafe_51 : decode cX7_staysSafe 51 = .ok (.if_icmp .ge 33, 3) := by decide +kernel
theorem dX7_staysSafe_54 : decode cX7_staysSafe 54 = .ok (.aload_n 0, 1) := by decide +kernel
theorem dX7_staysSafe_55 : decode cX7_staysSafe 55 = .ok (.getfield 58, 3) := by decide +kernel
theorem dX7_staysSafe_58 : decode cX7_staysSafe 58 = .ok (.iload 4, 2) := by decide +kernel
theorem dX7_staysSafe_60 : decode cX7_staysSafe 60 = .ok (.invokevirtual 195, 3) := by decide +kernel
theorem dX7_staysSafe_63 : decode cX7_staysSafe 63 = .ok (.iload_n 1, 1) := by decide +kernel
theorem dX7_staysSafe_64 : decode cX7_staysSafe 64 = .ok (.if_icmp .ne 14, 3) := by decide +kernel
theorem dX7_staysSafe_67 : decode cX7_staysSafe 67 = .ok (.aload_n 0, 1) := by decide +kernel
theorem dX7_staysSafe_68 : decode cX7_staysSafe 68 = .ok (.iload 4, 2) := by decide +kernel
theorem dX7_staysSafe_70 : decode cX7_staysSafe 70 = .ok (.invokevirtual 330, 3) := by decide +kernel
theorem dX7_staysSafe_73 : decode cX7_staysSafe 73 = .ok (.ifCond .eq 5, 3) := by decide +kernel
theorem dX7_staysSafe_76 : decode cX7_staysSafe 76 = .ok (.iconst 0, 1) := by decide +kernel
theorem dX7_staysSafe_77 : decode cX7_staysSafe 77 = .ok (.ireturn, 1) := by decide +kernel
theorem dX7_staysSafe_78 : decode cX7_staysSafe 78 = .ok (.iinc 4 1, 3) := by decide +kernel
theorem dX7_staysSafe_81 : decode cX7_staysSafe 81 = .ok (.goto (-39), 3) := by decide +kernel
theorem dX7_staysSafe_84 : decode cX7_staysSafe 84 = .ok (.iconst 1, 1) := by decide +kernel
theorem dX7_staysSafe_85 : decode cX7_staysSafe 85 = .ok (.ireturn, 1) := by decide +kernel
theorem dX7_firstDoubled_0 : decode cX7_firstDoubled 0 = .ok (.iconst 1, 1) := by decide +kernel
theorem dX7_firstDoubled_1 : decode cX7_firstDoubled 1 = .ok (.istore_n 1, 1) := by decide +kernel
theorem dX7_firstDoubled_2 : decode cX7_firstDoubled 2 = .ok (.iload_n 1, 1) := by decide +kernel
theorem dX7_firstDoubled_3 : decode cX7_firstDoubled 3 = .ok (.aload_n 0, 1) := by decide +kernel
theorem dX7_firstDoubled_4 : decode cX7_firstDoubled 4 = .ok (.getfield 51, 3) := by decide +kernel
theorem dX7_firstDoubled_7 : decode cX7_firstDoubled 7 = .ok (.invokevirtual 198, 3) := by decide +kernel
theorem dX7_firstDoubled_10 : decode cX7_firstDoubled 10 = .ok (.if_icmp .ge 63, 3) := by decide +kernel
theorem dX7_firstDoubled_13 : decode cX7_firstDoubled 13 = .ok (.aload_n 0, 1) := by decide +kernel
theorem dX7_firstDoubled_14 : decode cX7_firstDoubled 14 = .ok (.iload_n 1, 1) := by decide +kernel
theorem dX7_firstDoubled_15 : decode cX7_firstDoubled 15 = .ok (.iconst 1, 1) := by decide +kernel
theorem dX7_firstDoubled_16 : decode cX7_firstDoubled 16 = .ok (.invokevirtual 199, 3) := by decide +kernel
theorem dX7_firstDoubled_19 : decode cX7_firstDoubled 19 = .ok (.astore_n 2, 1) := by decide +kernel
theorem dX7_firstDoubled_20 : decode cX7_firstDoubled 20 = .ok (.iconst 0, 1) := by decide +kernel
theorem dX7_firstDoubled_21 : decode cX7_firstDoubled 21 = .ok (.istore_n 3, 1) := by decide +kernel
theorem dX7_firstDoubled_22 : decode cX7_firstDoubled 22 = .ok (.iload_n 3, 1) := by decide +kernel
theorem dX7_firstDoubled_23 : decode cX7_firstDoubled 23 = .ok (.iload_n 1, 1) := by decide +kernel
theorem dX7_firstDoubled_24 : decode cX7_firstDoubled 24 = .ok (.if_icmp .ge 43, 3) := by decide +kernel
theorem dX7_firstDoubled_27 : decode cX7_firstDoubled 27 = .ok (.aload_n 0, 1) := by decide +kernel
theorem dX7_firstDoubled_28 : decode cX7_firstDoubled 28 = .ok (.getfield 51, 3) := by decide +kernel
theorem dX7_firstDoubled_31 : decode cX7_firstDoubled 31 = .ok (.iload_n 3, 1) := by decide +kernel
theorem dX7_firstDoubled_32 : decode cX7_firstDoubled 32 = .ok (.invokevirtual 161, 3) := by decide +kernel
theorem dX7_firstDoubled_35 : decode cX7_firstDoubled 35 = .ok (.aload_n 0, 1) := by decide +kernel
theorem dX7_firstDoubled_36 : decode cX7_firstDoubled 36 = .ok (.getfield 51, 3) := by decide +kernel
theorem dX7_firstDoubled_39 : decode cX7_firstDoubled 39 = .ok (.iload_n 1, 1) := by decide +kernel
theorem dX7_firstDoubled_40 : decode cX7_firstDoubled 40 = .ok (.invokevirtual 161, 3) := by decide +kernel
theorem dX7_firstDoubled_43 : decode cX7_firstDoubled 43 = .ok (.if_icmp .ne 18, 3) := by decide +kernel
theorem dX7_firstDoubled_46 : decode cX7_firstDoubled 46 = .ok (.aload_n 0, 1) := by decide +kernel
theorem dX7_firstDoubled_47 : decode cX7_firstDoubled 47 = .ok (.iload_n 3, 1) := by decide +kernel
theorem dX7_firstDoubled_48 : decode cX7_firstDoubled 48 = .ok (.iconst 1, 1) := by decide +kernel
theorem dX7_firstDoubled_49 : decode cX7_firstDoubled 49 = .ok (.invokevirtual 199, 3) := by decide +kernel
theorem dX7_firstDoubled_52 : decode cX7_firstDoubled 52 = .ok (.aload_n 2, 1) := by decide +kernel
theorem dX7_firstDoubled_53 : decode cX7_firstDoubled 53 = .ok (.invokevirtual 203, 3) := by decide +kernel
theorem dX7_firstDoubled_56 : decode cX7_firstDoubled 56 = .ok (.ifCond .eq 5, 3) := by decide +kernel
theorem dX7_firstDoubled_59 : decode cX7_firstDoubled 59 = .ok (.iload_n 1, 1) := by decide +kernel
theorem dX7_firstDoubled_60 : decode cX7_firstDoubled 60 = .ok (.ireturn, 1) := by decide +kernel
theorem dX7_firstDoubled_61 : decode cX7_firstDoubled 61 = .ok (.iinc 3 1, 3) := by decide +kernel
theorem dX7_firstDoubled_64 : decode cX7_firstDoubled 64 = .ok (.goto (-42), 3) := by decide +kernel
theorem dX7_firstDoubled_67 : decode cX7_firstDoubled 67 = .ok (.iinc 1 1, 3) := by decide +kernel
theorem dX7_firstDoubled_70 : decode cX7_firstDoubled 70 = .ok (.goto (-68), 3) := by decide +kernel
theorem dX7_firstDoubled_73 : decode cX7_firstDoubled 73 = .ok (.bipush (-2), 2) := by decide +kernel
theorem dX7_firstDoubled_75 : decode cX7_firstDoubled 75 = .ok (.ireturn, 1) := by decide +kernel
theorem dX7_firstStrayed_0 : decode cX7_firstStrayed 0 = .ok (.iconst 0, 1) := by decide +kernel
theorem dX7_firstStrayed_1 : decode cX7_firstStrayed 1 = .ok (.istore_n 1, 1) := by decide +kernel
theorem dX7_firstStrayed_2 : decode cX7_firstStrayed 2 = .ok (.iload_n 1, 1) := by decide +kernel
theorem dX7_firstStrayed_3 : decode cX7_firstStrayed 3 = .ok (.aload_n 0, 1) := by decide +kernel
theorem dX7_firstStrayed_4 : decode cX7_firstStrayed 4 = .ok (.getfield 58, 3) := by decide +kernel
theorem dX7_firstStrayed_7 : decode cX7_firstStrayed 7 = .ok (.invokevirtual 207, 3) := by decide +kernel
theorem dX7_firstStrayed_10 : decode cX7_firstStrayed 10 = .ok (.if_icmp .ge 19, 3) := by decide +kernel
theorem dX7_firstStrayed_13 : decode cX7_firstStrayed 13 = .ok (.aload_n 0, 1) := by decide +kernel
theorem dX7_firstStrayed_14 : decode cX7_firstStrayed 14 = .ok (.iload_n 1, 1) := by decide +kernel
theorem dX7_firstStrayed_15 : decode cX7_firstStrayed 15 = .ok (.invokevirtual 330, 3) := by decide +kernel
theorem dX7_firstStrayed_18 : decode cX7_firstStrayed 18 = .ok (.ifCond .eq 5, 3) := by decide +kernel
theorem dX7_firstStrayed_21 : decode cX7_firstStrayed 21 = .ok (.iload_n 1, 1) := by decide +kernel
theorem dX7_firstStrayed_22 : decode cX7_firstStrayed 22 = .ok (.ireturn, 1) := by decide +kernel
theorem dX7_firstStrayed_23 : decode cX7_firstStrayed 23 = .ok (.iinc 1 1, 3) := by decide +kernel
theorem dX7_firstStrayed_26 : decode cX7_firstStrayed 26 = .ok (.goto (-24), 3) := by decide +kernel
theorem dX7_firstStrayed_29 : decode cX7_firstStrayed 29 = .ok (.bipush (-2), 2) := by decide +kernel
theorem dX7_firstStrayed_31 : decode cX7_firstStrayed 31 = .ok (.ireturn, 1) := by decide +kernel
theorem dX7_isStrayed_0 : decode cX7_isStrayed 0 = .ok (.aload_n 0, 1) := by decide +kernel
theorem dX7_isStrayed_1 : decode cX7_isStrayed 1 = .ok (.getfield 58, 3) := by decide +kernel
theorem dX7_isStrayed_4 : decode cX7_isStrayed 4 = .ok (.iload_n 1, 1) := by decide +kernel
theorem dX7_isStrayed_5 : decode cX7_isStrayed 5 = .ok (.invokevirtual 195, 3) := by decide +kernel
theorem dX7_isStrayed_8 : decode cX7_isStrayed 8 = .ok (.istore_n 2, 1) := by decide +kernel
theorem dX7_isStrayed_9 : decode cX7_isStrayed 9 = .ok (.aload_n 0, 1) := by decide +kernel
theorem dX7_isStrayed_10 : decode cX7_isStrayed 10 = .ok (.aload_n 0, 1) := by decide +kernel
theorem dX7_isStrayed_11 : decode cX7_isStrayed 11 = .ok (.getfield 58, 3) := by decide +kernel
theorem dX7_isStrayed_14 : decode cX7_isStrayed 14 = .ok (.iload_n 1, 1) := by decide +kernel
theorem dX7_isStrayed_15 : decode cX7_isStrayed 15 = .ok (.invokevirtual 194, 3) := by decide +kernel
theorem dX7_isStrayed_18 : decode cX7_isStrayed 18 = .ok (.aload_n 0, 1) := by decide +kernel
theorem dX7_isStrayed_19 : decode cX7_isStrayed 19 = .ok (.iload_n 2, 1) := by decide +kernel
theorem dX7_isStrayed_20 : decode cX7_isStrayed 20 = .ok (.iconst 1, 1) := by decide +kernel
theorem dX7_isStrayed_21 : decode cX7_isStrayed 21 = .ok (.invokevirtual 199, 3) := by decide +kernel
theorem dX7_isStrayed_24 : decode cX7_isStrayed 24 = .ok (.iconst 1, 1) := by decide +kernel
theorem dX7_isStrayed_25 : decode cX7_isStrayed 25 = .ok (.invokevirtual 152, 3) := by decide +kernel
theorem dX7_isStrayed_28 : decode cX7_isStrayed 28 = .ok (.iload_n 2, 1) := by decide +kernel
theorem dX7_isStrayed_29 : decode cX7_isStrayed 29 = .ok (.if_icmp .eq 7, 3) := by decide +kernel
theorem dX7_isStrayed_32 : decode cX7_isStrayed 32 = .ok (.iconst 1, 1) := by decide +kernel
theorem dX7_isStrayed_33 : decode cX7_isStrayed 33 = .ok (.goto 4, 3) := by decide +kernel
theorem dX7_isStrayed_36 : decode cX7_isStrayed 36 = .ok (.iconst 0, 1) := by decide +kernel
theorem dX7_isStrayed_37 : decode cX7_isStrayed 37 = .ok (.ireturn, 1) := by decide +kernel
theorem dX7_isSmall_0 : decode cX7_isSmall 0 = .ok (.iload_n 0, 1) := by decide +kernel
theorem dX7_isSmall_1 : decode cX7_isSmall 1 = .ok (.bipush 97, 2) := by decide +kernel
theorem dX7_isSmall_3 : decode cX7_isSmall 3 = .ok (.if_icmp .lt 13, 3) := by decide +kernel
theorem dX7_isSmall_6 : decode cX7_isSmall 6 = .ok (.iload_n 0, 1) := by decide +kernel
theorem dX7_isSmall_7 : decode cX7_isSmall 7 = .ok (.bipush 122, 2) := by decide +kernel
theorem dX7_isSmall_9 : decode cX7_isSmall 9 = .ok (.if_icmp .gt 7, 3) := by decide +kernel
theorem dX7_isSmall_12 : decode cX7_isSmall 12 = .ok (.iconst 1, 1) := by decide +kernel
theorem dX7_isSmall_13 : decode cX7_isSmall 13 = .ok (.goto 4, 3) := by decide +kernel
theorem dX7_isSmall_16 : decode cX7_isSmall 16 = .ok (.iconst 0, 1) := by decide +kernel
theorem dX7_isSmall_17 : decode cX7_isSmall 17 = .ok (.ireturn, 1) := by decide +kernel
theorem dX7_isGreat_0 : decode cX7_isGreat 0 = .ok (.iload_n 0, 1) := by decide +kernel
theorem dX7_isGreat_1 : decode cX7_isGreat 1 = .ok (.bipush 65, 2) := by decide +kernel
theorem dX7_isGreat_3 : decode cX7_isGreat 3 = .ok (.if_icmp .lt 13, 3) := by decide +kernel
theorem dX7_isGreat_6 : decode cX7_isGreat 6 = .ok (.iload_n 0, 1) := by decide +kernel
theorem dX7_isGreat_7 : decode cX7_isGreat 7 = .ok (.bipush 90, 2) := by decide +kernel
theorem dX7_isGreat_9 : decode cX7_isGreat 9 = .ok (.if_icmp .gt 7, 3) := by decide +kernel
theorem dX7_isGreat_12 : decode cX7_isGreat 12 = .ok (.iconst 1, 1) := by decide +kernel
theorem dX7_isGreat_13 : decode cX7_isGreat 13 = .ok (.goto 4, 3) := by decide +kernel
theorem dX7_isGreat_16 : decode cX7_isGreat 16 = .ok (.iconst 0, 1) := by decide +kernel
theorem dX7_isGreat_17 : decode cX7_isGreat 17 = .ok (.ireturn, 1) := by decide +kernel
theorem dX7_isDigit_0 : decode cX7_isDigit 0 = .ok (.iload_n 0, 1) := by decide +kernel
theorem dX7_isDigit_1 : decode cX7_isDigit 1 = .ok (.bipush 48, 2) := by decide +kernel
theorem dX7_isDigit_3 : decode cX7_isDigit 3 = .ok (.if_icmp .lt 13, 3) := by decide +kernel
theorem dX7_isDigit_6 : decode cX7_isDigit 6 = .ok (.iload_n 0, 1) := by decide +kernel
theorem dX7_isDigit_7 : decode cX7_isDigit 7 = .ok (.bipush 57, 2) := by decide +kernel
theorem dX7_isDigit_9 : decode cX7_isDigit 9 = .ok (.if_icmp .gt 7, 3) := by decide +kernel
theorem dX7_isDigit_12 : decode cX7_isDigit 12 = .ok (.iconst 1, 1) := by decide +kernel
theorem dX7_isDigit_13 : decode cX7_isDigit 13 = .ok (.goto 4, 3) := by decide +kernel
theorem dX7_isDigit_16 : decode cX7_isDigit 16 = .ok (.iconst 0, 1) := by decide +kernel
theorem dX7_isDigit_17 : decode cX7_isDigit 17 = .ok (.ireturn, 1) := by decide +kernel
theorem dX7_isLetter_0 : decode cX7_isLetter 0 = .ok (.iload_n 0, 1) := by decide +kernel
theorem dX7_isLetter_1 : decode cX7_isLetter 1 = .ok (.invokestatic 333, 3) := by decide +kernel
theorem dX7_isLetter_4 : decode cX7_isLetter 4 = .ok (.ifCond .ne 10, 3) := by decide +kernel
theorem dX7_isLetter_7 : decode cX7_isLetter 7 = .ok (.iload_n 0, 1) := by decide +kernel
theorem dX7_isLetter_8 : decode cX7_isLetter 8 = .ok (.invokestatic 336, 3) := by decide +kernel
theorem dX7_isLetter_11 : decode cX7_isLetter 11 = .ok (.ifCond .eq 7, 3) := by decide +kernel
theorem dX7_isLetter_14 : decode cX7_isLetter 14 = .ok (.iconst 1, 1) := by decide +kernel
theorem dX7_isLetter_15 : decode cX7_isLetter 15 = .ok (.goto 4, 3) := by decide +kernel
theorem dX7_isLetter_18 : decode cX7_isLetter 18 = .ok (.iconst 0, 1) := by decide +kernel
theorem dX7_isLetter_19 : decode cX7_isLetter 19 = .ok (.ireturn, 1) := by decide +kernel
theorem dX7_smallOf_0 : decode cX7_smallOf 0 = .ok (.iload_n 0, 1) := by decide +kernel
theorem dX7_smallOf_1 : decode cX7_smallOf 1 = .ok (.invokestatic 336, 3) := by decide +kernel
theorem dX7_smallOf_4 : decode cX7_smallOf 4 = .ok (.ifCond .eq 13, 3) := by decide +kernel
theorem dX7_smallOf_7 : decode cX7_smallOf 7 = .ok (.iload_n 0, 1) := by decide +kernel
theorem dX7_smallOf_8 : decode cX7_smallOf 8 = .ok (.bipush 65, 2) := by decide +kernel
theorem dX7_smallOf_10 : decode cX7_smallOf 10 = .ok (.isub, 1) := by decide +kernel
theorem dX7_smallOf_11 : decode cX7_smallOf 11 = .ok (.bipush 97, 2) := by decide +kernel
theorem dX7_smallOf_13 : decode cX7_smallOf 13 = .ok (.iadd, 1) := by decide +kernel
theorem dX7_smallOf_14 : decode cX7_smallOf 14 = .ok (.goto 4, 3) := by decide +kernel
theorem dX7_smallOf_17 : decode cX7_smallOf 17 = .ok (.iload_n 0, 1) := by decide +kernel
theorem dX7_smallOf_18 : decode cX7_smallOf 18 = .ok (.ireturn, 1) := by decide +kernel
theorem dX7_greatOf_0 : decode cX7_greatOf 0 = .ok (.iload_n 0, 1) := by decide +kernel
theorem dX7_greatOf_1 : decode cX7_greatOf 1 = .ok (.invokestatic 333, 3) := by decide +kernel
theorem dX7_greatOf_4 : decode cX7_greatOf 4 = .ok (.ifCond .eq 13, 3) := by decide +kernel
theorem dX7_greatOf_7 : decode cX7_greatOf 7 = .ok (.iload_n 0, 1) := by decide +kernel
theorem dX7_greatOf_8 : decode cX7_greatOf 8 = .ok (.bipush 97, 2) := by decide +kernel
theorem dX7_greatOf_10 : decode cX7_greatOf 10 = .ok (.isub, 1) := by decide +kernel
theorem dX7_greatOf_11 : decode cX7_greatOf 11 = .ok (.bipush 65, 2) := by decide +kernel
theorem dX7_greatOf_13 : decode cX7_greatOf 13 = .ok (.iadd, 1) := by decide +kernel
theorem dX7_greatOf_14 : decode cX7_greatOf 14 = .ok (.goto 4, 3) := by decide +kernel
theorem dX7_greatOf_17 : decode cX7_greatOf 17 = .ok (.iload_n 0, 1) := by decide +kernel
theorem dX7_greatOf_18 : decode cX7_greatOf 18 = .ok (.ireturn, 1) := by decide +kernel
end
section
theorem dX8_thrown_0 : decode cX8_thrown 0 = .ok (.aload_n 0, 1) := by decide +kernel
theorem dX8_thrown_1 : decode cX8_thrown 1 = .ok (.getfield 1, 3) := by decide +kernel
theorem dX8_thrown_4 : decode cX8_thrown 4 = .ok (.ireturn, 1) := by decide +kernel
theorem dX8_refused_0 : decode cX8_refused 0 = .ok (.aload_n 0, 1) := by decide +kernel
theorem dX8_refused_1 : decode cX8_refused 1 = .ok (.iload_n 1, 1) := by decide +kernel
theorem dX8_refused_2 : decode cX8_refused 2 = .ok (.putfield 7, 3) := by decide +kernel
theorem dX8_refused_5 : decode cX8_refused 5 = .ok (.iconst (-1), 1) := by decide +kernel
theorem dX8_refused_6 : decode cX8_refused 6 = .ok (.ireturn, 1) := by decide +kernel
theorem dX8_denied_0 : decode cX8_denied 0 = .ok (.aload_n 0, 1) := by decide +kernel
theorem dX8_denied_1 : decode cX8_denied 1 = .ok (.iload_n 1, 1) := by decide +kernel
theorem dX8_denied_2 : decode cX8_denied 2 = .ok (.putfield 7, 3) := by decide +kernel
theorem dX8_denied_5 : decode cX8_denied 5 = .ok (.iconst 0, 1) := by decide +kernel
theorem dX8_denied_6 : decode cX8_denied 6 = .ok (.ireturn, 1) := by decide +kernel
theorem dX8_done_0 : decode cX8_done 0 = .ok (.aload_n 0, 1) := by decide +kernel
theorem dX8_done_1 : decode cX8_done 1 = .ok (.iconst 0, 1) := by decide +kernel
theorem dX8_done_2 : decode cX8_done 2 = .ok (.putfield 7, 3) := by decide +kernel
theorem dX8_done_5 : decode cX8_done 5 = .ok (.iload_n 1, 1) := by decide +kernel
theorem dX8_done_6 : decode cX8_done 6 = .ok (.ireturn, 1) := by decide +kernel
theorem dX8_granted_0 : decode cX8_granted 0 = .ok (.aload_n 0, 1) := by decide +kernel
theorem dX8_granted_1 : decode cX8_granted 1 = .ok (.iconst 0, 1) := by decide +kernel
theorem dX8_granted_2 : decode cX8_granted 2 = .ok (.putfield 7, 3) := by decide +kernel
theorem dX8_granted_5 : decode cX8_granted 5 = .ok (.iconst 1, 1) := by decide +kernel
theorem dX8_granted_6 : decode cX8_granted 6 = .ok (.ireturn, 1) := by decide +kernel
theorem dX8_in_0 : decode cX8_in 0 = .ok (.iload_n 0, 1) := by decide +kernel
theorem dX8_in_1 : decode cX8_in 1 = .ok (.iload_n 1, 1) := by decide +kernel
theorem dX8_in_2 : decode cX8_in 2 = .ok (.if_icmp .lt 12, 3) := by decide +kernel
theorem dX8_in_5 : decode cX8_in 5 = .ok (.iload_n 0, 1) := by decide +kernel
theorem dX8_in_6 : decode cX8_in 6 = .ok (.iload_n 2, 1) := by decide +kernel
theorem dX8_in_7 : decode cX8_in 7 = .ok (.if_icmp .gt 7, 3) := by decide +kernel
theorem dX8_in_10 : decode cX8_in 10 = .ok (.iconst 1, 1) := by decide +kernel
theorem dX8_in_11 : decode cX8_in 11 = .ok (.goto 4, 3) := by decide +kernel
theorem dX8_in_14 : decode cX8_in 14 = .ok (.iconst 0, 1) := by decide +kernel
theorem dX8_in_15 : decode cX8_in 15 = .ok (.ireturn, 1) := by decide +kernel
theorem dX8_feed_0 : decode cX8_feed 0 = .ok (.aload_n 0, 1) := by decide +kernel
theorem dX8_feed_1 : decode cX8_feed 1 = .ok (.iconst 0, 1) := by decide +kernel
theorem dX8_feed_2 : decode cX8_feed 2 = .ok (.putfield 1, 3) := by decide +kernel
theorem dX8_feed_5 : decode cX8_feed 5 = .ok (.aload_n 0, 1) := by decide +kernel
theorem dX8_feed_6 : decode cX8_feed 6 = .ok (.getfield 10, 3) := by decide +kernel
theorem dX8_feed_9 : decode cX8_feed 9 = .ok (.bipush 20, 2) := by decide +kernel
theorem dX8_feed_11 : decode cX8_feed 11 = .ok (.iadd, 1) := by decide +kernel
theorem dX8_feed_12 : decode cX8_feed 12 = .ok (.sipush 200, 3) := by decide +kernel
theorem dX8_feed_15 : decode cX8_feed 15 = .ok (.if_icmp .le 5, 3) := by decide +kernel
theorem dX8_feed_18 : decode cX8_feed 18 = .ok (.iconst (-1), 1) := by decide +kernel
theorem dX8_feed_19 : decode cX8_feed 19 = .ok (.ireturn, 1) := by decide +kernel
theorem dX8_feed_20 : decode cX8_feed 20 = .ok (.iconst 0, 1) := by decide +kernel
theorem dX8_feed_21 : decode cX8_feed 21 = .ok (.istore 6, 2) := by decide +kernel
theorem dX8_feed_23 : decode cX8_feed 23 = .ok (.iload 6, 2) := by decide +kernel
theorem dX8_feed_25 : decode cX8_feed 25 = .ok (.bipush 20, 2) := by decide +kernel
theorem dX8_feed_27 : decode cX8_feed 27 = .ok (.if_icmp .ge 90, 3) := by decide +kernel
theorem dX8_feed_30 : decode cX8_feed 30 = .ok (.iload 6, 2) := by decide +kernel
theorem dX8_feed_32 : decode cX8_feed 32 = .ok (.iconst 4, 1) := by decide +kernel
theorem dX8_feed_33 : decode cX8_feed 33 = .ok (.if_icmp .ge 7, 3) := by decide +kernel
theorem dX8_feed_36 : decode cX8_feed 36 = .ok (.iload_n 1, 1) := by decide +kernel
theorem dX8_feed_37 : decode cX8_feed 37 = .ok (.goto 39, 3) := by decide +kernel
theorem dX8_feed_40 : decode cX8_feed 40 = .ok (.iload 6, 2) := by decide +kernel
theorem dX8_feed_42 : decode cX8_feed 42 = .ok (.bipush 8, 2) := by decide +kernel
theorem dX8_feed_44 : decode cX8_feed 44 = .ok (.if_icmp .ge 7, 3) := by decide +kernel
theorem dX8_feed_47 : decode cX8_feed 47 = .ok (.iload_n 2, 1) := by decide +kernel
theorem dX8_feed_48 : decode cX8_feed 48 = .ok (.goto 28, 3) := by decide +kernel
theorem dX8_feed_51 : decode cX8_feed 51 = .ok (.iload 6, 2) := by decide +kernel
theorem dX8_feed_53 : decode cX8_feed 53 = .ok (.bipush 12, 2) := by decide +kernel
theorem dX8_feed_55 : decode cX8_feed 55 = .ok (.if_icmp .ge 7, 3) := by decide +kernel
theorem dX8_feed_58 : decode cX8_feed 58 = .ok (.iload_n 3, 1) := by decide +kernel
theorem dX8_feed_59 : decode cX8_feed 59 = .ok (.goto 17, 3) := by decide +kernel
theorem dX8_feed_62 : decode cX8_feed 62 = .ok (.iload 6, 2) := by decide +kernel
theorem dX8_feed_64 : decode cX8_feed 64 = .ok (.bipush 16, 2) := by decide +kernel
theorem dX8_feed_66 : decode cX8_feed 66 = .ok (.if_icmp .ge 8, 3) := by decide +kernel
theorem dX8_feed_69 : decode cX8_feed 69 = .ok (.iload 4, 2) := by decide +kernel
theorem dX8_feed_71 : decode cX8_feed 71 = .ok (.goto 5, 3) := by decide +kernel
theorem dX8_feed_74 : decode cX8_feed 74 = .ok (.iload 5, 2) := by decide +kernel
theorem dX8_feed_76 : decode cX8_feed 76 = .ok (.istore 7, 2) := by decide +kernel
theorem dX8_feed_78 : decode cX8_feed 78 = .ok (.aload_n 0, 1) := by decide +kernel
theorem dX8_feed_79 : decode cX8_feed 79 = .ok (.getfield 13, 3) := by decide +kernel
theorem dX8_feed_82 : decode cX8_feed 82 = .ok (.aload_n 0, 1) := by decide +kernel
theorem dX8_feed_83 : decode cX8_feed 83 = .ok (.getfield 10, 3) := by decide +kernel
theorem dX8_feed_86 : decode cX8_feed 86 = .ok (.iload 7, 2) := by decide +kernel
theorem dX8_feed_88 : decode cX8_feed 88 = .ok (.bipush 24, 2) := by decide +kernel
theorem dX8_feed_90 : decode cX8_feed 90 = .ok (.bipush 8, 2) := by decide +kernel
theorem dX8_feed_92 : decode cX8_feed 92 = .ok (.iload 6, 2) := by decide +kernel
theorem dX8_feed_94 : decode cX8_feed 94 = .ok (.iconst 4, 1) := by decide +kernel
theorem dX8_feed_95 : decode cX8_feed 95 = .ok (.irem, 1) := by decide +kernel
theorem dX8_feed_96 : decode cX8_feed 96 = .ok (.imul, 1) := by decide +kernel
theorem dX8_feed_97 : decode cX8_feed 97 = .ok (.isub, 1) := by decide +kernel
theorem dX8_feed_98 : decode cX8_feed 98 = .ok (.ishr, 1) := by decide +kernel
theorem dX8_feed_99 : decode cX8_feed 99 = .ok (.i2b, 1) := by decide +kernel
theorem dX8_feed_100 : decode cX8_feed 100 = .ok (.bastore, 1) := by decide +kernel
theorem dX8_feed_101 : decode cX8_feed 101 = .ok (.aload_n 0, 1) := by decide +kernel
theorem dX8_feed_102 : decode cX8_feed 102 = .ok (.dup, 1) := by decide +kernel
theorem dX8_feed_103 : decode cX8_feed 103 = .ok (.getfield 10, 3) := by decide +kernel
theorem dX8_feed_106 : decode cX8_feed 106 = .ok (.iconst 1, 1) := by decide +kernel
theorem dX8_feed_107 : decode cX8_feed 107 = .ok (.iadd, 1) := by decide +kernel
theorem dX8_feed_108 : decode cX8_feed 108 = .ok (.putfield 10, 3) := by decide +kernel
theorem dX8_feed_111 : decode cX8_feed 111 = .ok (.iinc 6 1, 3) := by decide +kernel
theorem dX8_feed_114 : decode cX8_feed 114 = .ok (.goto (-91), 3) := by decide +kernel
theorem dX8_feed_117 : decode cX8_feed 117 = .ok (.aload_n 0, 1) := by decide +kernel
theorem dX8_feed_118 : decode cX8_feed 118 = .ok (.getfield 10, 3) := by decide +kernel
theorem dX8_feed_121 : decode cX8_feed 121 = .ok (.ireturn, 1) := by decide +kernel
theorem dX8_isTaped_0 : decode cX8_isTaped 0 = .ok (.iload_n 1, 1) := by decide +kernel
theorem dX8_isTaped_1 : decode cX8_isTaped 1 = .ok (.ifCond .lt 15, 3) := by decide +kernel
theorem dX8_isTaped_4 : decode cX8_isTaped 4 = .ok (.iload_n 1, 1) := by decide +kernel
theorem dX8_isTaped_5 : decode cX8_isTaped 5 = .ok (.aload_n 0, 1) := by decide +kernel
theorem dX8_isTaped_6 : decode cX8_isTaped 6 = .ok (.getfield 10, 3) := by decide +kernel
theorem dX8_isTaped_9 : decode cX8_isTaped 9 = .ok (.if_icmp .gt 7, 3) := by decide +kernel
theorem dX8_isTaped_12 : decode cX8_isTaped 12 = .ok (.iconst 1, 1) := by decide +kernel
theorem dX8_isTaped_13 : decode cX8_isTaped 13 = .ok (.goto 4, 3) := by decide +kernel
theorem dX8_isTaped_16 : decode cX8_isTaped 16 = .ok (.iconst 0, 1) := by decide +kernel
theorem dX8_isTaped_17 : decode cX8_isTaped 17 = .ok (.ireturn, 1) := by decide +kernel
theorem dX8_isSmall_0 : decode cX8_isSmall 0 = .ok (.iload_n 0, 1) := by decide +kernel
theorem dX8_isSmall_1 : decode cX8_isSmall 1 = .ok (.bipush 97, 2) := by decide +kernel
theorem dX8_isSmall_3 : decode cX8_isSmall 3 = .ok (.if_icmp .lt 13, 3) := by decide +kernel
theorem dX8_isSmall_6 : decode cX8_isSmall 6 = .ok (.iload_n 0, 1) := by decide +kernel
theorem dX8_isSmall_7 : decode cX8_isSmall 7 = .ok (.bipush 122, 2) := by decide +kernel
theorem dX8_isSmall_9 : decode cX8_isSmall 9 = .ok (.if_icmp .gt 7, 3) := by decide +kernel
theorem dX8_isSmall_12 : decode cX8_isSmall 12 = .ok (.iconst 1, 1) := by decide +kernel
theorem dX8_isSmall_13 : decode cX8_isSmall 13 = .ok (.goto 4, 3) := by decide +kernel
theorem dX8_isSmall_16 : decode cX8_isSmall 16 = .ok (.iconst 0, 1) := by decide +kernel
theorem dX8_isSmall_17 : decode cX8_isSmall 17 = .ok (.ireturn, 1) := by decide +kernel
theorem dX8_isGreat_0 : decode cX8_isGreat 0 = .ok (.iload_n 0, 1) := by decide +kernel
theorem dX8_isGreat_1 : decode cX8_isGreat 1 = .ok (.bipush 65, 2) := by decide +kernel
theorem dX8_isGreat_3 : decode cX8_isGreat 3 = .ok (.if_icmp .lt 13, 3) := by decide +kernel
theorem dX8_isGreat_6 : decode cX8_isGreat 6 = .ok (.iload_n 0, 1) := by decide +kernel
theorem dX8_isGreat_7 : decode cX8_isGreat 7 = .ok (.bipush 90, 2) := by decide +kernel
theorem dX8_isGreat_9 : decode cX8_isGreat 9 = .ok (.if_icmp .gt 7, 3) := by decide +kernel
theorem dX8_isGreat_12 : decode cX8_isGreat 12 = .ok (.iconst 1, 1) := by decide +kernel
theorem dX8_isGreat_13 : decode cX8_isGreat 13 = .ok (.goto 4, 3) := by decide +kernel
theorem dX8_isGreat_16 : decode cX8_isGreat 16 = .ok (.iconst 0, 1) := by decide +kernel
theorem dX8_isGreat_17 : decode cX8_isGreat 17 = .ok (.ireturn, 1) := by decide +kernel
theorem dX8_isDigit_0 : decode cX8_isDigit 0 = .ok (.iload_n 0, 1) := by decide +kernel
theorem dX8_isDigit_1 : decode cX8_isDigit 1 = .ok (.bipush 48, 2) := by decide +kernel
theorem dX8_isDigit_3 : decode cX8_isDigit 3 = .ok (.if_icmp .lt 13, 3) := by decide +kernel
theorem dX8_isDigit_6 : decode cX8_isDigit 6 = .ok (.iload_n 0, 1) := by decide +kernel
theorem dX8_isDigit_7 : decode cX8_isDigit 7 = .ok (.bipush 57, 2) := by decide +kernel
theorem dX8_isDigit_9 : decode cX8_isDigit 9 = .ok (.if_icmp .gt 7, 3) := by decide +kernel
theorem dX8_isDigit_12 : decode cX8_isDigit 12 = .ok (.iconst 1, 1) := by decide +kernel
theorem dX8_isDigit_13 : decode cX8_isDigit 13 = .ok (.goto 4, 3) := by decide +kernel
theorem dX8_isDigit_16 : decode cX8_isDigit 16 = .ok (.iconst 0, 1) := by decide +kernel
theorem dX8_isDigit_17 : decode cX8_isDigit 17 = .ok (.ireturn, 1) := by decide +kernel
theorem dX8_isLetter_0 : decode cX8_isLetter 0 = .ok (.iload_n 0, 1) := by decide +kernel
theorem dX8_isLetter_1 : decode cX8_isLetter 1 = .ok (.invokestatic 17, 3) := by decide +kernel
theorem dX8_isLetter_4 : decode cX8_isLetter 4 = .ok (.ifCond .ne 10, 3) := by decide +kernel
theorem dX8_isLetter_7 : decode cX8_isLetter 7 = .ok (.iload_n 0, 1) := by decide +kernel
theorem dX8_isLetter_8 : decode cX8_isLetter 8 = .ok (.invokestatic 21, 3) := by decide +kernel
theorem dX8_isLetter_11 : decode cX8_isLetter 11 = .ok (.ifCond .eq 7, 3) := by decide +kernel
theorem dX8_isLetter_14 : decode cX8_isLetter 14 = .ok (.iconst 1, 1) := by decide +kernel
theorem dX8_isLetter_15 : decode cX8_isLetter 15 = .ok (.goto 4, 3) := by decide +kernel
theorem dX8_isLetter_18 : decode cX8_isLetter 18 = .ok (.iconst 0, 1) := by decide +kernel
theorem dX8_isLetter_19 : decode cX8_isLetter 19 = .ok (.ireturn, 1) := by decide +kernel
theorem dX8_isName_0 : decode cX8_isName 0 = .ok (.iload_n 2, 1) := by decide +kernel
theorem dX8_isName_1 : decode cX8_isName 1 = .ok (.iconst 1, 1) := by decide +kernel
theorem dX8_isName_2 : decode cX8_isName 2 = .ok (.bipush 24, 2) := by decide +kernel
theorem dX8_isName_4 : decode cX8_isName 4 = .ok (.invokestatic 24, 3) := by decide +kernel
theorem dX8_isName_7 : decode cX8_isName 7 = .ok (.ifCond .eq 12, 3) := by decide +kernel
theorem dX8_isName_10 : decode cX8_isName 10 = .ok (.aload_n 0, 1) := by decide +kernel
theorem dX8_isName_11 : decode cX8_isName 11 = .ok (.iload_n 1, 1) := by decide +kernel
theorem dX8_isName_12 : decode cX8_isName 12 = .ok (.baload, 1) := by decide +kernel
theorem dX8_isName_13 : decode cX8_isName 13 = .ok (.invokestatic 28, 3) := by decide +kernel
theorem dX8_isName_16 : decode cX8_isName 16 = .ok (.ifCond .eq 5, 3) := by decide +kernel
theorem dX8_isName_19 : decode cX8_isName 19 = .ok (.iconst 0, 1) := by decide +kernel
theorem dX8_isName_20 : decode cX8_isName 20 = .ok (.ireturn, 1) := by decide +kernel
theorem dX8_isName_21 : decode cX8_isName 21 = .ok (.iconst 1, 1) := by decide +kernel
theorem dX8_isName_22 : decode cX8_isName 22 = .ok (.istore_n 3, 1) := by decide +kernel
theorem dX8_isName_23 : decode cX8_isName 23 = .ok (.iconst 0, 1) := by decide +kernel
theorem dX8_isName_24 : decode cX8_isName 24 = .ok (.istore 4, 2) := by decide +kernel
theorem dX8_isName_26 : decode cX8_isName 26 = .ok (.iload_n 1, 1) := by decide +kernel
theorem dX8_isName_27 : decode cX8_isName 27 = .ok (.istore 5, 2) := by decide +kernel
theorem dX8_isName_29 : decode cX8_isName 29 = .ok (.iload 5, 2) := by decide +kernel
theorem dX8_isName_31 : decode cX8_isName 31 = .ok (.iload_n 1, 1) := by decide +kernel
theorem dX8_isName_32 : decode cX8_isName 32 = .ok (.iload_n 2, 1) := by decide +kernel
theorem dX8_isName_33 : decode cX8_isName 33 = .ok (.iadd, 1) := by decide +kernel
theorem dX8_isName_34 : decode cX8_isName 34 = .ok (.if_icmp .ge 70, 3) := by decide +kernel
theorem dX8_isName_37 : decode cX8_isName 37 = .ok (.iload_n 3, 1) := by decide +kernel
theorem dX8_isName_38 : decode cX8_isName 38 = .ok (.ifCond .eq 36, 3) := by decide +kernel
theorem dX8_isName_41 : decode cX8_isName 41 = .ok (.aload_n 0, 1) := by decide +kernel
theorem dX8_isName_42 : decode cX8_isName 42 = .ok (.iload 5, 2) := by decide +kernel
theorem dX8_isName_44 : decode cX8_isName 44 = .ok (.baload, 1) := by decide +kernel
theorem dX8_isName_45 : decode cX8_isName 45 = .ok (.invokestatic 31, 3) := by decide +kernel
theorem dX8_isName_48 : decode cX8_isName 48 = .ok (.ifCond .ne 22, 3) := by decide +kernel
theorem dX8_isName_51 : decode cX8_isName 51 = .ok (.aload_n 0, 1) := by decide +kernel
theorem dX8_isName_52 : decode cX8_isName 52 = .ok (.iload 5, 2) := by decide +kernel
theorem dX8_isName_54 : decode cX8_isName 54 = .ok (.baload, 1) := by decide +kernel
theorem dX8_isName_55 : decode cX8_isName 55 = .ok (.invokestatic 28, 3) := by decide +kernel
theorem dX8_isName_58 : decode cX8_isName 58 = .ok (.ifCond .ne 12, 3) := by decide +kernel
theorem dX8_isName_61 : decode cX8_isName 61 = .ok (.aload_n 0, 1) := by decide +kernel
theorem dX8_isName_62 : decode cX8_isName 62 = .ok (.iload 5, 2) := by decide +kernel
theorem dX8_isName_64 : decode cX8_isName 64 = .ok (.baload, 1) := by decide +kernel
theorem dX8_isName_65 : decode cX8_isName 65 = .ok (.bipush 95, 2) := by decide +kernel
theorem dX8_isName_67 : decode cX8_isName 67 = .ok (.if_icmp .ne 7, 3) := by decide +kernel
theorem dX8_isName_70 : decode cX8_isName 70 = .ok (.iconst 1, 1) := by decide +kernel
theorem dX8_isName_71 : decode cX8_isName 71 = .ok (.goto 4, 3) := by decide +kernel
theorem dX8_isName_74 : decode cX8_isName 74 = .ok (.iconst 0, 1) := by decide +kernel
theorem dX8_isName_75 : decode cX8_isName 75 = .ok (.istore_n 3, 1) := by decide +kernel
theorem dX8_isName_76 : decode cX8_isName 76 = .ok (.iload 4, 2) := by decide +kernel
theorem dX8_isName_78 : decode cX8_isName 78 = .ok (.ifCond .ne 13, 3) := by decide +kernel
theorem dX8_isName_81 : decode cX8_isName 81 = .ok (.aload_n 0, 1) := by decide +kernel
theorem dX8_isName_82 : decode cX8_isName 82 = .ok (.iload 5, 2) := by decide +kernel
theorem dX8_isName_84 : decode cX8_isName 84 = .ok (.baload, 1) := by decide +kernel
theorem dX8_isName_85 : decode cX8_isName 85 = .ok (.invokestatic 31, 3) := by decide +kernel
theorem dX8_isName_88 : decode cX8_isName 88 = .ok (.ifCond .eq 7, 3) := by decide +kernel
theorem dX8_isName_91 : decode cX8_isName 91 = .ok (.iconst 1, 1) := by decide +kernel
theorem dX8_isName_92 : decode cX8_isName 92 = .ok (.goto 4, 3) := by decide +kernel
theorem dX8_isName_95 : decode cX8_isName 95 = .ok (.iconst 0, 1) := by decide +kernel
theorem dX8_isName_96 : decode cX8_isName 96 = .ok (.istore 4, 2) := by decide +kernel
theorem dX8_isName_98 : decode cX8_isName 98 = .ok (.iinc 5 1, 3) := by decide +kernel
theorem dX8_isName_101 : decode cX8_isName 101 = .ok (.goto (-72), 3) := by decide +kernel
theorem dX8_isName_104 : decode cX8_isName 104 = .ok (.iload_n 3, 1) := by decide +kernel
theorem dX8_isName_105 : decode cX8_isName 105 = .ok (.ifCond .eq 12, 3) := by decide +kernel
theorem dX8_isName_108 : decode cX8_isName 108 = .ok (.iload 4, 2) := by decide +kernel
theorem dX8_isName_110 : decode cX8_isName 110 = .ok (.ifCond .eq 7, 3) := by decide +kernel
theorem dX8_isName_113 : decode cX8_isName 113 = .ok (.iconst 1, 1) := by decide +kernel
theorem dX8_isName_114 : decode cX8_isName 114 = .ok (.goto 4, 3) := by decide +kernel
theorem dX8_isName_117 : decode cX8_isName 117 = .ok (.iconst 0, 1) := by decide +kernel
theorem dX8_isName_118 : decode cX8_isName 118 = .ok (.ireturn, 1) := by decide +kernel
theorem dX8_isSame_0 : decode cX8_isSame 0 = .ok (.iload_n 2, 1) := by decide +kernel
theorem dX8_isSame_1 : decode cX8_isSame 1 = .ok (.iload 5, 2) := by decide +kernel
theorem dX8_isSame_3 : decode cX8_isSame 3 = .ok (.if_icmp .ne 7, 3) := by decide +kernel
theorem dX8_isSame_6 : decode cX8_isSame 6 = .ok (.iconst 1, 1) := by decide +kernel
theorem dX8_isSame_7 : decode cX8_isSame 7 = .ok (.goto 4, 3) := by decide +kernel
theorem dX8_isSame_10 : decode cX8_isSame 10 = .ok (.iconst 0, 1) := by decide +kernel
theorem dX8_isSame_11 : decode cX8_isSame 11 = .ok (.istore 6, 2) := by decide +kernel
theorem dX8_isSame_13 : decode cX8_isSame 13 = .ok (.iconst 0, 1) := by decide +kernel
theorem dX8_isSame_14 : decode cX8_isSame 14 = .ok (.istore 7, 2) := by decide +kernel
theorem dX8_isSame_16 : decode cX8_isSame 16 = .ok (.iload 7, 2) := by decide +kernel
theorem dX8_isSame_18 : decode cX8_isSame 18 = .ok (.iload_n 2, 1) := by decide +kernel
theorem dX8_isSame_19 : decode cX8_isSame 19 = .ok (.if_icmp .ge 37, 3) := by decide +kernel
theorem dX8_isSame_22 : decode cX8_isSame 22 = .ok (.iload 6, 2) := by decide +kernel
theorem dX8_isSame_24 : decode cX8_isSame 24 = .ok (.ifCond .eq 32, 3) := by decide +kernel
theorem dX8_isSame_27 : decode cX8_isSame 27 = .ok (.aload_n 0, 1) := by decide +kernel
theorem dX8_isSame_28 : decode cX8_isSame 28 = .ok (.iload_n 1, 1) := by decide +kernel
theorem dX8_isSame_29 : decode cX8_isSame 29 = .ok (.iload 7, 2) := by decide +kernel
theorem dX8_isSame_31 : decode cX8_isSame 31 = .ok (.iadd, 1) := by decide +kernel
theorem dX8_isSame_32 : decode cX8_isSame 32 = .ok (.baload, 1) := by decide +kernel
theorem dX8_isSame_33 : decode cX8_isSame 33 = .ok (.aload_n 3, 1) := by decide +kernel
theorem dX8_isSame_34 : decode cX8_isSame 34 = .ok (.iload 4, 2) := by decide +kernel
theorem dX8_isSame_36 : decode cX8_isSame 36 = .ok (.iload 7, 2) := by decide +kernel
theorem dX8_isSame_38 : decode cX8_isSame 38 = .ok (.iadd, 1) := by decide +kernel
theorem dX8_isSame_39 : decode cX8_isSame 39 = .ok (.baload, 1) := by decide +kernel
theorem dX8_isSame_40 : decode cX8_isSame 40 = .ok (.if_icmp .ne 7, 3) := by decide +kernel
theorem dX8_isSame_43 : decode cX8_isSame 43 = .ok (.iconst 1, 1) := by decide +kernel
theorem dX8_isSame_44 : decode cX8_isSame 44 = .ok (.goto 4, 3) := by decide +kernel
theorem dX8_isSame_47 : decode cX8_isSame 47 = .ok (.iconst 0, 1) := by decide +kernel
theorem dX8_isSame_48 : decode cX8_isSame 48 = .ok (.istore 6, 2) := by decide +kernel
theorem dX8_isSame_50 : decode cX8_isSame 50 = .ok (.iinc 7 1, 3) := by decide +kernel
theorem dX8_isSame_53 : decode cX8_isSame 53 = .ok (.goto (-37), 3) := by decide +kernel
theorem dX8_isSame_56 : decode cX8_isSame 56 = .ok (.iload 6, 2) := by decide +kernel
theorem dX8_isSame_58 : decode cX8_isSame 58 = .ok (.ireturn, 1) := by decide +kernel
theorem dX8_init_0 : decode cX8_init 0 = .ok (.aload_n 0, 1) := by decide +kernel
theorem dX8_init_1 : decode cX8_init 1 = .ok (.invokespecial 34, 3) := by decide +kernel
theorem dX8_init_4 : decode cX8_init 4 = .ok (.aload_n 0, 1) := by decide +kernel
theorem dX8_init_5 : decode cX8_init 5 = .ok (.sipush 200, 3) := by decide +kernel
theorem dX8_init_8 : decode cX8_init 8 = .ok (.newarray .byte, 2) := by decide +kernel
theorem dX8_init_10 : decode cX8_init 10 = .ok (.putfield 13, 3) := by decide +kernel
theorem dX8_init_13 : decode cX8_init 13 = .ok (.aload_n 0, 1) := by decide +kernel
theorem dX8_init_14 : decode cX8_init 14 = .ok (.iconst 1, 1) := by decide +kernel
theorem dX8_init_15 : decode cX8_init 15 = .ok (.putfield 40, 3) := by decide +kernel
theorem dX8_init_18 : decode cX8_init 18 = .ok (.aload_n 0, 1) := by decide +kernel
theorem dX8_init_19 : decode cX8_init 19 = .ok (.bipush 20, 2) := by decide +kernel
theorem dX8_init_21 : decode cX8_init 21 = .ok (.newarray .int, 2) := by decide +kernel
theorem dX8_init_23 : decode cX8_init 23 = .ok (.putfield 43, 3) := by decide +kernel
theorem dX8_init_26 : decode cX8_init 26 = .ok (.aload_n 0, 1) := by decide +kernel
theorem dX8_init_27 : decode cX8_init 27 = .ok (.bipush 80, 2) := by decide +kernel
theorem dX8_init_29 : decode cX8_init 29 = .ok (.newarray .int, 2) := by decide +kernel
theorem dX8_init_31 : decode cX8_init 31 = .ok (.putfield 47, 3) := by decide +kernel
theorem dX8_init_34 : decode cX8_init 34 = .ok (.aload_n 0, 1) := by decide +kernel
theorem dX8_init_35 : decode cX8_init 35 = .ok (.bipush 80, 2) := by decide +kernel
theorem dX8_init_37 : decode cX8_init 37 = .ok (.newarray .int, 2) := by decide +kernel
theorem dX8_init_39 : decode cX8_init 39 = .ok (.putfield 50, 3) := by decide +kernel
theorem dX8_init_42 : decode cX8_init 42 = .ok (.aload_n 0, 1) := by decide +kernel
theorem dX8_init_43 : decode cX8_init 43 = .ok (.bipush 80, 2) := by decide +kernel
theorem dX8_init_45 : decode cX8_init 45 = .ok (.newarray .int, 2) := by decide +kernel
theorem dX8_init_47 : decode cX8_init 47 = .ok (.putfield 53, 3) := by decide +kernel
theorem dX8_init_50 : decode cX8_init 50 = .ok (.aload_n 0, 1) := by decide +kernel
theorem dX8_init_51 : decode cX8_init 51 = .ok (.sipush 150, 3) := by decide +kernel
theorem dX8_init_54 : decode cX8_init 54 = .ok (.newarray .int, 2) := by decide +kernel
theorem dX8_init_56 : decode cX8_init 56 = .ok (.putfield 56, 3) := by decide +kernel
theorem dX8_init_59 : decode cX8_init 59 = .ok (.aload_n 0, 1) := by decide +kernel
theorem dX8_init_60 : decode cX8_init 60 = .ok (.sipush 150, 3) := by decide +kernel
theorem dX8_init_63 : decode cX8_init 63 = .ok (.newarray .int, 2) := by decide +kernel
theorem dX8_init_65 : decode cX8_init 65 = .ok (.putfield 59, 3) := by decide +kernel
theorem dX8_init_68 : decode cX8_init 68 = .ok (.aload_n 0, 1) := by decide +kernel
theorem dX8_init_69 : decode cX8_init 69 = .ok (.sipush 1920, 3) := by decide +kernel
theorem dX8_init_72 : decode cX8_init 72 = .ok (.newarray .byte, 2) := by decide +kernel
theorem dX8_init_74 : decode cX8_init 74 = .ok (.putfield 62, 3) := by decide +kernel
theorem dX8_init_77 : decode cX8_init 77 = .ok (.aload_n 0, 1) := by decide +kernel
theorem dX8_init_78 : decode cX8_init 78 = .ok (.bipush 24, 2) := by decide +kernel
theorem dX8_init_80 : decode cX8_init 80 = .ok (.newarray .int, 2) := by decide +kernel
theorem dX8_init_82 : decode cX8_init 82 = .ok (.putfield 65, 3) := by decide +kernel
theorem dX8_init_85 : decode cX8_init 85 = .ok (.aload_n 0, 1) := by decide +kernel
theorem dX8_init_86 : decode cX8_init 86 = .ok (.bipush 24, 2) := by decide +kernel
theorem dX8_init_88 : decode cX8_init 88 = .ok (.newarray .int, 2) := by decide +kernel
theorem dX8_init_90 : decode cX8_init 90 = .ok (.putfield 68, 3) := by decide +kernel
theorem dX8_init_93 : decode cX8_init 93 = .ok (.aload_n 0, 1) := by decide +kernel
theorem dX8_init_94 : decode cX8_init 94 = .ok (.sipush 720, 3) := by decide +kernel
theorem dX8_init_97 : decode cX8_init 97 = .ok (.newarray .byte, 2) := by decide +kernel
theorem dX8_init_99 : decode cX8_init 99 = .ok (.putfield 71, 3) := by decide +kernel
theorem dX8_init_102 : decode cX8_init 102 = .ok (.aload_n 0, 1) := by decide +kernel
theorem dX8_init_103 : decode cX8_init 103 = .ok (.bipush 60, 2) := by decide +kernel
theorem dX8_init_105 : decode cX8_init 105 = .ok (.newarray .int, 2) := by decide +kernel
theorem dX8_init_107 : decode cX8_init 107 = .ok (.putfield 74, 3) := by decide +kernel
theorem dX8_init_110 : decode cX8_init 110 = .ok (.aload_n 0, 1) := by decide +kernel
theorem dX8_init_111 : decode cX8_init 111 = .ok (.bipush 60, 2) := by decide +kernel
theorem dX8_init_113 : decode cX8_init 113 = .ok (.newarray .int, 2) := by decide +kernel
theorem dX8_init_115 : decode cX8_init 115 = .ok (.putfield 77, 3) := by decide +kernel
theorem dX8_init_118 : decode cX8_init 118 = .ok (.aload_n 0, 1) := by decide +kernel
theorem dX8_init_119 : decode cX8_init 119 = .ok (.bipush 60, 2) := by decide +kernel
theorem dX8_init_121 : decode cX8_init 121 = .ok (.newarray .int, 2) := by decide +kernel
theorem dX8_init_123 : decode cX8_init 123 = .ok (.putfield 80, 3) := by decide +kernel
theorem dX8_init_126 : decode cX8_init 126 = .ok (.aload_n 0, 1) := by decide +kernel
theorem dX8_init_127 : decode cX8_init 127 = .ok (.bipush 60, 2) := by decide +kernel
theorem dX8_init_129 : decode cX8_init 129 = .ok (.newarray .int, 2) := by decide +kernel
theorem dX8_init_131 : decode cX8_init 131 = .ok (.putfield 83, 3) := by decide +kernel
theorem dX8_init_134 : decode cX8_init 134 = .ok (.aload_n 0, 1) := by decide +kernel
theorem dX8_init_135 : decode cX8_init 135 = .ok (.bipush 60, 2) := by decide +kernel
theorem dX8_init_137 : decode cX8_init 137 = .ok (.newarray .int, 2) := by decide +kernel
theorem dX8_init_139 : decode cX8_init 139 = .ok (.putfield 86, 3) := by decide +kernel
theorem dX8_init_142 : decode cX8_init 142 = .ok (.aload_n 0, 1) := by decide +kernel
theorem dX8_init_143 : decode cX8_init 143 = .ok (.bipush 24, 2) := by decide +kernel
theorem dX8_init_145 : decode cX8_init 145 = .ok (.newarray .byte, 2) := by decide +kernel
theorem dX8_init_147 : decode cX8_init 147 = .ok (.putfield 89, 3) := by decide +kernel
theorem dX8_init_150 : decode cX8_init 150 = .ok (.aload_n 0, 1) := by decide +kernel
theorem dX8_init_151 : decode cX8_init 151 = .ok (.sipush 312, 3) := by decide +kernel
theorem dX8_init_154 : decode cX8_init 154 = .ok (.newarray .byte, 2) := by decide +kernel
theorem dX8_init_156 : decode cX8_init 156 = .ok (.putfield 92, 3) := by decide +kernel
theorem dX8_init_159 : decode cX8_init 159 = .ok (.aload_n 0, 1) := by decide +kernel
theorem dX8_init_160 : decode cX8_init 160 = .ok (.bipush 80, 2) := by decide +kernel
theorem dX8_init_162 : decode cX8_init 162 = .ok (.newarray .boolean, 2) := by decide +kernel
theorem dX8_init_164 : decode cX8_init 164 = .ok (.putfield 95, 3) := by decide +kernel
theorem dX8_init_167 : decode cX8_init 167 = .ok (.aload_n 0, 1) := by decide +kernel
theorem dX8_init_168 : decode cX8_init 168 = .ok (.bipush 80, 2) := by decide +kernel
theorem dX8_init_170 : decode cX8_init 170 = .ok (.newarray .boolean, 2) := by decide +kernel
theorem dX8_init_172 : decode cX8_init 172 = .ok (.putfield 99, 3) := by decide +kernel
theorem dX8_init_175 : decode cX8_init 175 = .ok (.aload_n 0, 1) := by decide +kernel
theorem dX8_init_176 : decode cX8_init 176 = .ok (.sipush 1920, 3) := by decide +kernel
theorem dX8_init_179 : decode cX8_init 179 = .ok (.newarray .byte, 2) := by decide +kernel
theorem dX8_init_181 : decode cX8_init 181 = .ok (.putfield 102, 3) := by decide +kernel
theorem dX8_init_184 : decode cX8_init 184 = .ok (.aload_n 0, 1) := by decide +kernel
theorem dX8_init_185 : decode cX8_init 185 = .ok (.sipush 1920, 3) := by decide +kernel
theorem dX8_init_188 : decode cX8_init 188 = .ok (.newarray .byte, 2) := by decide +kernel
theorem dX8_init_190 : decode cX8_init 190 = .ok (.putfield 105, 3) := by decide +kernel
theorem dX8_init_193 : decode cX8_init 193 = .ok (.aload_n 0, 1) := by decide +kernel
theorem dX8_init_194 : decode cX8_init 194 = .ok (.sipush 1920, 3) := by decide +kernel
theorem dX8_init_197 : decode cX8_init 197 = .ok (.newarray .byte, 2) := by decide +kernel
theorem dX8_init_199 : decode cX8_init 199 = .ok (.putfield 108, 3) := by decide +kernel
theorem dX8_init_202 : decode cX8_init 202 = .ok (.aload_n 0, 1) := by decide +kernel
theorem dX8_init_203 : decode cX8_init 203 = .ok (.bipush 80, 2) := by decide +kernel
theorem dX8_init_205 : decode cX8_init 205 = .ok (.newarray .int, 2) := by decide +kernel
theorem dX8_init_207 : decode cX8_init 207 = .ok (.putfield 111, 3) := by decide +kernel
theorem dX8_init_210 : decode cX8_init 210 = .ok (.aload_n 0, 1) := by decide +kernel
theorem dX8_init_211 : decode cX8_init 211 = .ok (.bipush 80, 2) := by decide +kernel
theorem dX8_init_213 : decode cX8_init 213 = .ok (.newarray .int, 2) := by decide +kernel
theorem dX8_init_215 : decode cX8_init 215 = .ok (.putfield 114, 3) := by decide +kernel
theorem dX8_init_218 : decode cX8_init 218 = .ok (.aload_n 0, 1) := by decide +kernel
theorem dX8_init_219 : decode cX8_init 219 = .ok (.bipush 80, 2) := by decide +kernel
theorem dX8_init_221 : decode cX8_init 221 = .ok (.newarray .int, 2) := by decide +kernel
theorem dX8_init_223 : decode cX8_init 223 = .ok (.putfield 117, 3) := by decide +kernel
theorem dX8_init_226 : decode cX8_init 226 = .ok (.aload_n 0, 1) := by decide +kernel
theorem dX8_init_227 : decode cX8_init 227 = .ok (.getfield 43, 3) := by decide +kernel
theorem dX8_init_230 : decode cX8_init 230 = .ok (.iconst 0, 1) := by decide +kernel
theorem dX8_init_231 : decode cX8_init 231 = .ok (.iconst (-1), 1) := by decide +kernel
theorem dX8_init_232 : decode cX8_init 232 = .ok (.iastore, 1) := by decide +kernel
theorem dX8_init_233 : decode cX8_init 233 = .ok (.return_, 1) := by decide +kernel
theorem dX8_isScope_0 : decode cX8_isScope 0 = .ok (.iload_n 1, 1) := by decide +kernel
theorem dX8_isScope_1 : decode cX8_isScope 1 = .ok (.ifCond .lt 15, 3) := by decide +kernel
theorem dX8_isScope_4 : decode cX8_isScope 4 = .ok (.iload_n 1, 1) := by decide +kernel
theorem dX8_isScope_5 : decode cX8_isScope 5 = .ok (.aload_n 0, 1) := by decide +kernel
theorem dX8_isScope_6 : decode cX8_isScope 6 = .ok (.getfield 40, 3) := by decide +kernel
theorem dX8_isScope_9 : decode cX8_isScope 9 = .ok (.if_icmp .ge 7, 3) := by decide +kernel
theorem dX8_isScope_12 : decode cX8_isScope 12 = .ok (.iconst 1, 1) := by decide +kernel
theorem dX8_isScope_13 : decode cX8_isScope 13 = .ok (.goto 4, 3) := by decide +kernel
theorem dX8_isScope_16 : decode cX8_isScope 16 = .ok (.iconst 0, 1) := by decide +kernel
theorem dX8_isScope_17 : decode cX8_isScope 17 = .ok (.ireturn, 1) := by decide +kernel
theorem dX8_isThing_0 : decode cX8_isThing 0 = .ok (.iload_n 1, 1) := by decide +kernel
theorem dX8_isThing_1 : decode cX8_isThing 1 = .ok (.ifCond .lt 15, 3) := by decide +kernel
theorem dX8_isThing_4 : decode cX8_isThing 4 = .ok (.iload_n 1, 1) := by decide +kernel
theorem dX8_isThing_5 : decode cX8_isThing 5 = .ok (.aload_n 0, 1) := by decide +kernel
theorem dX8_isThing_6 : decode cX8_isThing 6 = .ok (.getfield 120, 3) := by decide +kernel
theorem dX8_isThing_9 : decode cX8_isThing 9 = .ok (.if_icmp .ge 7, 3) := by decide +kernel
theorem dX8_isThing_12 : decode cX8_isThing 12 = .ok (.iconst 1, 1) := by decide +kernel
theorem dX8_isThing_13 : decode cX8_isThing 13 = .ok (.goto 4, 3) := by decide +kernel
theorem dX8_isThing_16 : decode cX8_isThing 16 = .ok (.iconst 0, 1) := by decide +kernel
theorem dX8_isThing_17 : decode cX8_isThing 17 = .ok (.ireturn, 1) := by decide +kernel
theorem dX8_scope_0 : decode cX8_scope 0 = .ok (.aload_n 0, 1) := by decide +kernel
theorem dX8_scope_1 : decode cX8_scope 1 = .ok (.iconst 0, 1) := by decide +kernel
theorem dX8_scope_2 : decode cX8_scope 2 = .ok (.putfield 1, 3) := by decide +kernel
theorem dX8_scope_5 : decode cX8_scope 5 = .ok (.aload_n 0, 1) := by decide +kernel
theorem dX8_scope_6 : decode cX8_scope 6 = .ok (.iload_n 1, 1) := by decide +kernel
theorem dX8_scope_7 : decode cX8_scope 7 = .ok (.invokevirtual 123, 3) := by decide +kernel
theorem dX8_scope_10 : decode cX8_scope 10 = .ok (.ifCond .ne 9, 3) := by decide +kernel
theorem dX8_scope_13 : decode cX8_scope 13 = .ok (.aload_n 0, 1) := by decide +kernel
theorem dX8_scope_14 : decode cX8_scope 14 = .ok (.iconst 1, 1) := by decide +kernel
theorem dX8_scope_15 : decode cX8_scope 15 = .ok (.invokevirtual 126, 3) := by decide +kernel
theorem dX8_scope_18 : decode cX8_scope 18 = .ok (.ireturn, 1) := by decide +kernel
theorem dX8_scope_19 : decode cX8_scope 19 = .ok (.aload_n 0, 1) := by decide +kernel
theorem dX8_scope_20 : decode cX8_scope 20 = .ok (.getfield 40, 3) := by decide +kernel
theorem dX8_scope_23 : decode cX8_scope 23 = .ok (.bipush 20, 2) := by decide +kernel
theorem dX8_scope_25 : decode cX8_scope 25 = .ok (.if_icmp .ne 9, 3) := by decide +kernel
theorem dX8_scope_28 : decode cX8_scope 28 = .ok (.aload_n 0, 1) := by decide +kernel
theorem dX8_scope_29 : decode cX8_scope 29 = .ok (.iconst 3, 1) := by decide +kernel
theorem dX8_scope_30 : decode cX8_scope 30 = .ok (.invokevirtual 126, 3) := by decide +kernel
theorem dX8_scope_33 : decode cX8_scope 33 = .ok (.ireturn, 1) := by decide +kernel
theorem dX8_scope_34 : decode cX8_scope 34 = .ok (.aload_n 0, 1) := by decide +kernel
theorem dX8_scope_35 : decode cX8_scope 35 = .ok (.getfield 43, 3) := by decide +kernel
theorem dX8_scope_38 : decode cX8_scope 38 = .ok (.aload_n 0, 1) := by decide +kernel
theorem dX8_scope_39 : decode cX8_scope 39 = .ok (.getfield 40, 3) := by decide +kernel
theorem dX8_scope_42 : decode cX8_scope 42 = .ok (.iload_n 1, 1) := by decide +kernel
theorem dX8_scope_43 : decode cX8_scope 43 = .ok (.iastore, 1) := by decide +kernel
theorem dX8_scope_44 : decode cX8_scope 44 = .ok (.aload_n 0, 1) := by decide +kernel
theorem dX8_scope_45 : decode cX8_scope 45 = .ok (.dup, 1) := by decide +kernel
theorem dX8_scope_46 : decode cX8_scope 46 = .ok (.getfield 40, 3) := by decide +kernel
theorem dX8_scope_49 : decode cX8_scope 49 = .ok (.iconst 1, 1) := by decide +kernel
theorem dX8_scope_50 : decode cX8_scope 50 = .ok (.iadd, 1) := by decide +kernel
theorem dX8_scope_51 : decode cX8_scope 51 = .ok (.putfield 40, 3) := by decide +kernel
theorem dX8_scope_54 : decode cX8_scope 54 = .ok (.aload_n 0, 1) := by decide +kernel
theorem dX8_scope_55 : decode cX8_scope 55 = .ok (.aload_n 0, 1) := by decide +kernel
theorem dX8_scope_56 : decode cX8_scope 56 = .ok (.getfield 40, 3) := by decide +kernel
theorem dX8_scope_59 : decode cX8_scope 59 = .ok (.iconst 1, 1) := by decide +kernel
theorem dX8_scope_60 : decode cX8_scope 60 = .ok (.isub, 1) := by decide +kernel
theorem dX8_scope_61 : decode cX8_scope 61 = .ok (.invokevirtual 130, 3) := by decide +kernel
theorem dX8_scope_64 : decode cX8_scope 64 = .ok (.ireturn, 1) := by decide +kernel
theorem dX8_meaningOf_0 : decode cX8_meaningOf 0 = .ok (.iload_n 1, 1) := by decide +kernel
theorem dX8_meaningOf_1 : decode cX8_meaningOf 1 = .ok (.istore 7, 2) := by decide +kernel
theorem dX8_meaningOf_3 : decode cX8_meaningOf 3 = .ok (.iload 7, 2) := by decide +kernel
theorem dX8_meaningOf_5 : decode cX8_meaningOf 5 = .ok (.iconst (-1), 1) := by decide +kernel
theorem dX8_meaningOf_6 : decode cX8_meaningOf 6 = .ok (.if_icmp .eq 70, 3) := by decide +kernel
theorem dX8_meaningOf_9 : decode cX8_meaningOf 9 = .ok (.iconst 0, 1) := by decide +kernel
theorem dX8_meaningOf_10 : decode cX8_meaningOf 10 = .ok (.istore 8, 2) := by decide +kernel
theorem dX8_meaningOf_12 : decode cX8_meaningOf 12 = .ok (.iload 8, 2) := by decide +kernel
theorem dX8_meaningOf_14 : decode cX8_meaningOf 14 = .ok (.aload_n 0, 1) := by decide +kernel
theorem dX8_meaningOf_15 : decode cX8_meaningOf 15 = .ok (.getfield 120, 3) := by decide +kernel
theorem dX8_meaningOf_18 : decode cX8_meaningOf 18 = .ok (.if_icmp .ge 46, 3) := by decide +kernel
theorem dX8_meaningOf_21 : decode cX8_meaningOf 21 = .ok (.aload_n 0, 1) := by decide +kernel
theorem dX8_meaningOf_22 : decode cX8_meaningOf 22 = .ok (.getfield 47, 3) := by decide +kernel
theorem dX8_meaningOf_25 : decode cX8_meaningOf 25 = .ok (.iload 8, 2) := by decide +kernel
theorem dX8_meaningOf_27 : decode cX8_meaningOf 27 = .ok (.iaload, 1) := by decide +kernel
theorem dX8_meaningOf_28 : decode cX8_meaningOf 28 = .ok (.iload 7, 2) := by decide +kernel
theorem dX8_meaningOf_30 : decode cX8_meaningOf 30 = .ok (.if_icmp .ne 28, 3) := by decide +kernel
theorem dX8_meaningOf_33 : decode cX8_meaningOf 33 = .ok (.aload 5, 2) := by decide +kernel
theorem dX8_meaningOf_35 : decode cX8_meaningOf 35 = .ok (.bipush 24, 2) := by decide +kernel
theorem dX8_meaningOf_37 : decode cX8_meaningOf 37 = .ok (.iload 8, 2) := by decide +kernel
theorem dX8_meaningOf_39 : decode cX8_meaningOf 39 = .ok (.imul, 1) := by decide +kernel
theorem dX8_meaningOf_40 : decode cX8_meaningOf 40 = .ok (.aload 6, 2) := by decide +kernel
theorem dX8_meaningOf_42 : decode cX8_meaningOf 42 = .ok (.iload 8, 2) := by decide +kernel
theorem dX8_meaningOf_44 : decode cX8_meaningOf 44 = .ok (.iaload, 1) := by decide +kernel
theorem dX8_meaningOf_45 : decode cX8_meaningOf 45 = .ok (.aload_n 2, 1) := by decide +kernel
theorem dX8_meaningOf_46 : decode cX8_meaningOf 46 = .ok (.iload_n 3, 1) := by decide +kernel
theorem dX8_meaningOf_47 : decode cX8_meaningOf 47 = .ok (.iload 4, 2) := by decide +kernel
theorem dX8_meaningOf_49 : decode cX8_meaningOf 49 = .ok (.invokestatic 133, 3) := by decide +kernel
theorem dX8_meaningOf_52 : decode cX8_meaningOf 52 = .ok (.ifCond .eq 6, 3) := by decide +kernel
theorem dX8_meaningOf_55 : decode cX8_meaningOf 55 = .ok (.iload 8, 2) := by decide +kernel
theorem dX8_meaningOf_57 : decode cX8_meaningOf 57 = .ok (.ireturn, 1) := by decide +kernel
theorem dX8_meaningOf_58 : decode cX8_meaningOf 58 = .ok (.iinc 8 1, 3) := by decide +kernel
theorem dX8_meaningOf_61 : decode cX8_meaningOf 61 = .ok (.goto (-49), 3) := by decide +kernel
theorem dX8_meaningOf_64 : decode cX8_meaningOf 64 = .ok (.aload_n 0, 1) := by decide +kernel
theorem dX8_meaningOf_65 : decode cX8_meaningOf 65 = .ok (.getfield 43, 3) := by decide +kernel
theorem dX8_meaningOf_68 : decode cX8_meaningOf 68 = .ok (.iload 7, 2) := by decide +kernel
theorem dX8_meaningOf_70 : decode cX8_meaningOf 70 = .ok (.iaload, 1) := by decide +kernel
theorem dX8_meaningOf_71 : decode cX8_meaningOf 71 = .ok (.istore 7, 2) := by decide +kernel
theorem dX8_meaningOf_73 : decode cX8_meaningOf 73 = .ok (.goto (-70), 3) := by decide +kernel
theorem dX8_meaningOf_76 : decode cX8_meaningOf 76 = .ok (.bipush (-2), 2) := by decide +kernel
theorem dX8_meaningOf_78 : decode cX8_meaningOf 78 = .ok (.ireturn, 1) := by decide +kernel
theorem dX8_takesUse_0 : decode cX8_takesUse 0 = .ok (.iconst 0, 1) := by decide +kernel
theorem dX8_takesUse_1 : decode cX8_takesUse 1 = .ok (.istore_n 3, 1) := by decide +kernel
theorem dX8_takesUse_2 : decode cX8_takesUse 2 = .ok (.iload_n 3, 1) := by decide +kernel
theorem dX8_takesUse_3 : decode cX8_takesUse 3 = .ok (.aload_n 0, 1) := by decide +kernel
theorem dX8_takesUse_4 : decode cX8_takesUse 4 = .ok (.getfield 137, 3) := by decide +kernel
theorem dX8_takesUse_7 : decode cX8_takesUse 7 = .ok (.if_icmp .ge 108, 3) := by decide +kernel
theorem dX8_takesUse_10 : decode cX8_takesUse 10 = .ok (.aload_n 0, 1) := by decide +kernel
theorem dX8_takesUse_11 : decode cX8_takesUse 11 = .ok (.getfield 59, 3) := by decide +kernel
theorem dX8_takesUse_14 : decode cX8_takesUse 14 = .ok (.iload_n 3, 1) := by decide +kernel
theorem dX8_takesUse_15 : decode cX8_takesUse 15 = .ok (.iaload, 1) := by decide +kernel
theorem dX8_takesUse_16 : decode cX8_takesUse 16 = .ok (.istore 4, 2) := by decide +kernel
theorem dX8_takesUse_18 : decode cX8_takesUse 18 = .ok (.aload_n 0, 1) := by decide +kernel
theorem dX8_takesUse_19 : decode cX8_takesUse 19 = .ok (.getfield 62, 3) := by decide +kernel
theorem dX8_takesUse_22 : decode cX8_takesUse 22 = .ok (.bipush 24, 2) := by decide +kernel
theorem dX8_takesUse_24 : decode cX8_takesUse 24 = .ok (.iload 4, 2) := by decide +kernel
theorem dX8_takesUse_26 : decode cX8_takesUse 26 = .ok (.imul, 1) := by decide +kernel
theorem dX8_takesUse_27 : decode cX8_takesUse 27 = .ok (.aload_n 0, 1) := by decide +kernel
theorem dX8_takesUse_28 : decode cX8_takesUse 28 = .ok (.getfield 53, 3) := by decide +kernel
theorem dX8_takesUse_31 : decode cX8_takesUse 31 = .ok (.iload 4, 2) := by decide +kernel
theorem dX8_takesUse_33 : decode cX8_takesUse 33 = .ok (.iaload, 1) := by decide +kernel
theorem dX8_takesUse_34 : decode cX8_takesUse 34 = .ok (.aload_n 0, 1) := by decide +kernel
theorem dX8_takesUse_35 : decode cX8_takesUse 35 = .ok (.getfield 13, 3) := by decide +kernel
theorem dX8_takesUse_38 : decode cX8_takesUse 38 = .ok (.iconst 0, 1) := by decide +kernel
theorem dX8_takesUse_39 : decode cX8_takesUse 39 = .ok (.iload_n 2, 1) := by decide +kernel
theorem dX8_takesUse_40 : decode cX8_takesUse 40 = .ok (.invokestatic 133, 3) := by decide +kernel
theorem dX8_takesUse_43 : decode cX8_takesUse 43 = .ok (.ifCond .ne 6, 3) := by decide +kernel
theorem dX8_takesUse_46 : decode cX8_takesUse 46 = .ok (.goto 63, 3) := by decide +kernel
theorem dX8_takesUse_49 : decode cX8_takesUse 49 = .ok (.iconst 0, 1) := by decide +kernel
theorem dX8_takesUse_50 : decode cX8_takesUse 50 = .ok (.istore 5, 2) := by decide +kernel
theorem dX8_takesUse_52 : decode cX8_takesUse 52 = .ok (.aload_n 0, 1) := by decide +kernel
theorem dX8_takesUse_53 : decode cX8_takesUse 53 = .ok (.getfield 56, 3) := by decide +kernel
theorem dX8_takesUse_56 : decode cX8_takesUse 56 = .ok (.iload_n 3, 1) := by decide +kernel
theorem dX8_takesUse_57 : decode cX8_takesUse 57 = .ok (.iaload, 1) := by decide +kernel
theorem dX8_takesUse_58 : decode cX8_takesUse 58 = .ok (.istore 6, 2) := by decide +kernel
theorem dX8_takesUse_60 : decode cX8_takesUse 60 = .ok (.iload 6, 2) := by decide +kernel
theorem dX8_takesUse_62 : decode cX8_takesUse 62 = .ok (.aload_n 0, 1) := by decide +kernel
theorem dX8_takesUse_63 : decode cX8_takesUse 63 = .ok (.getfield 47, 3) := by decide +kernel
theorem dX8_takesUse_66 : decode cX8_takesUse 66 = .ok (.iload 4, 2) := by decide +kernel
theorem dX8_takesUse_68 : decode cX8_takesUse 68 = .ok (.iaload, 1) := by decide +kernel
theorem dX8_takesUse_69 : decode cX8_takesUse 69 = .ok (.if_icmp .eq 33, 3) := by decide +kernel
theorem dX8_takesUse_72 : decode cX8_takesUse 72 = .ok (.iload 5, 2) := by decide +kernel
theorem dX8_takesUse_74 : decode cX8_takesUse 74 = .ok (.ifCond .ne 9, 3) := by decide +kernel
theorem dX8_takesUse_77 : decode cX8_takesUse 77 = .ok (.iload 6, 2) := by decide +kernel
theorem dX8_takesUse_79 : decode cX8_takesUse 79 = .ok (.iload_n 1, 1) := by decide +kernel
theorem dX8_takesUse_80 : decode cX8_takesUse 80 = .ok (.if_icmp .ne 7, 3) := by decide +kernel
theorem dX8_takesUse_83 : decode cX8_takesUse 83 = .ok (.iconst 1, 1) := by decide +kernel
theorem dX8_takesUse_84 : decode cX8_takesUse 84 = .ok (.goto 4, 3) := by decide +kernel
theorem dX8_takesUse_87 : decode cX8_takesUse 87 = .ok (.iconst 0, 1) := by decide +kernel
theorem dX8_takesUse_88 : decode cX8_takesUse 88 = .ok (.istore 5, 2) := by decide +kernel
theorem dX8_takesUse_90 : decode cX8_takesUse 90 = .ok (.aload_n 0, 1) := by decide +kernel
theorem dX8_takesUse_91 : decode cX8_takesUse 91 = .ok (.getfield 43, 3) := by decide +kernel
theorem dX8_takesUse_94 : decode cX8_takesUse 94 = .ok (.iload 6, 2) := by decide +kernel
theorem dX8_takesUse_96 : decode cX8_takesUse 96 = .ok (.iaload, 1) := by decide +kernel
theorem dX8_takesUse_97 : decode cX8_takesUse 97 = .ok (.istore 6, 2) := by decide +kernel
theorem dX8_takesUse_99 : decode cX8_takesUse 99 = .ok (.goto (-39), 3) := by decide +kernel
theorem dX8_takesUse_102 : decode cX8_takesUse 102 = .ok (.iload 5, 2) := by decide +kernel
theorem dX8_takesUse_104 : decode cX8_takesUse 104 = .ok (.ifCond .eq 5, 3) := by decide +kernel
theorem dX8_takesUse_107 : decode cX8_takesUse 107 = .ok (.iconst 1, 1) := by decide +kernel
theorem dX8_takesUse_108 : decode cX8_takesUse 108 = .ok (.ireturn, 1) := by decide +kernel
theorem dX8_takesUse_109 : decode cX8_takesUse 109 = .ok (.iinc 3 1, 3) := by decide +kernel
theorem dX8_takesUse_112 : decode cX8_takesUse 112 = .ok (.goto (-110), 3) := by decide +kernel
theorem dX8_takesUse_115 : decode cX8_takesUse 115 = .ok (.iconst 0, 1) := by decide +kernel
theorem dX8_takesUse_116 : decode cX8_takesUse 116 = .ok (.ireturn, 1) := by decide +kernel
theorem dX8_thing_0 : decode cX8_thing 0 = .ok (.aload_n 0, 1) := by decide +kernel
theorem dX8_thing_1 : decode cX8_thing 1 = .ok (.iconst 0, 1) := by decide +kernel
theorem dX8_thing_2 : decode cX8_thing 2 = .ok (.putfield 1, 3) := by decide +kernel
theorem dX8_thing_5 : decode cX8_thing 5 = .ok (.aload_n 0, 1) := by decide +kernel
theorem dX8_thing_6 : decode cX8_thing 6 = .ok (.iload_n 1, 1) := by decide +kernel
theorem dX8_thing_7 : decode cX8_thing 7 = .ok (.invokevirtual 123, 3) := by decide +kernel
theorem dX8_thing_10 : decode cX8_thing 10 = .ok (.ifCond .ne 9, 3) := by decide +kernel
theorem dX8_thing_13 : decode cX8_thing 13 = .ok (.aload_n 0, 1) := by decide +kernel
theorem dX8_thing_14 : decode cX8_thing 14 = .ok (.iconst 1, 1) := by decide +kernel
theorem dX8_thing_15 : decode cX8_thing 15 = .ok (.invokevirtual 126, 3) := by decide +kernel
theorem dX8_thing_18 : decode cX8_thing 18 = .ok (.ireturn, 1) := by decide +kernel
theorem dX8_thing_19 : decode cX8_thing 19 = .ok (.iload_n 2, 1) := by decide +kernel
theorem dX8_thing_20 : decode cX8_thing 20 = .ok (.iconst 0, 1) := by decide +kernel
theorem dX8_thing_21 : decode cX8_thing 21 = .ok (.iconst 2, 1) := by decide +kernel
theorem dX8_thing_22 : decode cX8_thing 22 = .ok (.invokestatic 24, 3) := by decide +kernel
theorem dX8_thing_25 : decode cX8_thing 25 = .ok (.ifCond .eq 11, 3) := by decide +kernel
theorem dX8_thing_28 : decode cX8_thing 28 = .ok (.aload_n 0, 1) := by decide +kernel
theorem dX8_thing_29 : decode cX8_thing 29 = .ok (.iload_n 3, 1) := by decide +kernel
theorem dX8_thing_30 : decode cX8_thing 30 = .ok (.invokevirtual 140, 3) := by decide +kernel
theorem dX8_thing_33 : decode cX8_thing 33 = .ok (.ifCond .ne 9, 3) := by decide +kernel
theorem dX8_thing_36 : decode cX8_thing 36 = .ok (.aload_n 0, 1) := by decide +kernel
theorem dX8_thing_37 : decode cX8_thing 37 = .ok (.iconst 2, 1) := by decide +kernel
theorem dX8_thing_38 : decode cX8_thing 38 = .ok (.invokevirtual 126, 3) := by decide +kernel
theorem dX8_thing_41 : decode cX8_thing 41 = .ok (.ireturn, 1) := by decide +kernel
theorem dX8_thing_42 : decode cX8_thing 42 = .ok (.aload_n 0, 1) := by decide +kernel
theorem dX8_thing_43 : decode cX8_thing 43 = .ok (.iconst 0, 1) := by decide +kernel
theorem dX8_thing_44 : decode cX8_thing 44 = .ok (.putfield 10, 3) := by decide +kernel
theorem dX8_thing_47 : decode cX8_thing 47 = .ok (.aload_n 0, 1) := by decide +kernel
theorem dX8_thing_48 : decode cX8_thing 48 = .ok (.getfield 13, 3) := by decide +kernel
theorem dX8_thing_51 : decode cX8_thing 51 = .ok (.iconst 0, 1) := by decide +kernel
theorem dX8_thing_52 : decode cX8_thing 52 = .ok (.iload_n 3, 1) := by decide +kernel
theorem dX8_thing_53 : decode cX8_thing 53 = .ok (.invokestatic 143, 3) := by decide +kernel
theorem dX8_thing_56 : decode cX8_thing 56 = .ok (.ifCond .ne 9, 3) := by decide +kernel
theorem dX8_thing_59 : decode cX8_thing 59 = .ok (.aload_n 0, 1) := by decide +kernel
theorem dX8_thing_60 : decode cX8_thing 60 = .ok (.iconst 2, 1) := by decide +kernel
theorem dX8_thing_61 : decode cX8_thing 61 = .ok (.invokevirtual 126, 3) := by decide +kernel
theorem dX8_thing_64 : decode cX8_thing 64 = .ok (.ireturn, 1) := by decide +kernel
theorem dX8_thing_65 : decode cX8_thing 65 = .ok (.iconst 0, 1) := by decide +kernel
theorem dX8_thing_66 : decode cX8_thing 66 = .ok (.istore 4, 2) := by decide +kernel
theorem dX8_thing_68 : decode cX8_thing 68 = .ok (.iconst 0, 1) := by decide +kernel
theorem dX8_thing_69 : decode cX8_thing 69 = .ok (.istore 5, 2) := by decide +kernel
theorem dX8_thing_71 : decode cX8_thing 71 = .ok (.iload 5, 2) := by decide +kernel
theorem dX8_thing_73 : decode cX8_thing 73 = .ok (.aload_n 0, 1) := by decide +kernel
theorem dX8_thing_74 : decode cX8_thing 74 = .ok (.getfield 120, 3) := by decide +kernel
theorem dX8_thing_77 : decode cX8_thing 77 = .ok (.if_icmp .ge 60, 3) := by decide +kernel
theorem dX8_thing_80 : decode cX8_thing 80 = .ok (.iload 4, 2) := by decide +kernel
theorem dX8_thing_82 : decode cX8_thing 82 = .ok (.ifCond .ne 42, 3) := by decide +kernel
theorem dX8_thing_85 : decode cX8_thing 85 = .ok (.aload_n 0, 1) := by decide +kernel
theorem dX8_thing_86 : decode cX8_thing 86 = .ok (.getfield 47, 3) := by decide +kernel
theorem dX8_thing_89 : decode cX8_thing 89 = .ok (.iload 5, 2) := by decide +kernel
theorem dX8_thing_91 : decode cX8_thing 91 = .ok (.iaload, 1) := by decide +kernel
theorem dX8_thing_92 : decode cX8_thing 92 = .ok (.iload_n 1, 1) := by decide +kernel
theorem dX8_thing_93 : decode cX8_thing 93 = .ok (.if_icmp .ne 35, 3) := by decide +kernel
theorem dX8_thing_96 : decode cX8_thing 96 = .ok (.aload_n 0, 1) := by decide +kernel
theorem dX8_thing_97 : decode cX8_thing 97 = .ok (.getfield 62, 3) := by decide +kernel
theorem dX8_thing_100 : decode cX8_thing 100 = .ok (.bipush 24, 2) := by decide +kernel
theorem dX8_thing_102 : decode cX8_thing 102 = .ok (.iload 5, 2) := by decide +kernel
theorem dX8_thing_104 : decode cX8_thing 104 = .ok (.imul, 1) := by decide +kernel
theorem dX8_thing_105 : decode cX8_thing 105 = .ok (.aload_n 0, 1) := by decide +kernel
theorem dX8_thing_106 : decode cX8_thing 106 = .ok (.getfield 53, 3) := by decide +kernel
theorem dX8_thing_109 : decode cX8_thing 109 = .ok (.iload 5, 2) := by decide +kernel
theorem dX8_thing_111 : decode cX8_thing 111 = .ok (.iaload, 1) := by decide +kernel
theorem dX8_thing_112 : decode cX8_thing 112 = .ok (.aload_n 0, 1) := by decide +kernel
theorem dX8_thing_113 : decode cX8_thing 113 = .ok (.getfield 13, 3) := by decide +kernel
theorem dX8_thing_116 : decode cX8_thing 116 = .ok (.iconst 0, 1) := by decide +kernel
theorem dX8_thing_117 : decode cX8_thing 117 = .ok (.iload_n 3, 1) := by decide +kernel
theorem dX8_thing_118 : decode cX8_thing 118 = .ok (.invokestatic 133, 3) := by decide +kernel
theorem dX8_thing_121 : decode cX8_thing 121 = .ok (.ifCond .eq 7, 3) := by decide +kernel
theorem dX8_thing_124 : decode cX8_thing 124 = .ok (.iconst 1, 1) := by decide +kernel
theorem dX8_thing_125 : decode cX8_thing 125 = .ok (.goto 4, 3) := by decide +kernel
theorem dX8_thing_128 : decode cX8_thing 128 = .ok (.iconst 0, 1) := by decide +kernel
theorem dX8_thing_129 : decode cX8_thing 129 = .ok (.istore 4, 2) := by decide +kernel
theorem dX8_thing_131 : decode cX8_thing 131 = .ok (.iinc 5 1, 3) := by decide +kernel
theorem dX8_thing_134 : decode cX8_thing 134 = .ok (.goto (-63), 3) := by decide +kernel
theorem dX8_thing_137 : decode cX8_thing 137 = .ok (.iload 4, 2) := by decide +kernel
theorem dX8_thing_139 : decode cX8_thing 139 = .ok (.ifCond .ne 12, 3) := by decide +kernel
theorem dX8_thing_142 : decode cX8_thing 142 = .ok (.aload_n 0, 1) := by decide +kernel
theorem dX8_thing_143 : decode cX8_thing 143 = .ok (.iload_n 1, 1) := by decide +kernel
theorem dX8_thing_144 : decode cX8_thing 144 = .ok (.iload_n 3, 1) := by decide +kernel
theorem dX8_thing_145 : decode cX8_thing 145 = .ok (.invokevirtual 147, 3) := by decide +kernel
theorem dX8_thing_148 : decode cX8_thing 148 = .ok (.ifCond .eq 9, 3) := by decide +kernel
theorem dX8_thing_151 : decode cX8_thing 151 = .ok (.aload_n 0, 1) := by decide +kernel
theorem dX8_thing_152 : decode cX8_thing 152 = .ok (.iconst 4, 1) := by decide +kernel
theorem dX8_thing_153 : decode cX8_thing 153 = .ok (.invokevirtual 126, 3) := by decide +kernel
theorem dX8_thing_156 : decode cX8_thing 156 = .ok (.ireturn, 1) := by decide +kernel
theorem dX8_thing_157 : decode cX8_thing 157 = .ok (.aload_n 0, 1) := by decide +kernel
theorem dX8_thing_158 : decode cX8_thing 158 = .ok (.getfield 120, 3) := by decide +kernel
theorem dX8_thing_161 : decode cX8_thing 161 = .ok (.bipush 80, 2) := by decide +kernel
theorem dX8_thing_163 : decode cX8_thing 163 = .ok (.if_icmp .ne 9, 3) := by decide +kernel
theorem dX8_thing_166 : decode cX8_thing 166 = .ok (.aload_n 0, 1) := by decide +kernel
theorem dX8_thing_167 : decode cX8_thing 167 = .ok (.iconst 3, 1) := by decide +kernel
theorem dX8_thing_168 : decode cX8_thing 168 = .ok (.invokevirtual 126, 3) := by decide +kernel
theorem dX8_thing_171 : decode cX8_thing 171 = .ok (.ireturn, 1) := by decide +kernel
theorem dX8_thing_172 : decode cX8_thing 172 = .ok (.aload_n 0, 1) := by decide +kernel
theorem dX8_thing_173 : decode cX8_thing 173 = .ok (.getfield 47, 3) := by decide +kernel
theorem dX8_thing_176 : decode cX8_thing 176 = .ok (.aload_n 0, 1) := by decide +kernel
theorem dX8_thing_177 : decode cX8_thing 177 = .ok (.getfield 120, 3) := by decide +kernel
theorem dX8_thing_180 : decode cX8_thing 180 = .ok (.iload_n 1, 1) := by decide +kernel
theorem dX8_thing_181 : decode cX8_thing 181 = .ok (.iastore, 1) := by decide +kernel
theorem dX8_thing_182 : decode cX8_thing 182 = .ok (.aload_n 0, 1) := by decide +kernel
theorem dX8_thing_183 : decode cX8_thing 183 = .ok (.getfield 50, 3) := by decide +kernel
theorem dX8_thing_186 : decode cX8_thing 186 = .ok (.aload_n 0, 1) := by decide +kernel
theorem dX8_thing_187 : decode cX8_thing 187 = .ok (.getfield 120, 3) := by decide +kernel
theorem dX8_thing_190 : decode cX8_thing 190 = .ok (.iload_n 2, 1) := by decide +kernel
theorem dX8_thing_191 : decode cX8_thing 191 = .ok (.iastore, 1) := by decide +kernel
theorem dX8_thing_192 : decode cX8_thing 192 = .ok (.aload_n 0, 1) := by decide +kernel
theorem dX8_thing_193 : decode cX8_thing 193 = .ok (.getfield 53, 3) := by decide +kernel
theorem dX8_thing_196 : decode cX8_thing 196 = .ok (.aload_n 0, 1) := by decide +kernel
theorem dX8_thing_197 : decode cX8_thing 197 = .ok (.getfield 120, 3) := by decide +kernel
theorem dX8_thing_200 : decode cX8_thing 200 = .ok (.iload_n 3, 1) := by decide +kernel
theorem dX8_thing_201 : decode cX8_thing 201 = .ok (.iastore, 1) := by decide +kernel
theorem dX8_thing_202 : decode cX8_thing 202 = .ok (.iconst 0, 1) := by decide +kernel
theorem dX8_thing_203 : decode cX8_thing 203 = .ok (.istore 5, 2) := by decide +kernel
theorem dX8_thing_205 : decode cX8_thing 205 = .ok (.iload 5, 2) := by decide +kernel
theorem dX8_thing_207 : decode cX8_thing 207 = .ok (.iload_n 3, 1) := by decide +kernel
theorem dX8_thing_208 : decode cX8_thing 208 = .ok (.if_icmp .ge 31, 3) := by decide +kernel
theorem dX8_thing_211 : decode cX8_thing 211 = .ok (.aload_n 0, 1) := by decide +kernel
theorem dX8_thing_212 : decode cX8_thing 212 = .ok (.getfield 62, 3) := by decide +kernel
theorem dX8_thing_215 : decode cX8_thing 215 = .ok (.bipush 24, 2) := by decide +kernel
theorem dX8_thing_217 : decode cX8_thing 217 = .ok (.aload_n 0, 1) := by decide +kernel
theorem dX8_thing_218 : decode cX8_thing 218 = .ok (.getfield 120, 3) := by decide +kernel
theorem dX8_thing_221 : decode cX8_thing 221 = .ok (.imul, 1) := by decide +kernel
theorem dX8_thing_222 : decode cX8_thing 222 = .ok (.iload 5, 2) := by decide +kernel
theorem dX8_thing_224 : decode cX8_thing 224 = .ok (.iadd, 1) := by decide +kernel
theorem dX8_thing_225 : decode cX8_thing 225 = .ok (.aload_n 0, 1) := by decide +kernel
theorem dX8_thing_226 : decode cX8_thing 226 = .ok (.getfield 13, 3) := by decide +kernel
theorem dX8_thing_229 : decode cX8_thing 229 = .ok (.iload 5, 2) := by decide +kernel
theorem dX8_thing_231 : decode cX8_thing 231 = .ok (.baload, 1) := by decide +kernel
theorem dX8_thing_232 : decode cX8_thing 232 = .ok (.bastore, 1) := by decide +kernel
theorem dX8_thing_233 : decode cX8_thing 233 = .ok (.iinc 5 1, 3) := by decide +kernel
theorem dX8_thing_236 : decode cX8_thing 236 = .ok (.goto (-31), 3) := by decide +kernel
theorem dX8_thing_239 : decode cX8_thing 239 = .ok (.aload_n 0, 1) := by decide +kernel
theorem dX8_thing_240 : decode cX8_thing 240 = .ok (.getfield 95, 3) := by decide +kernel
theorem dX8_thing_243 : decode cX8_thing 243 = .ok (.aload_n 0, 1) := by decide +kernel
theorem dX8_thing_244 : decode cX8_thing 244 = .ok (.getfield 120, 3) := by decide +kernel
theorem dX8_thing_247 : decode cX8_thing 247 = .ok (.iconst 0, 1) := by decide +kernel
theorem dX8_thing_248 : decode cX8_thing 248 = .ok (.bastore, 1) := by decide +kernel
theorem dX8_thing_249 : decode cX8_thing 249 = .ok (.aload_n 0, 1) := by decide +kernel
theorem dX8_thing_250 : decode cX8_thing 250 = .ok (.dup, 1) := by decide +kernel
theorem dX8_thing_251 : decode cX8_thing 251 = .ok (.getfield 120, 3) := by decide +kernel
theorem dX8_thing_254 : decode cX8_thing 254 = .ok (.iconst 1, 1) := by decide +kernel
theorem dX8_thing_255 : decode cX8_thing 255 = .ok (.iadd, 1) := by decide +kernel
theorem dX8_thing_256 : decode cX8_thing 256 = .ok (.putfield 120, 3) := by decide +kernel
theorem dX8_thing_259 : decode cX8_thing 259 = .ok (.aload_n 0, 1) := by decide +kernel
theorem dX8_thing_260 : decode cX8_thing 260 = .ok (.iconst 0, 1) := by decide +kernel
theorem dX8_thing_261 : decode cX8_thing 261 = .ok (.putfield 151, 3) := by decide +kernel
theorem dX8_thing_264 : decode cX8_thing 264 = .ok (.aload_n 0, 1) := by decide +kernel
theorem dX8_thing_265 : decode cX8_thing 265 = .ok (.aload_n 0, 1) := by decide +kernel
theorem dX8_thing_266 : decode cX8_thing 266 = .ok (.getfield 120, 3) := by decide +kernel
theorem dX8_thing_269 : decode cX8_thing 269 = .ok (.iconst 1, 1) := by decide +kernel
theorem dX8_thing_270 : decode cX8_thing 270 = .ok (.isub, 1) := by decide +kernel
theorem dX8_thing_271 : decode cX8_thing 271 = .ok (.invokevirtual 130, 3) := by decide +kernel
theorem dX8_thing_274 : decode cX8_thing 274 = .ok (.ireturn, 1) := by decide +kernel
theorem dX8_use_0 : decode cX8_use 0 = .ok (.aload_n 0, 1) := by decide +kernel
theorem dX8_use_1 : decode cX8_use 1 = .ok (.iconst 0, 1) := by decide +kernel
theorem dX8_use_2 : decode cX8_use 2 = .ok (.putfield 1, 3) := by decide +kernel
theorem dX8_use_5 : decode cX8_use 5 = .ok (.aload_n 0, 1) := by decide +kernel
theorem dX8_use_6 : decode cX8_use 6 = .ok (.iload_n 1, 1) := by decide +kernel
theorem dX8_use_7 : decode cX8_use 7 = .ok (.invokevirtual 123, 3) := by decide +kernel
theorem dX8_use_10 : decode cX8_use 10 = .ok (.ifCond .ne 9, 3) := by decide +kernel
theorem dX8_use_13 : decode cX8_use 13 = .ok (.aload_n 0, 1) := by decide +kernel
theorem dX8_use_14 : decode cX8_use 14 = .ok (.iconst 1, 1) := by decide +kernel
theorem dX8_use_15 : decode cX8_use 15 = .ok (.invokevirtual 126, 3) := by decide +kernel
theorem dX8_use_18 : decode cX8_use 18 = .ok (.ireturn, 1) := by decide +kernel
theorem dX8_use_19 : decode cX8_use 19 = .ok (.aload_n 0, 1) := by decide +kernel
theorem dX8_use_20 : decode cX8_use 20 = .ok (.iload_n 2, 1) := by decide +kernel
theorem dX8_use_21 : decode cX8_use 21 = .ok (.invokevirtual 140, 3) := by decide +kernel
theorem dX8_use_24 : decode cX8_use 24 = .ok (.ifCond .ne 9, 3) := by decide +kernel
theorem dX8_use_27 : decode cX8_use 27 = .ok (.aload_n 0, 1) := by decide +kernel
theorem dX8_use_28 : decode cX8_use 28 = .ok (.iconst 2, 1) := by decide +kernel
theorem dX8_use_29 : decode cX8_use 29 = .ok (.invokevirtual 126, 3) := by decide +kernel
theorem dX8_use_32 : decode cX8_use 32 = .ok (.ireturn, 1) := by decide +kernel
theorem dX8_use_33 : decode cX8_use 33 = .ok (.aload_n 0, 1) := by decide +kernel
theorem dX8_use_34 : decode cX8_use 34 = .ok (.iconst 0, 1) := by decide +kernel
theorem dX8_use_35 : decode cX8_use 35 = .ok (.putfield 10, 3) := by decide +kernel
theorem dX8_use_38 : decode cX8_use 38 = .ok (.aload_n 0, 1) := by decide +kernel
theorem dX8_use_39 : decode cX8_use 39 = .ok (.getfield 13, 3) := by decide +kernel
theorem dX8_use_42 : decode cX8_use 42 = .ok (.iconst 0, 1) := by decide +kernel
theorem dX8_use_43 : decode cX8_use 43 = .ok (.iload_n 2, 1) := by decide +kernel
theorem dX8_use_44 : decode cX8_use 44 = .ok (.invokestatic 143, 3) := by decide +kernel
theorem dX8_use_47 : decode cX8_use 47 = .ok (.ifCond .ne 9, 3) := by decide +kernel
theorem dX8_use_50 : decode cX8_use 50 = .ok (.aload_n 0, 1) := by decide +kernel
theorem dX8_use_51 : decode cX8_use 51 = .ok (.iconst 2, 1) := by decide +kernel
theorem dX8_use_52 : decode cX8_use 52 = .ok (.invokevirtual 126, 3) := by decide +kernel
theorem dX8_use_55 : decode cX8_use 55 = .ok (.ireturn, 1) := by decide +kernel
theorem dX8_use_56 : decode cX8_use 56 = .ok (.aload_n 0, 1) := by decide +kernel
theorem dX8_use_57 : decode cX8_use 57 = .ok (.iload_n 1, 1) := by decide +kernel
theorem dX8_use_58 : decode cX8_use 58 = .ok (.aload_n 0, 1) := by decide +kernel
theorem dX8_use_59 : decode cX8_use 59 = .ok (.getfield 13, 3) := by decide +kernel
theorem dX8_use_62 : decode cX8_use 62 = .ok (.iconst 0, 1) := by decide +kernel
theorem dX8_use_63 : decode cX8_use 63 = .ok (.iload_n 2, 1) := by decide +kernel
theorem dX8_use_64 : decode cX8_use 64 = .ok (.aload_n 0, 1) := by decide +kernel
theorem dX8_use_65 : decode cX8_use 65 = .ok (.getfield 62, 3) := by decide +kernel
theorem dX8_use_68 : decode cX8_use 68 = .ok (.aload_n 0, 1) := by decide +kernel
theorem dX8_use_69 : decode cX8_use 69 = .ok (.getfield 53, 3) := by decide +kernel
theorem dX8_use_72 : decode cX8_use 72 = .ok (.invokevirtual 155, 3) := by decide +kernel
theorem dX8_use_75 : decode cX8_use 75 = .ok (.istore_n 3, 1) := by decide +kernel
theorem dX8_use_76 : decode cX8_use 76 = .ok (.iload_n 3, 1) := by decide +kernel
theorem dX8_use_77 : decode cX8_use 77 = .ok (.ifCond .ge 10, 3) := by decide +kernel
theorem dX8_use_80 : decode cX8_use 80 = .ok (.aload_n 0, 1) := by decide +kernel
theorem dX8_use_81 : decode cX8_use 81 = .ok (.bipush 6, 2) := by decide +kernel
theorem dX8_use_83 : decode cX8_use 83 = .ok (.invokevirtual 126, 3) := by decide +kernel
theorem dX8_use_86 : decode cX8_use 86 = .ok (.ireturn, 1) := by decide +kernel
theorem dX8_use_87 : decode cX8_use 87 = .ok (.aload_n 0, 1) := by decide +kernel
theorem dX8_use_88 : decode cX8_use 88 = .ok (.getfield 137, 3) := by decide +kernel
theorem dX8_use_91 : decode cX8_use 91 = .ok (.sipush 150, 3) := by decide +kernel
theorem dX8_use_94 : decode cX8_use 94 = .ok (.if_icmp .ne 9, 3) := by decide +kernel
theorem dX8_use_97 : decode cX8_use 97 = .ok (.aload_n 0, 1) := by decide +kernel
theorem dX8_use_98 : decode cX8_use 98 = .ok (.iconst 3, 1) := by decide +kernel
theorem dX8_use_99 : decode cX8_use 99 = .ok (.invokevirtual 126, 3) := by decide +kernel
theorem dX8_use_102 : decode cX8_use 102 = .ok (.ireturn, 1) := by decide +kernel
theorem dX8_use_103 : decode cX8_use 103 = .ok (.aload_n 0, 1) := by decide +kernel
theorem dX8_use_104 : decode cX8_use 104 = .ok (.getfield 56, 3) := by decide +kernel
theorem dX8_use_107 : decode cX8_use 107 = .ok (.aload_n 0, 1) := by decide +kernel
theorem dX8_use_108 : decode cX8_use 108 = .ok (.getfield 137, 3) := by decide +kernel
theorem dX8_use_111 : decode cX8_use 111 = .ok (.iload_n 1, 1) := by decide +kernel
theorem dX8_use_112 : decode cX8_use 112 = .ok (.iastore, 1) := by decide +kernel
theorem dX8_use_113 : decode cX8_use 113 = .ok (.aload_n 0, 1) := by decide +kernel
theorem dX8_use_114 : decode cX8_use 114 = .ok (.getfield 59, 3) := by decide +kernel
theorem dX8_use_117 : decode cX8_use 117 = .ok (.aload_n 0, 1) := by decide +kernel
theorem dX8_use_118 : decode cX8_use 118 = .ok (.getfield 137, 3) := by decide +kernel
theorem dX8_use_121 : decode cX8_use 121 = .ok (.iload_n 3, 1) := by decide +kernel
theorem dX8_use_122 : decode cX8_use 122 = .ok (.iastore, 1) := by decide +kernel
theorem dX8_use_123 : decode cX8_use 123 = .ok (.aload_n 0, 1) := by decide +kernel
theorem dX8_use_124 : decode cX8_use 124 = .ok (.dup, 1) := by decide +kernel
theorem dX8_use_125 : decode cX8_use 125 = .ok (.getfield 137, 3) := by decide +kernel
theorem dX8_use_128 : decode cX8_use 128 = .ok (.iconst 1, 1) := by decide +kernel
theorem dX8_use_129 : decode cX8_use 129 = .ok (.iadd, 1) := by decide +kernel
theorem dX8_use_130 : decode cX8_use 130 = .ok (.putfield 137, 3) := by decide +kernel
theorem dX8_use_133 : decode cX8_use 133 = .ok (.aload_n 0, 1) := by decide +kernel
theorem dX8_use_134 : decode cX8_use 134 = .ok (.iconst 0, 1) := by decide +kernel
theorem dX8_use_135 : decode cX8_use 135 = .ok (.putfield 151, 3) := by decide +kernel
theorem dX8_use_138 : decode cX8_use 138 = .ok (.aload_n 0, 1) := by decide +kernel
theorem dX8_use_139 : decode cX8_use 139 = .ok (.aload_n 0, 1) := by decide +kernel
theorem dX8_use_140 : decode cX8_use 140 = .ok (.getfield 137, 3) := by decide +kernel
theorem dX8_use_143 : decode cX8_use 143 = .ok (.iconst 1, 1) := by decide +kernel
theorem dX8_use_144 : decode cX8_use 144 = .ok (.isub, 1) := by decide +kernel
theorem dX8_use_145 : decode cX8_use 145 = .ok (.invokevirtual 130, 3) := by decide +kernel
theorem dX8_use_148 : decode cX8_use 148 = .ok (.ireturn, 1) := by decide +kernel
theorem dX8_find_0 : decode cX8_find 0 = .ok (.aload_n 0, 1) := by decide +kernel
theorem dX8_find_1 : decode cX8_find 1 = .ok (.iconst 0, 1) := by decide +kernel
theorem dX8_find_2 : decode cX8_find 2 = .ok (.putfield 1, 3) := by decide +kernel
theorem dX8_find_5 : decode cX8_find 5 = .ok (.aload_n 0, 1) := by decide +kernel
theorem dX8_find_6 : decode cX8_find 6 = .ok (.iload_n 1, 1) := by decide +kernel
theorem dX8_find_7 : decode cX8_find 7 = .ok (.invokevirtual 123, 3) := by decide +kernel
theorem dX8_find_10 : decode cX8_find 10 = .ok (.ifCond .ne 9, 3) := by decide +kernel
theorem dX8_find_13 : decode cX8_find 13 = .ok (.aload_n 0, 1) := by decide +kernel
theorem dX8_find_14 : decode cX8_find 14 = .ok (.iconst 1, 1) := by decide +kernel
theorem dX8_find_15 : decode cX8_find 15 = .ok (.invokevirtual 126, 3) := by decide +kernel
theorem dX8_find_18 : decode cX8_find 18 = .ok (.ireturn, 1) := by decide +kernel
theorem dX8_find_19 : decode cX8_find 19 = .ok (.aload_n 0, 1) := by decide +kernel
theorem dX8_find_20 : decode cX8_find 20 = .ok (.iload_n 2, 1) := by decide +kernel
theorem dX8_find_21 : decode cX8_find 21 = .ok (.invokevirtual 140, 3) := by decide +kernel
theorem dX8_find_24 : decode cX8_find 24 = .ok (.ifCond .ne 9, 3) := by decide +kernel
theorem dX8_find_27 : decode cX8_find 27 = .ok (.aload_n 0, 1) := by decide +kernel
theorem dX8_find_28 : decode cX8_find 28 = .ok (.iconst 2, 1) := by decide +kernel
theorem dX8_find_29 : decode cX8_find 29 = .ok (.invokevirtual 126, 3) := by decide +kernel
theorem dX8_find_32 : decode cX8_find 32 = .ok (.ireturn, 1) := by decide +kernel
theorem dX8_find_33 : decode cX8_find 33 = .ok (.aload_n 0, 1) := by decide +kernel
theorem dX8_find_34 : decode cX8_find 34 = .ok (.iconst 0, 1) := by decide +kernel
theorem dX8_find_35 : decode cX8_find 35 = .ok (.putfield 10, 3) := by decide +kernel
theorem dX8_find_38 : decode cX8_find 38 = .ok (.aload_n 0, 1) := by decide +kernel
theorem dX8_find_39 : decode cX8_find 39 = .ok (.getfield 13, 3) := by decide +kernel
theorem dX8_find_42 : decode cX8_find 42 = .ok (.iconst 0, 1) := by decide +kernel
theorem dX8_find_43 : decode cX8_find 43 = .ok (.iload_n 2, 1) := by decide +kernel
theorem dX8_find_44 : decode cX8_find 44 = .ok (.invokestatic 143, 3) := by decide +kernel
theorem dX8_find_47 : decode cX8_find 47 = .ok (.ifCond .ne 9, 3) := by decide +kernel
theorem dX8_find_50 : decode cX8_find 50 = .ok (.aload_n 0, 1) := by decide +kernel
theorem dX8_find_51 : decode cX8_find 51 = .ok (.iconst 2, 1) := by decide +kernel
theorem dX8_find_52 : decode cX8_find 52 = .ok (.invokevirtual 126, 3) := by decide +kernel
theorem dX8_find_55 : decode cX8_find 55 = .ok (.ireturn, 1) := by decide +kernel
theorem dX8_find_56 : decode cX8_find 56 = .ok (.aload_n 0, 1) := by decide +kernel
theorem dX8_find_57 : decode cX8_find 57 = .ok (.aload_n 0, 1) := by decide +kernel
theorem dX8_find_58 : decode cX8_find 58 = .ok (.iload_n 1, 1) := by decide +kernel
theorem dX8_find_59 : decode cX8_find 59 = .ok (.aload_n 0, 1) := by decide +kernel
theorem dX8_find_60 : decode cX8_find 60 = .ok (.getfield 13, 3) := by decide +kernel
theorem dX8_find_63 : decode cX8_find 63 = .ok (.iconst 0, 1) := by decide +kernel
theorem dX8_find_64 : decode cX8_find 64 = .ok (.iload_n 2, 1) := by decide +kernel
theorem dX8_find_65 : decode cX8_find 65 = .ok (.aload_n 0, 1) := by decide +kernel
theorem dX8_find_66 : decode cX8_find 66 = .ok (.getfield 62, 3) := by decide +kernel
theorem dX8_find_69 : decode cX8_find 69 = .ok (.aload_n 0, 1) := by decide +kernel
theorem dX8_find_70 : decode cX8_find 70 = .ok (.getfield 53, 3) := by decide +kernel
theorem dX8_find_73 : decode cX8_find 73 = .ok (.invokevirtual 155, 3) := by decide +kernel
theorem dX8_find_76 : decode cX8_find 76 = .ok (.invokevirtual 130, 3) := by decide +kernel
theorem dX8_find_79 : decode cX8_find 79 = .ok (.ireturn, 1) := by decide +kernel
theorem dX8_means_0 : decode cX8_means 0 = .ok (.aload_n 0, 1) := by decide +kernel
theorem dX8_means_1 : decode cX8_means 1 = .ok (.iconst 0, 1) := by decide +kernel
theorem dX8_means_2 : decode cX8_means 2 = .ok (.putfield 1, 3) := by decide +kernel
theorem dX8_means_5 : decode cX8_means 5 = .ok (.iload_n 1, 1) := by decide +kernel
theorem dX8_means_6 : decode cX8_means 6 = .ok (.ifCond .lt 11, 3) := by decide +kernel
theorem dX8_means_9 : decode cX8_means 9 = .ok (.iload_n 1, 1) := by decide +kernel
theorem dX8_means_10 : decode cX8_means 10 = .ok (.aload_n 0, 1) := by decide +kernel
theorem dX8_means_11 : decode cX8_means 11 = .ok (.getfield 137, 3) := by decide +kernel
theorem dX8_means_14 : decode cX8_means 14 = .ok (.if_icmp .lt 5, 3) := by decide +kernel
theorem dX8_means_17 : decode cX8_means 17 = .ok (.iconst (-1), 1) := by decide +kernel
theorem dX8_means_18 : decode cX8_means 18 = .ok (.ireturn, 1) := by decide +kernel
theorem dX8_means_19 : decode cX8_means 19 = .ok (.iload_n 2, 1) := by decide +kernel
theorem dX8_means_20 : decode cX8_means 20 = .ok (.ifCond .ne 12, 3) := by decide +kernel
theorem dX8_means_23 : decode cX8_means 23 = .ok (.aload_n 0, 1) := by decide +kernel
theorem dX8_means_24 : decode cX8_means 24 = .ok (.getfield 56, 3) := by decide +kernel
theorem dX8_means_27 : decode cX8_means 27 = .ok (.iload_n 1, 1) := by decide +kernel
theorem dX8_means_28 : decode cX8_means 28 = .ok (.iaload, 1) := by decide +kernel
theorem dX8_means_29 : decode cX8_means 29 = .ok (.goto 18, 3) := by decide +kernel
theorem dX8_means_32 : decode cX8_means 32 = .ok (.iload_n 2, 1) := by decide +kernel
theorem dX8_means_33 : decode cX8_means 33 = .ok (.iconst 1, 1) := by decide +kernel
theorem dX8_means_34 : decode cX8_means 34 = .ok (.if_icmp .ne 12, 3) := by decide +kernel
theorem dX8_means_37 : decode cX8_means 37 = .ok (.aload_n 0, 1) := by decide +kernel
theorem dX8_means_38 : decode cX8_means 38 = .ok (.getfield 59, 3) := by decide +kernel
theorem dX8_means_41 : decode cX8_means 41 = .ok (.iload_n 1, 1) := by decide +kernel
theorem dX8_means_42 : decode cX8_means 42 = .ok (.iaload, 1) := by decide +kernel
theorem dX8_means_43 : decode cX8_means 43 = .ok (.goto 4, 3) := by decide +kernel
theorem dX8_means_46 : decode cX8_means 46 = .ok (.iconst (-1), 1) := by decide +kernel
theorem dX8_means_47 : decode cX8_means 47 = .ok (.ireturn, 1) := by decide +kernel
theorem dX8_name_0 : decode cX8_name 0 = .ok (.aload_n 0, 1) := by decide +kernel
theorem dX8_name_1 : decode cX8_name 1 = .ok (.aload_n 0, 1) := by decide +kernel
theorem dX8_name_2 : decode cX8_name 2 = .ok (.iload_n 1, 1) := by decide +kernel
theorem dX8_name_3 : decode cX8_name 3 = .ok (.invokevirtual 159, 3) := by decide +kernel
theorem dX8_name_6 : decode cX8_name 6 = .ok (.ifCond .eq 17, 3) := by decide +kernel
theorem dX8_name_9 : decode cX8_name 9 = .ok (.iload_n 2, 1) := by decide +kernel
theorem dX8_name_10 : decode cX8_name 10 = .ok (.ifCond .lt 13, 3) := by decide +kernel
theorem dX8_name_13 : decode cX8_name 13 = .ok (.iload_n 2, 1) := by decide +kernel
theorem dX8_name_14 : decode cX8_name 14 = .ok (.aload_n 0, 1) := by decide +kernel
theorem dX8_name_15 : decode cX8_name 15 = .ok (.getfield 53, 3) := by decide +kernel
theorem dX8_name_18 : decode cX8_name 18 = .ok (.iload_n 1, 1) := by decide +kernel
theorem dX8_name_19 : decode cX8_name 19 = .ok (.iaload, 1) := by decide +kernel
theorem dX8_name_20 : decode cX8_name 20 = .ok (.if_icmp .lt 7, 3) := by decide +kernel
theorem dX8_name_23 : decode cX8_name 23 = .ok (.iconst 1, 1) := by decide +kernel
theorem dX8_name_24 : decode cX8_name 24 = .ok (.goto 4, 3) := by decide +kernel
theorem dX8_name_27 : decode cX8_name 27 = .ok (.iconst 0, 1) := by decide +kernel
theorem dX8_name_28 : decode cX8_name 28 = .ok (.putfield 1, 3) := by decide +kernel
theorem dX8_name_31 : decode cX8_name 31 = .ok (.aload_n 0, 1) := by decide +kernel
theorem dX8_name_32 : decode cX8_name 32 = .ok (.getfield 1, 3) := by decide +kernel
theorem dX8_name_35 : decode cX8_name 35 = .ok (.ifCond .le 7, 3) := by decide +kernel
theorem dX8_name_38 : decode cX8_name 38 = .ok (.iconst 0, 1) := by decide +kernel
theorem dX8_name_39 : decode cX8_name 39 = .ok (.goto 14, 3) := by decide +kernel
theorem dX8_name_42 : decode cX8_name 42 = .ok (.aload_n 0, 1) := by decide +kernel
theorem dX8_name_43 : decode cX8_name 43 = .ok (.getfield 62, 3) := by decide +kernel
theorem dX8_name_46 : decode cX8_name 46 = .ok (.bipush 24, 2) := by decide +kernel
theorem dX8_name_48 : decode cX8_name 48 = .ok (.iload_n 1, 1) := by decide +kernel
theorem dX8_name_49 : decode cX8_name 49 = .ok (.imul, 1) := by decide +kernel
theorem dX8_name_50 : decode cX8_name 50 = .ok (.iload_n 2, 1) := by decide +kernel
theorem dX8_name_51 : decode cX8_name 51 = .ok (.iadd, 1) := by decide +kernel
theorem dX8_name_52 : decode cX8_name 52 = .ok (.baload, 1) := by decide +kernel
theorem dX8_name_53 : decode cX8_name 53 = .ok (.ireturn, 1) := by decide +kernel
theorem dX8_cuts_0 : decode cX8_cuts 0 = .ok (.aload_n 0, 1) := by decide +kernel
theorem dX8_cuts_1 : decode cX8_cuts 1 = .ok (.iconst 0, 1) := by decide +kernel
theorem dX8_cuts_2 : decode cX8_cuts 2 = .ok (.putfield 162, 3) := by decide +kernel
theorem dX8_cuts_5 : decode cX8_cuts 5 = .ok (.iconst 0, 1) := by decide +kernel
theorem dX8_cuts_6 : decode cX8_cuts 6 = .ok (.istore_n 2, 1) := by decide +kernel
theorem dX8_cuts_7 : decode cX8_cuts 7 = .ok (.iload_n 2, 1) := by decide +kernel
theorem dX8_cuts_8 : decode cX8_cuts 8 = .ok (.aload_n 0, 1) := by decide +kernel
theorem dX8_cuts_9 : decode cX8_cuts 9 = .ok (.getfield 53, 3) := by decide +kernel
theorem dX8_cuts_12 : decode cX8_cuts 12 = .ok (.iload_n 1, 1) := by decide +kernel
theorem dX8_cuts_13 : decode cX8_cuts 13 = .ok (.iaload, 1) := by decide +kernel
theorem dX8_cuts_14 : decode cX8_cuts 14 = .ok (.if_icmp .ge 189, 3) := by decide +kernel
theorem dX8_cuts_17 : decode cX8_cuts 17 = .ok (.aload_n 0, 1) := by decide +kernel
theorem dX8_cuts_18 : decode cX8_cuts 18 = .ok (.getfield 62, 3) := by decide +kernel
theorem dX8_cuts_21 : decode cX8_cuts 21 = .ok (.bipush 24, 2) := by decide +kernel
theorem dX8_cuts_23 : decode cX8_cuts 23 = .ok (.iload_n 1, 1) := by decide +kernel
theorem dX8_cuts_24 : decode cX8_cuts 24 = .ok (.imul, 1) := by decide +kernel
theorem dX8_cuts_25 : decode cX8_cuts 25 = .ok (.iload_n 2, 1) := by decide +kernel
theorem dX8_cuts_26 : decode cX8_cuts 26 = .ok (.iadd, 1) := by decide +kernel
theorem dX8_cuts_27 : decode cX8_cuts 27 = .ok (.baload, 1) := by decide +kernel
theorem dX8_cuts_28 : decode cX8_cuts 28 = .ok (.istore_n 3, 1) := by decide +kernel
theorem dX8_cuts_29 : decode cX8_cuts 29 = .ok (.iload_n 3, 1) := by decide +kernel
theorem dX8_cuts_30 : decode cX8_cuts 30 = .ok (.bipush 95, 2) := by decide +kernel
theorem dX8_cuts_32 : decode cX8_cuts 32 = .ok (.if_icmp .ne 6, 3) := by decide +kernel
theorem dX8_cuts_35 : decode cX8_cuts 35 = .ok (.goto 162, 3) := by decide +kernel
theorem dX8_cuts_38 : decode cX8_cuts 38 = .ok (.iload_n 2, 1) := by decide +kernel
theorem dX8_cuts_39 : decode cX8_cuts 39 = .ok (.ifCond .ne 8, 3) := by decide +kernel
theorem dX8_cuts_42 : decode cX8_cuts 42 = .ok (.bipush 95, 2) := by decide +kernel
theorem dX8_cuts_44 : decode cX8_cuts 44 = .ok (.goto 16, 3) := by decide +kernel
theorem dX8_cuts_47 : decode cX8_cuts 47 = .ok (.aload_n 0, 1) := by decide +kernel
theorem dX8_cuts_48 : decode cX8_cuts 48 = .ok (.getfield 62, 3) := by decide +kernel
theorem dX8_cuts_51 : decode cX8_cuts 51 = .ok (.bipush 24, 2) := by decide +kernel
theorem dX8_cuts_53 : decode cX8_cuts 53 = .ok (.iload_n 1, 1) := by decide +kernel
theorem dX8_cuts_54 : decode cX8_cuts 54 = .ok (.imul, 1) := by decide +kernel
theorem dX8_cuts_55 : decode cX8_cuts 55 = .ok (.iload_n 2, 1) := by decide +kernel
theorem dX8_cuts_56 : decode cX8_cuts 56 = .ok (.iadd, 1) := by decide +kernel
theorem dX8_cuts_57 : decode cX8_cuts 57 = .ok (.iconst 1, 1) := by decide +kernel
theorem dX8_cuts_58 : decode cX8_cuts 58 = .ok (.isub, 1) := by decide +kernel
theorem dX8_cuts_59 : decode cX8_cuts 59 = .ok (.baload, 1) := by decide +kernel
theorem dX8_cuts_60 : decode cX8_cuts 60 = .ok (.istore 4, 2) := by decide +kernel
theorem dX8_cuts_62 : decode cX8_cuts 62 = .ok (.iload_n 2, 1) := by decide +kernel
theorem dX8_cuts_63 : decode cX8_cuts 63 = .ok (.iconst 1, 1) := by decide +kernel
theorem dX8_cuts_64 : decode cX8_cuts 64 = .ok (.iadd, 1) := by decide +kernel
theorem dX8_cuts_65 : decode cX8_cuts 65 = .ok (.aload_n 0, 1) := by decide +kernel
theorem dX8_cuts_66 : decode cX8_cuts 66 = .ok (.getfield 53, 3) := by decide +kernel
theorem dX8_cuts_69 : decode cX8_cuts 69 = .ok (.iload_n 1, 1) := by decide +kernel
theorem dX8_cuts_70 : decode cX8_cuts 70 = .ok (.iaload, 1) := by decide +kernel
theorem dX8_cuts_71 : decode cX8_cuts 71 = .ok (.if_icmp .ge 19, 3) := by decide +kernel
theorem dX8_cuts_74 : decode cX8_cuts 74 = .ok (.aload_n 0, 1) := by decide +kernel
theorem dX8_cuts_75 : decode cX8_cuts 75 = .ok (.getfield 62, 3) := by decide +kernel
theorem dX8_cuts_78 : decode cX8_cuts 78 = .ok (.bipush 24, 2) := by decide +kernel
theorem dX8_cuts_80 : decode cX8_cuts 80 = .ok (.iload_n 1, 1) := by decide +kernel
theorem dX8_cuts_81 : decode cX8_cuts 81 = .ok (.imul, 1) := by decide +kernel
theorem dX8_cuts_82 : decode cX8_cuts 82 = .ok (.iload_n 2, 1) := by decide +kernel
theorem dX8_cuts_83 : decode cX8_cuts 83 = .ok (.iadd, 1) := by decide +kernel
theorem dX8_cuts_84 : decode cX8_cuts 84 = .ok (.iconst 1, 1) := by decide +kernel
theorem dX8_cuts_85 : decode cX8_cuts 85 = .ok (.iadd, 1) := by decide +kernel
theorem dX8_cuts_86 : decode cX8_cuts 86 = .ok (.baload, 1) := by decide +kernel
theorem dX8_cuts_87 : decode cX8_cuts 87 = .ok (.goto 5, 3) := by decide +kernel
theorem dX8_cuts_90 : decode cX8_cuts 90 = .ok (.bipush 95, 2) := by decide +kernel
theorem dX8_cuts_92 : decode cX8_cuts 92 = .ok (.istore 5, 2) := by decide +kernel
theorem dX8_cuts_94 : decode cX8_cuts 94 = .ok (.iload 4, 2) := by decide +kernel
theorem dX8_cuts_96 : decode cX8_cuts 96 = .ok (.bipush 95, 2) := by decide +kernel
theorem dX8_cuts_98 : decode cX8_cuts 98 = .ok (.if_icmp .eq 53, 3) := by decide +kernel
theorem dX8_cuts_101 : decode cX8_cuts 101 = .ok (.iload 4, 2) := by decide +kernel
theorem dX8_cuts_103 : decode cX8_cuts 103 = .ok (.invokestatic 17, 3) := by decide +kernel
theorem dX8_cuts_106 : decode cX8_cuts 106 = .ok (.ifCond .eq 10, 3) := by decide +kernel
theorem dX8_cuts_109 : decode cX8_cuts 109 = .ok (.iload_n 3, 1) := by decide +kernel
theorem dX8_cuts_110 : decode cX8_cuts 110 = .ok (.invokestatic 21, 3) := by decide +kernel
theorem dX8_cuts_113 : decode cX8_cuts 113 = .ok (.ifCond .ne 38, 3) := by decide +kernel
theorem dX8_cuts_116 : decode cX8_cuts 116 = .ok (.iload 4, 2) := by decide +kernel
theorem dX8_cuts_118 : decode cX8_cuts 118 = .ok (.invokestatic 21, 3) := by decide +kernel
theorem dX8_cuts_121 : decode cX8_cuts 121 = .ok (.ifCond .eq 18, 3) := by decide +kernel
theorem dX8_cuts_124 : decode cX8_cuts 124 = .ok (.iload_n 3, 1) := by decide +kernel
theorem dX8_cuts_125 : decode cX8_cuts 125 = .ok (.invokestatic 21, 3) := by decide +kernel
theorem dX8_cuts_128 : decode cX8_cuts 128 = .ok (.ifCond .eq 11, 3) := by decide +kernel
theorem dX8_cuts_131 : decode cX8_cuts 131 = .ok (.iload 5, 2) := by decide +kernel
theorem dX8_cuts_133 : decode cX8_cuts 133 = .ok (.invokestatic 17, 3) := by decide +kernel
theorem dX8_cuts_136 : decode cX8_cuts 136 = .ok (.ifCond .ne 15, 3) := by decide +kernel
theorem dX8_cuts_139 : decode cX8_cuts 139 = .ok (.iload 4, 2) := by decide +kernel
theorem dX8_cuts_141 : decode cX8_cuts 141 = .ok (.invokestatic 28, 3) := by decide +kernel
theorem dX8_cuts_144 : decode cX8_cuts 144 = .ok (.iload_n 3, 1) := by decide +kernel
theorem dX8_cuts_145 : decode cX8_cuts 145 = .ok (.invokestatic 28, 3) := by decide +kernel
theorem dX8_cuts_148 : decode cX8_cuts 148 = .ok (.if_icmp .eq 7, 3) := by decide +kernel
theorem dX8_cuts_151 : decode cX8_cuts 151 = .ok (.iconst 1, 1) := by decide +kernel
theorem dX8_cuts_152 : decode cX8_cuts 152 = .ok (.goto 4, 3) := by decide +kernel
theorem dX8_cuts_155 : decode cX8_cuts 155 = .ok (.iconst 0, 1) := by decide +kernel
theorem dX8_cuts_156 : decode cX8_cuts 156 = .ok (.istore 6, 2) := by decide +kernel
theorem dX8_cuts_158 : decode cX8_cuts 158 = .ok (.iload 6, 2) := by decide +kernel
theorem dX8_cuts_160 : decode cX8_cuts 160 = .ok (.ifCond .eq 23, 3) := by decide +kernel
theorem dX8_cuts_163 : decode cX8_cuts 163 = .ok (.aload_n 0, 1) := by decide +kernel
theorem dX8_cuts_164 : decode cX8_cuts 164 = .ok (.getfield 65, 3) := by decide +kernel
theorem dX8_cuts_167 : decode cX8_cuts 167 = .ok (.aload_n 0, 1) := by decide +kernel
theorem dX8_cuts_168 : decode cX8_cuts 168 = .ok (.getfield 162, 3) := by decide +kernel
theorem dX8_cuts_171 : decode cX8_cuts 171 = .ok (.iload_n 2, 1) := by decide +kernel
theorem dX8_cuts_172 : decode cX8_cuts 172 = .ok (.iastore, 1) := by decide +kernel
theorem dX8_cuts_173 : decode cX8_cuts 173 = .ok (.aload_n 0, 1) := by decide +kernel
theorem dX8_cuts_174 : decode cX8_cuts 174 = .ok (.dup, 1) := by decide +kernel
theorem dX8_cuts_175 : decode cX8_cuts 175 = .ok (.getfield 162, 3) := by decide +kernel
theorem dX8_cuts_178 : decode cX8_cuts 178 = .ok (.iconst 1, 1) := by decide +kernel
theorem dX8_cuts_179 : decode cX8_cuts 179 = .ok (.iadd, 1) := by decide +kernel
theorem dX8_cuts_180 : decode cX8_cuts 180 = .ok (.putfield 162, 3) := by decide +kernel
theorem dX8_cuts_183 : decode cX8_cuts 183 = .ok (.aload_n 0, 1) := by decide +kernel
theorem dX8_cuts_184 : decode cX8_cuts 184 = .ok (.getfield 68, 3) := by decide +kernel
theorem dX8_cuts_187 : decode cX8_cuts 187 = .ok (.aload_n 0, 1) := by decide +kernel
theorem dX8_cuts_188 : decode cX8_cuts 188 = .ok (.getfield 162, 3) := by decide +kernel
theorem dX8_cuts_191 : decode cX8_cuts 191 = .ok (.iconst 1, 1) := by decide +kernel
theorem dX8_cuts_192 : decode cX8_cuts 192 = .ok (.isub, 1) := by decide +kernel
theorem dX8_cuts_193 : decode cX8_cuts 193 = .ok (.iload_n 2, 1) := by decide +kernel
theorem dX8_cuts_194 : decode cX8_cuts 194 = .ok (.iconst 1, 1) := by decide +kernel
theorem dX8_cuts_195 : decode cX8_cuts 195 = .ok (.iadd, 1) := by decide +kernel
theorem dX8_cuts_196 : decode cX8_cuts 196 = .ok (.iastore, 1) := by decide +kernel
theorem dX8_cuts_197 : decode cX8_cuts 197 = .ok (.iinc 2 1, 3) := by decide +kernel
theorem dX8_cuts_200 : decode cX8_cuts 200 = .ok (.goto (-193), 3) := by decide +kernel
theorem dX8_cuts_203 : decode cX8_cuts 203 = .ok (.return_, 1) := by decide +kernel
theorem dX8_styleOf_0 : decode cX8_styleOf 0 = .ok (.iconst 0, 1) := by decide +kernel
theorem dX8_styleOf_1 : decode cX8_styleOf 1 = .ok (.istore_n 2, 1) := by decide +kernel
theorem dX8_styleOf_2 : decode cX8_styleOf 2 = .ok (.iconst 0, 1) := by decide +kernel
theorem dX8_styleOf_3 : decode cX8_styleOf 3 = .ok (.istore_n 3, 1) := by decide +kernel
theorem dX8_styleOf_4 : decode cX8_styleOf 4 = .ok (.iconst 0, 1) := by decide +kernel
theorem dX8_styleOf_5 : decode cX8_styleOf 5 = .ok (.istore 4, 2) := by decide +kernel
theorem dX8_styleOf_7 : decode cX8_styleOf 7 = .ok (.iconst 0, 1) := by decide +kernel
theorem dX8_styleOf_8 : decode cX8_styleOf 8 = .ok (.istore 5, 2) := by decide +kernel
theorem dX8_styleOf_10 : decode cX8_styleOf 10 = .ok (.bipush 24, 2) := by decide +kernel
theorem dX8_styleOf_12 : decode cX8_styleOf 12 = .ok (.iload_n 1, 1) := by decide +kernel
theorem dX8_styleOf_13 : decode cX8_styleOf 13 = .ok (.imul, 1) := by decide +kernel
theorem dX8_styleOf_14 : decode cX8_styleOf 14 = .ok (.aload_n 0, 1) := by decide +kernel
theorem dX8_styleOf_15 : decode cX8_styleOf 15 = .ok (.getfield 53, 3) := by decide +kernel
theorem dX8_styleOf_18 : decode cX8_styleOf 18 = .ok (.iload_n 1, 1) := by decide +kernel
theorem dX8_styleOf_19 : decode cX8_styleOf 19 = .ok (.iaload, 1) := by decide +kernel
theorem dX8_styleOf_20 : decode cX8_styleOf 20 = .ok (.iadd, 1) := by decide +kernel
theorem dX8_styleOf_21 : decode cX8_styleOf 21 = .ok (.iconst 1, 1) := by decide +kernel
theorem dX8_styleOf_22 : decode cX8_styleOf 22 = .ok (.isub, 1) := by decide +kernel
theorem dX8_styleOf_23 : decode cX8_styleOf 23 = .ok (.istore 6, 2) := by decide +kernel
theorem dX8_styleOf_25 : decode cX8_styleOf 25 = .ok (.iload 6, 2) := by decide +kernel
theorem dX8_styleOf_27 : decode cX8_styleOf 27 = .ok (.bipush 24, 2) := by decide +kernel
theorem dX8_styleOf_29 : decode cX8_styleOf 29 = .ok (.iload_n 1, 1) := by decide +kernel
theorem dX8_styleOf_30 : decode cX8_styleOf 30 = .ok (.imul, 1) := by decide +kernel
theorem dX8_styleOf_31 : decode cX8_styleOf 31 = .ok (.if_icmp .lt 101, 3) := by decide +kernel
theorem dX8_styleOf_34 : decode cX8_styleOf 34 = .ok (.iload_n 2, 1) := by decide +kernel
theorem dX8_styleOf_35 : decode cX8_styleOf 35 = .ok (.ifCond .ne 15, 3) := by decide +kernel
theorem dX8_styleOf_38 : decode cX8_styleOf 38 = .ok (.aload_n 0, 1) := by decide +kernel
theorem dX8_styleOf_39 : decode cX8_styleOf 39 = .ok (.getfield 62, 3) := by decide +kernel
theorem dX8_styleOf_42 : decode cX8_styleOf 42 = .ok (.iload 6, 2) := by decide +kernel
theorem dX8_styleOf_44 : decode cX8_styleOf 44 = .ok (.baload, 1) := by decide +kernel
theorem dX8_styleOf_45 : decode cX8_styleOf 45 = .ok (.bipush 95, 2) := by decide +kernel
theorem dX8_styleOf_47 : decode cX8_styleOf 47 = .ok (.if_icmp .ne 7, 3) := by decide +kernel
theorem dX8_styleOf_50 : decode cX8_styleOf 50 = .ok (.iconst 1, 1) := by decide +kernel
theorem dX8_styleOf_51 : decode cX8_styleOf 51 = .ok (.goto 4, 3) := by decide +kernel
theorem dX8_styleOf_54 : decode cX8_styleOf 54 = .ok (.iconst 0, 1) := by decide +kernel
theorem dX8_styleOf_55 : decode cX8_styleOf 55 = .ok (.istore_n 2, 1) := by decide +kernel
theorem dX8_styleOf_56 : decode cX8_styleOf 56 = .ok (.iload_n 3, 1) := by decide +kernel
theorem dX8_styleOf_57 : decode cX8_styleOf 57 = .ok (.ifCond .ne 16, 3) := by decide +kernel
theorem dX8_styleOf_60 : decode cX8_styleOf 60 = .ok (.aload_n 0, 1) := by decide +kernel
theorem dX8_styleOf_61 : decode cX8_styleOf 61 = .ok (.getfield 62, 3) := by decide +kernel
theorem dX8_styleOf_64 : decode cX8_styleOf 64 = .ok (.iload 6, 2) := by decide +kernel
theorem dX8_styleOf_66 : decode cX8_styleOf 66 = .ok (.baload, 1) := by decide +kernel
theorem dX8_styleOf_67 : decode cX8_styleOf 67 = .ok (.invokestatic 21, 3) := by decide +kernel
theorem dX8_styleOf_70 : decode cX8_styleOf 70 = .ok (.ifCond .eq 7, 3) := by decide +kernel
theorem dX8_styleOf_73 : decode cX8_styleOf 73 = .ok (.iconst 1, 1) := by decide +kernel
theorem dX8_styleOf_74 : decode cX8_styleOf 74 = .ok (.goto 4, 3) := by decide +kernel
theorem dX8_styleOf_77 : decode cX8_styleOf 77 = .ok (.iconst 0, 1) := by decide +kernel
theorem dX8_styleOf_78 : decode cX8_styleOf 78 = .ok (.istore_n 3, 1) := by decide +kernel
theorem dX8_styleOf_79 : decode cX8_styleOf 79 = .ok (.iload 4, 2) := by decide +kernel
theorem dX8_styleOf_81 : decode cX8_styleOf 81 = .ok (.ifCond .ne 16, 3) := by decide +kernel
theorem dX8_styleOf_84 : decode cX8_styleOf 84 = .ok (.aload_n 0, 1) := by decide +kernel
theorem dX8_styleOf_85 : decode cX8_styleOf 85 = .ok (.getfield 62, 3) := by decide +kernel
theorem dX8_styleOf_88 : decode cX8_styleOf 88 = .ok (.iload 6, 2) := by decide +kernel
theorem dX8_styleOf_90 : decode cX8_styleOf 90 = .ok (.baload, 1) := by decide +kernel
theorem dX8_styleOf_91 : decode cX8_styleOf 91 = .ok (.invokestatic 17, 3) := by decide +kernel
theorem dX8_styleOf_94 : decode cX8_styleOf 94 = .ok (.ifCond .eq 7, 3) := by decide +kernel
theorem dX8_styleOf_97 : decode cX8_styleOf 97 = .ok (.iconst 1, 1) := by decide +kernel
theorem dX8_styleOf_98 : decode cX8_styleOf 98 = .ok (.goto 4, 3) := by decide +kernel
theorem dX8_styleOf_101 : decode cX8_styleOf 101 = .ok (.iconst 0, 1) := by decide +kernel
theorem dX8_styleOf_102 : decode cX8_styleOf 102 = .ok (.istore 4, 2) := by decide +kernel
theorem dX8_styleOf_104 : decode cX8_styleOf 104 = .ok (.aload_n 0, 1) := by decide +kernel
theorem dX8_styleOf_105 : decode cX8_styleOf 105 = .ok (.getfield 62, 3) := by decide +kernel
theorem dX8_styleOf_108 : decode cX8_styleOf 108 = .ok (.iload 6, 2) := by decide +kernel
theorem dX8_styleOf_110 : decode cX8_styleOf 110 = .ok (.baload, 1) := by decide +kernel
theorem dX8_styleOf_111 : decode cX8_styleOf 111 = .ok (.invokestatic 31, 3) := by decide +kernel
theorem dX8_styleOf_114 : decode cX8_styleOf 114 = .ok (.ifCond .eq 12, 3) := by decide +kernel
theorem dX8_styleOf_117 : decode cX8_styleOf 117 = .ok (.aload_n 0, 1) := by decide +kernel
theorem dX8_styleOf_118 : decode cX8_styleOf 118 = .ok (.getfield 62, 3) := by decide +kernel
theorem dX8_styleOf_121 : decode cX8_styleOf 121 = .ok (.iload 6, 2) := by decide +kernel
theorem dX8_styleOf_123 : decode cX8_styleOf 123 = .ok (.baload, 1) := by decide +kernel
theorem dX8_styleOf_124 : decode cX8_styleOf 124 = .ok (.istore 5, 2) := by decide +kernel
theorem dX8_styleOf_126 : decode cX8_styleOf 126 = .ok (.iinc 6 (-1), 3) := by decide +kernel
theorem dX8_styleOf_129 : decode cX8_styleOf 129 = .ok (.goto (-104), 3) := by decide +kernel
theorem dX8_styleOf_132 : decode cX8_styleOf 132 = .ok (.iload_n 2, 1) := by decide +kernel
theorem dX8_styleOf_133 : decode cX8_styleOf 133 = .ok (.ifCond .eq 11, 3) := by decide +kernel
theorem dX8_styleOf_136 : decode cX8_styleOf 136 = .ok (.iload_n 3, 1) := by decide +kernel
theorem dX8_styleOf_137 : decode cX8_styleOf 137 = .ok (.ifCond .ne 7, 3) := by decide +kernel
theorem dX8_styleOf_140 : decode cX8_styleOf 140 = .ok (.iconst 2, 1) := by decide +kernel
theorem dX8_styleOf_141 : decode cX8_styleOf 141 = .ok (.goto 29, 3) := by decide +kernel
theorem dX8_styleOf_144 : decode cX8_styleOf 144 = .ok (.iload_n 2, 1) := by decide +kernel
theorem dX8_styleOf_145 : decode cX8_styleOf 145 = .ok (.ifCond .eq 12, 3) := by decide +kernel
theorem dX8_styleOf_148 : decode cX8_styleOf 148 = .ok (.iload 4, 2) := by decide +kernel
theorem dX8_styleOf_150 : decode cX8_styleOf 150 = .ok (.ifCond .ne 7, 3) := by decide +kernel
theorem dX8_styleOf_153 : decode cX8_styleOf 153 = .ok (.iconst 3, 1) := by decide +kernel
theorem dX8_styleOf_154 : decode cX8_styleOf 154 = .ok (.goto 16, 3) := by decide +kernel
theorem dX8_styleOf_157 : decode cX8_styleOf 157 = .ok (.iload 5, 2) := by decide +kernel
theorem dX8_styleOf_159 : decode cX8_styleOf 159 = .ok (.invokestatic 21, 3) := by decide +kernel
theorem dX8_styleOf_162 : decode cX8_styleOf 162 = .ok (.ifCond .eq 7, 3) := by decide +kernel
theorem dX8_styleOf_165 : decode cX8_styleOf 165 = .ok (.iconst 1, 1) := by decide +kernel
theorem dX8_styleOf_166 : decode cX8_styleOf 166 = .ok (.goto 4, 3) := by decide +kernel
theorem dX8_styleOf_169 : decode cX8_styleOf 169 = .ok (.iconst 0, 1) := by decide +kernel
theorem dX8_styleOf_170 : decode cX8_styleOf 170 = .ok (.ireturn, 1) := by decide +kernel
theorem dX8_low_0 : decode cX8_low 0 = .ok (.iload_n 0, 1) := by decide +kernel
theorem dX8_low_1 : decode cX8_low 1 = .ok (.invokestatic 21, 3) := by decide +kernel
theorem dX8_low_4 : decode cX8_low 4 = .ok (.ifCond .eq 10, 3) := by decide +kernel
theorem dX8_low_7 : decode cX8_low 7 = .ok (.iload_n 0, 1) := by decide +kernel
theorem dX8_low_8 : decode cX8_low 8 = .ok (.bipush 32, 2) := by decide +kernel
theorem dX8_low_10 : decode cX8_low 10 = .ok (.iadd, 1) := by decide +kernel
theorem dX8_low_11 : decode cX8_low 11 = .ok (.goto 4, 3) := by decide +kernel
theorem dX8_low_14 : decode cX8_low 14 = .ok (.iload_n 0, 1) := by decide +kernel
theorem dX8_low_15 : decode cX8_low 15 = .ok (.ireturn, 1) := by decide +kernel
theorem dX8_isWord_0 : decode cX8_isWord 0 = .ok (.iload_n 1, 1) := by decide +kernel
theorem dX8_isWord_1 : decode cX8_isWord 1 = .ok (.ifCond .lt 15, 3) := by decide +kernel
theorem dX8_isWord_4 : decode cX8_isWord 4 = .ok (.iload_n 1, 1) := by decide +kernel
theorem dX8_isWord_5 : decode cX8_isWord 5 = .ok (.aload_n 0, 1) := by decide +kernel
theorem dX8_isWord_6 : decode cX8_isWord 6 = .ok (.getfield 165, 3) := by decide +kernel
theorem dX8_isWord_9 : decode cX8_isWord 9 = .ok (.if_icmp .ge 7, 3) := by decide +kernel
theorem dX8_isWord_12 : decode cX8_isWord 12 = .ok (.iconst 1, 1) := by decide +kernel
theorem dX8_isWord_13 : decode cX8_isWord 13 = .ok (.goto 4, 3) := by decide +kernel
theorem dX8_isWord_16 : decode cX8_isWord 16 = .ok (.iconst 0, 1) := by decide +kernel
theorem dX8_isWord_17 : decode cX8_isWord 17 = .ok (.ireturn, 1) := by decide +kernel
theorem dX8_word_0 : decode cX8_word 0 = .ok (.aload_n 0, 1) := by decide +kernel
theorem dX8_word_1 : decode cX8_word 1 = .ok (.iconst 0, 1) := by decide +kernel
theorem dX8_word_2 : decode cX8_word 2 = .ok (.putfield 1, 3) := by decide +kernel
theorem dX8_word_5 : decode cX8_word 5 = .ok (.iload_n 1, 1) := by decide +kernel
theorem dX8_word_6 : decode cX8_word 6 = .ok (.iconst 0, 1) := by decide +kernel
theorem dX8_word_7 : decode cX8_word 7 = .ok (.bipush 15, 2) := by decide +kernel
theorem dX8_word_9 : decode cX8_word 9 = .ok (.invokestatic 24, 3) := by decide +kernel
theorem dX8_word_12 : decode cX8_word 12 = .ok (.ifCond .eq 11, 3) := by decide +kernel
theorem dX8_word_15 : decode cX8_word 15 = .ok (.aload_n 0, 1) := by decide +kernel
theorem dX8_word_16 : decode cX8_word 16 = .ok (.iload_n 2, 1) := by decide +kernel
theorem dX8_word_17 : decode cX8_word 17 = .ok (.invokevirtual 140, 3) := by decide +kernel
theorem dX8_word_20 : decode cX8_word 20 = .ok (.ifCond .ne 9, 3) := by decide +kernel
theorem dX8_word_23 : decode cX8_word 23 = .ok (.aload_n 0, 1) := by decide +kernel
theorem dX8_word_24 : decode cX8_word 24 = .ok (.iconst 2, 1) := by decide +kernel
theorem dX8_word_25 : decode cX8_word 25 = .ok (.invokevirtual 126, 3) := by decide +kernel
theorem dX8_word_28 : decode cX8_word 28 = .ok (.ireturn, 1) := by decide +kernel
theorem dX8_word_29 : decode cX8_word 29 = .ok (.aload_n 0, 1) := by decide +kernel
theorem dX8_word_30 : decode cX8_word 30 = .ok (.iconst 0, 1) := by decide +kernel
theorem dX8_word_31 : decode cX8_word 31 = .ok (.putfield 10, 3) := by decide +kernel
theorem dX8_word_34 : decode cX8_word 34 = .ok (.iload_n 2, 1) := by decide +kernel
theorem dX8_word_35 : decode cX8_word 35 = .ok (.iconst 1, 1) := by decide +kernel
theorem dX8_word_36 : decode cX8_word 36 = .ok (.bipush 12, 2) := by decide +kernel
theorem dX8_word_38 : decode cX8_word 38 = .ok (.invokestatic 24, 3) := by decide +kernel
theorem dX8_word_41 : decode cX8_word 41 = .ok (.istore_n 3, 1) := by decide +kernel
theorem dX8_word_42 : decode cX8_word 42 = .ok (.iconst 0, 1) := by decide +kernel
theorem dX8_word_43 : decode cX8_word 43 = .ok (.istore 4, 2) := by decide +kernel
theorem dX8_word_45 : decode cX8_word 45 = .ok (.iload 4, 2) := by decide +kernel
theorem dX8_word_47 : decode cX8_word 47 = .ok (.iload_n 2, 1) := by decide +kernel
theorem dX8_word_48 : decode cX8_word 48 = .ok (.if_icmp .ge 24, 3) := by decide +kernel
theorem dX8_word_51 : decode cX8_word 51 = .ok (.iload_n 3, 1) := by decide +kernel
theorem dX8_word_52 : decode cX8_word 52 = .ok (.ifCond .eq 20, 3) := by decide +kernel
theorem dX8_word_55 : decode cX8_word 55 = .ok (.aload_n 0, 1) := by decide +kernel
theorem dX8_word_56 : decode cX8_word 56 = .ok (.getfield 13, 3) := by decide +kernel
theorem dX8_word_59 : decode cX8_word 59 = .ok (.iload 4, 2) := by decide +kernel
theorem dX8_word_61 : decode cX8_word 61 = .ok (.baload, 1) := by decide +kernel
theorem dX8_word_62 : decode cX8_word 62 = .ok (.invokestatic 17, 3) := by decide +kernel
theorem dX8_word_65 : decode cX8_word 65 = .ok (.istore_n 3, 1) := by decide +kernel
theorem dX8_word_66 : decode cX8_word 66 = .ok (.iinc 4 1, 3) := by decide +kernel
theorem dX8_word_69 : decode cX8_word 69 = .ok (.goto (-24), 3) := by decide +kernel
theorem dX8_word_72 : decode cX8_word 72 = .ok (.iload_n 3, 1) := by decide +kernel
theorem dX8_word_73 : decode cX8_word 73 = .ok (.ifCond .ne 9, 3) := by decide +kernel
theorem dX8_word_76 : decode cX8_word 76 = .ok (.aload_n 0, 1) := by decide +kernel
theorem dX8_word_77 : decode cX8_word 77 = .ok (.iconst 2, 1) := by decide +kernel
theorem dX8_word_78 : decode cX8_word 78 = .ok (.invokevirtual 126, 3) := by decide +kernel
theorem dX8_word_81 : decode cX8_word 81 = .ok (.ireturn, 1) := by decide +kernel
theorem dX8_word_82 : decode cX8_word 82 = .ok (.iconst 0, 1) := by decide +kernel
theorem dX8_word_83 : decode cX8_word 83 = .ok (.istore 4, 2) := by decide +kernel
theorem dX8_word_85 : decode cX8_word 85 = .ok (.iconst 0, 1) := by decide +kernel
theorem dX8_word_86 : decode cX8_word 86 = .ok (.istore 5, 2) := by decide +kernel
theorem dX8_word_88 : decode cX8_word 88 = .ok (.iload 5, 2) := by decide +kernel
theorem dX8_word_90 : decode cX8_word 90 = .ok (.aload_n 0, 1) := by decide +kernel
theorem dX8_word_91 : decode cX8_word 91 = .ok (.getfield 165, 3) := by decide +kernel
theorem dX8_word_94 : decode cX8_word 94 = .ok (.if_icmp .ge 49, 3) := by decide +kernel
theorem dX8_word_97 : decode cX8_word 97 = .ok (.iload 4, 2) := by decide +kernel
theorem dX8_word_99 : decode cX8_word 99 = .ok (.ifCond .ne 31, 3) := by decide +kernel
theorem dX8_word_102 : decode cX8_word 102 = .ok (.aload_n 0, 1) := by decide +kernel
theorem dX8_word_103 : decode cX8_word 103 = .ok (.getfield 71, 3) := by decide +kernel
theorem dX8_word_106 : decode cX8_word 106 = .ok (.bipush 12, 2) := by decide +kernel
theorem dX8_word_108 : decode cX8_word 108 = .ok (.iload 5, 2) := by decide +kernel
theorem dX8_word_110 : decode cX8_word 110 = .ok (.imul, 1) := by decide +kernel
theorem dX8_word_111 : decode cX8_word 111 = .ok (.aload_n 0, 1) := by decide +kernel
theorem dX8_word_112 : decode cX8_word 112 = .ok (.getfield 74, 3) := by decide +kernel
theorem dX8_word_115 : decode cX8_word 115 = .ok (.iload 5, 2) := by decide +kernel
theorem dX8_word_117 : decode cX8_word 117 = .ok (.iaload, 1) := by decide +kernel
theorem dX8_word_118 : decode cX8_word 118 = .ok (.aload_n 0, 1) := by decide +kernel
theorem dX8_word_119 : decode cX8_word 119 = .ok (.getfield 13, 3) := by decide +kernel
theorem dX8_word_122 : decode cX8_word 122 = .ok (.iconst 0, 1) := by decide +kernel
theorem dX8_word_123 : decode cX8_word 123 = .ok (.iload_n 2, 1) := by decide +kernel
theorem dX8_word_124 : decode cX8_word 124 = .ok (.invokestatic 133, 3) := by decide +kernel
theorem dX8_word_127 : decode cX8_word 127 = .ok (.ifCond .eq 7, 3) := by decide +kernel
theorem dX8_word_130 : decode cX8_word 130 = .ok (.iconst 1, 1) := by decide +kernel
theorem dX8_word_131 : decode cX8_word 131 = .ok (.goto 4, 3) := by decide +kernel
theorem dX8_word_134 : decode cX8_word 134 = .ok (.iconst 0, 1) := by decide +kernel
theorem dX8_word_135 : decode cX8_word 135 = .ok (.istore 4, 2) := by decide +kernel
theorem dX8_word_137 : decode cX8_word 137 = .ok (.iinc 5 1, 3) := by decide +kernel
theorem dX8_word_140 : decode cX8_word 140 = .ok (.goto (-52), 3) := by decide +kernel
theorem dX8_word_143 : decode cX8_word 143 = .ok (.iload 4, 2) := by decide +kernel
theorem dX8_word_145 : decode cX8_word 145 = .ok (.ifCond .eq 9, 3) := by decide +kernel
theorem dX8_word_148 : decode cX8_word 148 = .ok (.aload_n 0, 1) := by decide +kernel
theorem dX8_word_149 : decode cX8_word 149 = .ok (.iconst 4, 1) := by decide +kernel
theorem dX8_word_150 : decode cX8_word 150 = .ok (.invokevirtual 126, 3) := by decide +kernel
theorem dX8_word_153 : decode cX8_word 153 = .ok (.ireturn, 1) := by decide +kernel
theorem dX8_word_154 : decode cX8_word 154 = .ok (.aload_n 0, 1) := by decide +kernel
theorem dX8_word_155 : decode cX8_word 155 = .ok (.getfield 165, 3) := by decide +kernel
theorem dX8_word_158 : decode cX8_word 158 = .ok (.bipush 60, 2) := by decide +kernel
theorem dX8_word_160 : decode cX8_word 160 = .ok (.if_icmp .ne 9, 3) := by decide +kernel
theorem dX8_word_163 : decode cX8_word 163 = .ok (.aload_n 0, 1) := by decide +kernel
theorem dX8_word_164 : decode cX8_word 164 = .ok (.iconst 3, 1) := by decide +kernel
theorem dX8_word_165 : decode cX8_word 165 = .ok (.invokevirtual 126, 3) := by decide +kernel
theorem dX8_word_168 : decode cX8_word 168 = .ok (.ireturn, 1) := by decide +kernel
theorem dX8_word_169 : decode cX8_word 169 = .ok (.iconst 0, 1) := by decide +kernel
theorem dX8_word_170 : decode cX8_word 170 = .ok (.istore 5, 2) := by decide +kernel
theorem dX8_word_172 : decode cX8_word 172 = .ok (.iload 5, 2) := by decide +kernel
theorem dX8_word_174 : decode cX8_word 174 = .ok (.iload_n 2, 1) := by decide +kernel
theorem dX8_word_175 : decode cX8_word 175 = .ok (.if_icmp .ge 31, 3) := by decide +kernel
theorem dX8_word_178 : decode cX8_word 178 = .ok (.aload_n 0, 1) := by decide +kernel
theorem dX8_word_179 : decode cX8_word 179 = .ok (.getfield 71, 3) := by decide +kernel
theorem dX8_word_182 : decode cX8_word 182 = .ok (.bipush 12, 2) := by decide +kernel
theorem dX8_word_184 : decode cX8_word 184 = .ok (.aload_n 0, 1) := by decide +kernel
theorem dX8_word_185 : decode cX8_word 185 = .ok (.getfield 165, 3) := by decide +kernel
theorem dX8_word_188 : decode cX8_word 188 = .ok (.imul, 1) := by decide +kernel
theorem dX8_word_189 : decode cX8_word 189 = .ok (.iload 5, 2) := by decide +kernel
theorem dX8_word_191 : decode cX8_word 191 = .ok (.iadd, 1) := by decide +kernel
theorem dX8_word_192 : decode cX8_word 192 = .ok (.aload_n 0, 1) := by decide +kernel
theorem dX8_word_193 : decode cX8_word 193 = .ok (.getfield 13, 3) := by decide +kernel
theorem dX8_word_196 : decode cX8_word 196 = .ok (.iload 5, 2) := by decide +kernel
theorem dX8_word_198 : decode cX8_word 198 = .ok (.baload, 1) := by decide +kernel
theorem dX8_word_199 : decode cX8_word 199 = .ok (.bastore, 1) := by decide +kernel
theorem dX8_word_200 : decode cX8_word 200 = .ok (.iinc 5 1, 3) := by decide +kernel
theorem dX8_word_203 : decode cX8_word 203 = .ok (.goto (-31), 3) := by decide +kernel
theorem dX8_word_206 : decode cX8_word 206 = .ok (.aload_n 0, 1) := by decide +kernel
theorem dX8_word_207 : decode cX8_word 207 = .ok (.getfield 74, 3) := by decide +kernel
theorem dX8_word_210 : decode cX8_word 210 = .ok (.aload_n 0, 1) := by decide +kernel
theorem dX8_word_211 : decode cX8_word 211 = .ok (.getfield 165, 3) := by decide +kernel
theorem dX8_word_214 : decode cX8_word 214 = .ok (.iload_n 2, 1) := by decide +kernel
theorem dX8_word_215 : decode cX8_word 215 = .ok (.iastore, 1) := by decide +kernel
theorem dX8_word_216 : decode cX8_word 216 = .ok (.aload_n 0, 1) := by decide +kernel
theorem dX8_word_217 : decode cX8_word 217 = .ok (.getfield 77, 3) := by decide +kernel
theorem dX8_word_220 : decode cX8_word 220 = .ok (.aload_n 0, 1) := by decide +kernel
theorem dX8_word_221 : decode cX8_word 221 = .ok (.getfield 165, 3) := by decide +kernel
theorem dX8_word_224 : decode cX8_word 224 = .ok (.iload_n 1, 1) := by decide +kernel
theorem dX8_word_225 : decode cX8_word 225 = .ok (.iastore, 1) := by decide +kernel
theorem dX8_word_226 : decode cX8_word 226 = .ok (.aload_n 0, 1) := by decide +kernel
theorem dX8_word_227 : decode cX8_word 227 = .ok (.getfield 80, 3) := by decide +kernel
theorem dX8_word_230 : decode cX8_word 230 = .ok (.aload_n 0, 1) := by decide +kernel
theorem dX8_word_231 : decode cX8_word 231 = .ok (.getfield 165, 3) := by decide +kernel
theorem dX8_word_234 : decode cX8_word 234 = .ok (.iconst (-1), 1) := by decide +kernel
theorem dX8_word_235 : decode cX8_word 235 = .ok (.iastore, 1) := by decide +kernel
theorem dX8_word_236 : decode cX8_word 236 = .ok (.aload_n 0, 1) := by decide +kernel
theorem dX8_word_237 : decode cX8_word 237 = .ok (.getfield 83, 3) := by decide +kernel
theorem dX8_word_240 : decode cX8_word 240 = .ok (.aload_n 0, 1) := by decide +kernel
theorem dX8_word_241 : decode cX8_word 241 = .ok (.getfield 165, 3) := by decide +kernel
theorem dX8_word_244 : decode cX8_word 244 = .ok (.aload_n 0, 1) := by decide +kernel
theorem dX8_word_245 : decode cX8_word 245 = .ok (.getfield 165, 3) := by decide +kernel
theorem dX8_word_248 : decode cX8_word 248 = .ok (.iastore, 1) := by decide +kernel
theorem dX8_word_249 : decode cX8_word 249 = .ok (.aload_n 0, 1) := by decide +kernel
theorem dX8_word_250 : decode cX8_word 250 = .ok (.dup, 1) := by decide +kernel
theorem dX8_word_251 : decode cX8_word 251 = .ok (.getfield 165, 3) := by decide +kernel
theorem dX8_word_254 : decode cX8_word 254 = .ok (.iconst 1, 1) := by decide +kernel
theorem dX8_word_255 : decode cX8_word 255 = .ok (.iadd, 1) := by decide +kernel
theorem dX8_word_256 : decode cX8_word 256 = .ok (.putfield 165, 3) := by decide +kernel
theorem dX8_word_259 : decode cX8_word 259 = .ok (.aload_n 0, 1) := by decide +kernel
theorem dX8_word_260 : decode cX8_word 260 = .ok (.aload_n 0, 1) := by decide +kernel
theorem dX8_word_261 : decode cX8_word 261 = .ok (.getfield 165, 3) := by decide +kernel
theorem dX8_word_264 : decode cX8_word 264 = .ok (.iconst 1, 1) := by decide +kernel
theorem dX8_word_265 : decode cX8_word 265 = .ok (.isub, 1) := by decide +kernel
theorem dX8_word_266 : decode cX8_word 266 = .ok (.invokevirtual 130, 3) := by decide +kernel
theorem dX8_word_269 : decode cX8_word 269 = .ok (.ireturn, 1) := by decide +kernel
theorem dX8_shorts_0 : decode cX8_shorts 0 = .ok (.aload_n 0, 1) := by decide +kernel
theorem dX8_shorts_1 : decode cX8_shorts 1 = .ok (.iconst 0, 1) := by decide +kernel
theorem dX8_shorts_2 : decode cX8_shorts 2 = .ok (.putfield 1, 3) := by decide +kernel
theorem dX8_shorts_5 : decode cX8_shorts 5 = .ok (.aload_n 0, 1) := by decide +kernel
theorem dX8_shorts_6 : decode cX8_shorts 6 = .ok (.iload_n 1, 1) := by decide +kernel
theorem dX8_shorts_7 : decode cX8_shorts 7 = .ok (.invokevirtual 168, 3) := by decide +kernel
theorem dX8_shorts_10 : decode cX8_shorts 10 = .ok (.ifCond .eq 21, 3) := by decide +kernel
theorem dX8_shorts_13 : decode cX8_shorts 13 = .ok (.iload_n 2, 1) := by decide +kernel
theorem dX8_shorts_14 : decode cX8_shorts 14 = .ok (.iconst (-1), 1) := by decide +kernel
theorem dX8_shorts_15 : decode cX8_shorts 15 = .ok (.if_icmp .eq 11, 3) := by decide +kernel
theorem dX8_shorts_18 : decode cX8_shorts 18 = .ok (.aload_n 0, 1) := by decide +kernel
theorem dX8_shorts_19 : decode cX8_shorts 19 = .ok (.iload_n 2, 1) := by decide +kernel
theorem dX8_shorts_20 : decode cX8_shorts 20 = .ok (.invokevirtual 168, 3) := by decide +kernel
theorem dX8_shorts_23 : decode cX8_shorts 23 = .ok (.ifCond .eq 8, 3) := by decide +kernel
theorem dX8_shorts_26 : decode cX8_shorts 26 = .ok (.iload_n 1, 1) := by decide +kernel
theorem dX8_shorts_27 : decode cX8_shorts 27 = .ok (.iload_n 2, 1) := by decide +kernel
theorem dX8_shorts_28 : decode cX8_shorts 28 = .ok (.if_icmp .ne 9, 3) := by decide +kernel
theorem dX8_shorts_31 : decode cX8_shorts 31 = .ok (.aload_n 0, 1) := by decide +kernel
theorem dX8_shorts_32 : decode cX8_shorts 32 = .ok (.iconst 1, 1) := by decide +kernel
theorem dX8_shorts_33 : decode cX8_shorts 33 = .ok (.invokevirtual 171, 3) := by decide +kernel
theorem dX8_shorts_36 : decode cX8_shorts 36 = .ok (.ireturn, 1) := by decide +kernel
theorem dX8_shorts_37 : decode cX8_shorts 37 = .ok (.aload_n 0, 1) := by decide +kernel
theorem dX8_shorts_38 : decode cX8_shorts 38 = .ok (.getfield 80, 3) := by decide +kernel
theorem dX8_shorts_41 : decode cX8_shorts 41 = .ok (.iload_n 1, 1) := by decide +kernel
theorem dX8_shorts_42 : decode cX8_shorts 42 = .ok (.iload_n 2, 1) := by decide +kernel
theorem dX8_shorts_43 : decode cX8_shorts 43 = .ok (.iastore, 1) := by decide +kernel
theorem dX8_shorts_44 : decode cX8_shorts 44 = .ok (.aload_n 0, 1) := by decide +kernel
theorem dX8_shorts_45 : decode cX8_shorts 45 = .ok (.invokevirtual 174, 3) := by decide +kernel
theorem dX8_shorts_48 : decode cX8_shorts 48 = .ok (.ireturn, 1) := by decide +kernel
theorem dX8_alike_0 : decode cX8_alike 0 = .ok (.aload_n 0, 1) := by decide +kernel
theorem dX8_alike_1 : decode cX8_alike 1 = .ok (.iconst 0, 1) := by decide +kernel
theorem dX8_alike_2 : decode cX8_alike 2 = .ok (.putfield 1, 3) := by decide +kernel
theorem dX8_alike_5 : decode cX8_alike 5 = .ok (.aload_n 0, 1) := by decide +kernel
theorem dX8_alike_6 : decode cX8_alike 6 = .ok (.iload_n 1, 1) := by decide +kernel
theorem dX8_alike_7 : decode cX8_alike 7 = .ok (.invokevirtual 168, 3) := by decide +kernel
theorem dX8_alike_10 : decode cX8_alike 10 = .ok (.ifCond .eq 11, 3) := by decide +kernel
theorem dX8_alike_13 : decode cX8_alike 13 = .ok (.aload_n 0, 1) := by decide +kernel
theorem dX8_alike_14 : decode cX8_alike 14 = .ok (.iload_n 2, 1) := by decide +kernel
theorem dX8_alike_15 : decode cX8_alike 15 = .ok (.invokevirtual 168, 3) := by decide +kernel
theorem dX8_alike_18 : decode cX8_alike 18 = .ok (.ifCond .ne 9, 3) := by decide +kernel
theorem dX8_alike_21 : decode cX8_alike 21 = .ok (.aload_n 0, 1) := by decide +kernel
theorem dX8_alike_22 : decode cX8_alike 22 = .ok (.iconst 1, 1) := by decide +kernel
theorem dX8_alike_23 : decode cX8_alike 23 = .ok (.invokevirtual 171, 3) := by decide +kernel
theorem dX8_alike_26 : decode cX8_alike 26 = .ok (.ireturn, 1) := by decide +kernel
theorem dX8_alike_27 : decode cX8_alike 27 = .ok (.aload_n 0, 1) := by decide +kernel
theorem dX8_alike_28 : decode cX8_alike 28 = .ok (.getfield 83, 3) := by decide +kernel
theorem dX8_alike_31 : decode cX8_alike 31 = .ok (.iload_n 2, 1) := by decide +kernel
theorem dX8_alike_32 : decode cX8_alike 32 = .ok (.iaload, 1) := by decide +kernel
theorem dX8_alike_33 : decode cX8_alike 33 = .ok (.istore_n 3, 1) := by decide +kernel
theorem dX8_alike_34 : decode cX8_alike 34 = .ok (.iconst 0, 1) := by decide +kernel
theorem dX8_alike_35 : decode cX8_alike 35 = .ok (.istore 4, 2) := by decide +kernel
theorem dX8_alike_37 : decode cX8_alike 37 = .ok (.iload 4, 2) := by decide +kernel
theorem dX8_alike_39 : decode cX8_alike 39 = .ok (.aload_n 0, 1) := by decide +kernel
theorem dX8_alike_40 : decode cX8_alike 40 = .ok (.getfield 165, 3) := by decide +kernel
theorem dX8_alike_43 : decode cX8_alike 43 = .ok (.if_icmp .ge 33, 3) := by decide +kernel
theorem dX8_alike_46 : decode cX8_alike 46 = .ok (.aload_n 0, 1) := by decide +kernel
theorem dX8_alike_47 : decode cX8_alike 47 = .ok (.getfield 83, 3) := by decide +kernel
theorem dX8_alike_50 : decode cX8_alike 50 = .ok (.iload 4, 2) := by decide +kernel
theorem dX8_alike_52 : decode cX8_alike 52 = .ok (.iaload, 1) := by decide +kernel
theorem dX8_alike_53 : decode cX8_alike 53 = .ok (.iload_n 3, 1) := by decide +kernel
theorem dX8_alike_54 : decode cX8_alike 54 = .ok (.if_icmp .ne 16, 3) := by decide +kernel
theorem dX8_alike_57 : decode cX8_alike 57 = .ok (.aload_n 0, 1) := by decide +kernel
theorem dX8_alike_58 : decode cX8_alike 58 = .ok (.getfield 83, 3) := by decide +kernel
theorem dX8_alike_61 : decode cX8_alike 61 = .ok (.iload 4, 2) := by decide +kernel
theorem dX8_alike_63 : decode cX8_alike 63 = .ok (.aload_n 0, 1) := by decide +kernel
theorem dX8_alike_64 : decode cX8_alike 64 = .ok (.getfield 83, 3) := by decide +kernel
theorem dX8_alike_67 : decode cX8_alike 67 = .ok (.iload_n 1, 1) := by decide +kernel
theorem dX8_alike_68 : decode cX8_alike 68 = .ok (.iaload, 1) := by decide +kernel
theorem dX8_alike_69 : decode cX8_alike 69 = .ok (.iastore, 1) := by decide +kernel
theorem dX8_alike_70 : decode cX8_alike 70 = .ok (.iinc 4 1, 3) := by decide +kernel
theorem dX8_alike_73 : decode cX8_alike 73 = .ok (.goto (-36), 3) := by decide +kernel
theorem dX8_alike_76 : decode cX8_alike 76 = .ok (.aload_n 0, 1) := by decide +kernel
theorem dX8_alike_77 : decode cX8_alike 77 = .ok (.invokevirtual 174, 3) := by decide +kernel
theorem dX8_alike_80 : decode cX8_alike 80 = .ok (.ireturn, 1) := by decide +kernel
theorem dX8_wordOf_0 : decode cX8_wordOf 0 = .ok (.iconst 0, 1) := by decide +kernel
theorem dX8_wordOf_1 : decode cX8_wordOf 1 = .ok (.istore_n 3, 1) := by decide +kernel
theorem dX8_wordOf_2 : decode cX8_wordOf 2 = .ok (.iload_n 3, 1) := by decide +kernel
theorem dX8_wordOf_3 : decode cX8_wordOf 3 = .ok (.aload_n 0, 1) := by decide +kernel
theorem dX8_wordOf_4 : decode cX8_wordOf 4 = .ok (.getfield 165, 3) := by decide +kernel
theorem dX8_wordOf_7 : decode cX8_wordOf 7 = .ok (.if_icmp .ge 114, 3) := by decide +kernel
theorem dX8_wordOf_10 : decode cX8_wordOf 10 = .ok (.aload_n 0, 1) := by decide +kernel
theorem dX8_wordOf_11 : decode cX8_wordOf 11 = .ok (.getfield 74, 3) := by decide +kernel
theorem dX8_wordOf_14 : decode cX8_wordOf 14 = .ok (.iload_n 3, 1) := by decide +kernel
theorem dX8_wordOf_15 : decode cX8_wordOf 15 = .ok (.iaload, 1) := by decide +kernel
theorem dX8_wordOf_16 : decode cX8_wordOf 16 = .ok (.aload_n 0, 1) := by decide +kernel
theorem dX8_wordOf_17 : decode cX8_wordOf 17 = .ok (.getfield 68, 3) := by decide +kernel
theorem dX8_wordOf_20 : decode cX8_wordOf 20 = .ok (.iload_n 2, 1) := by decide +kernel
theorem dX8_wordOf_21 : decode cX8_wordOf 21 = .ok (.iaload, 1) := by decide +kernel
theorem dX8_wordOf_22 : decode cX8_wordOf 22 = .ok (.aload_n 0, 1) := by decide +kernel
theorem dX8_wordOf_23 : decode cX8_wordOf 23 = .ok (.getfield 65, 3) := by decide +kernel
theorem dX8_wordOf_26 : decode cX8_wordOf 26 = .ok (.iload_n 2, 1) := by decide +kernel
theorem dX8_wordOf_27 : decode cX8_wordOf 27 = .ok (.iaload, 1) := by decide +kernel
theorem dX8_wordOf_28 : decode cX8_wordOf 28 = .ok (.isub, 1) := by decide +kernel
theorem dX8_wordOf_29 : decode cX8_wordOf 29 = .ok (.if_icmp .ne 7, 3) := by decide +kernel
theorem dX8_wordOf_32 : decode cX8_wordOf 32 = .ok (.iconst 1, 1) := by decide +kernel
theorem dX8_wordOf_33 : decode cX8_wordOf 33 = .ok (.goto 4, 3) := by decide +kernel
theorem dX8_wordOf_36 : decode cX8_wordOf 36 = .ok (.iconst 0, 1) := by decide +kernel
theorem dX8_wordOf_37 : decode cX8_wordOf 37 = .ok (.istore 4, 2) := by decide +kernel
theorem dX8_wordOf_39 : decode cX8_wordOf 39 = .ok (.iconst 0, 1) := by decide +kernel
theorem dX8_wordOf_40 : decode cX8_wordOf 40 = .ok (.istore 5, 2) := by decide +kernel
theorem dX8_wordOf_42 : decode cX8_wordOf 42 = .ok (.iload 5, 2) := by decide +kernel
theorem dX8_wordOf_44 : decode cX8_wordOf 44 = .ok (.aload_n 0, 1) := by decide +kernel
theorem dX8_wordOf_45 : decode cX8_wordOf 45 = .ok (.getfield 74, 3) := by decide +kernel
theorem dX8_wordOf_48 : decode cX8_wordOf 48 = .ok (.iload_n 3, 1) := by decide +kernel
theorem dX8_wordOf_49 : decode cX8_wordOf 49 = .ok (.iaload, 1) := by decide +kernel
theorem dX8_wordOf_50 : decode cX8_wordOf 50 = .ok (.if_icmp .ge 58, 3) := by decide +kernel
theorem dX8_wordOf_53 : decode cX8_wordOf 53 = .ok (.iload 4, 2) := by decide +kernel
theorem dX8_wordOf_55 : decode cX8_wordOf 55 = .ok (.ifCond .eq 53, 3) := by decide +kernel
theorem dX8_wordOf_58 : decode cX8_wordOf 58 = .ok (.aload_n 0, 1) := by decide +kernel
theorem dX8_wordOf_59 : decode cX8_wordOf 59 = .ok (.getfield 62, 3) := by decide +kernel
theorem dX8_wordOf_62 : decode cX8_wordOf 62 = .ok (.bipush 24, 2) := by decide +kernel
theorem dX8_wordOf_64 : decode cX8_wordOf 64 = .ok (.iload_n 1, 1) := by decide +kernel
theorem dX8_wordOf_65 : decode cX8_wordOf 65 = .ok (.imul, 1) := by decide +kernel
theorem dX8_wordOf_66 : decode cX8_wordOf 66 = .ok (.aload_n 0, 1) := by decide +kernel
theorem dX8_wordOf_67 : decode cX8_wordOf 67 = .ok (.getfield 65, 3) := by decide +kernel
theorem dX8_wordOf_70 : decode cX8_wordOf 70 = .ok (.iload_n 2, 1) := by decide +kernel
theorem dX8_wordOf_71 : decode cX8_wordOf 71 = .ok (.iaload, 1) := by decide +kernel
theorem dX8_wordOf_72 : decode cX8_wordOf 72 = .ok (.iadd, 1) := by decide +kernel
theorem dX8_wordOf_73 : decode cX8_wordOf 73 = .ok (.iload 5, 2) := by decide +kernel
theorem dX8_wordOf_75 : decode cX8_wordOf 75 = .ok (.iadd, 1) := by decide +kernel
theorem dX8_wordOf_76 : decode cX8_wordOf 76 = .ok (.baload, 1) := by decide +kernel
theorem dX8_wordOf_77 : decode cX8_wordOf 77 = .ok (.invokestatic 178, 3) := by decide +kernel
theorem dX8_wordOf_80 : decode cX8_wordOf 80 = .ok (.aload_n 0, 1) := by decide +kernel
theorem dX8_wordOf_81 : decode cX8_wordOf 81 = .ok (.getfield 71, 3) := by decide +kernel
theorem dX8_wordOf_84 : decode cX8_wordOf 84 = .ok (.bipush 12, 2) := by decide +kernel
theorem dX8_wordOf_86 : decode cX8_wordOf 86 = .ok (.iload_n 3, 1) := by decide +kernel
theorem dX8_wordOf_87 : decode cX8_wordOf 87 = .ok (.imul, 1) := by decide +kernel
theorem dX8_wordOf_88 : decode cX8_wordOf 88 = .ok (.iload 5, 2) := by decide +kernel
theorem dX8_wordOf_90 : decode cX8_wordOf 90 = .ok (.iadd, 1) := by decide +kernel
theorem dX8_wordOf_91 : decode cX8_wordOf 91 = .ok (.baload, 1) := by decide +kernel
theorem dX8_wordOf_92 : decode cX8_wordOf 92 = .ok (.if_icmp .ne 7, 3) := by decide +kernel
theorem dX8_wordOf_95 : decode cX8_wordOf 95 = .ok (.iconst 1, 1) := by decide +kernel
theorem dX8_wordOf_96 : decode cX8_wordOf 96 = .ok (.goto 4, 3) := by decide +kernel
theorem dX8_wordOf_99 : decode cX8_wordOf 99 = .ok (.iconst 0, 1) := by decide +kernel
theorem dX8_wordOf_100 : decode cX8_wordOf 100 = .ok (.istore 4, 2) := by decide +kernel
theorem dX8_wordOf_102 : decode cX8_wordOf 102 = .ok (.iinc 5 1, 3) := by decide +kernel
theorem dX8_wordOf_105 : decode cX8_wordOf 105 = .ok (.goto (-63), 3) := by decide +kernel
theorem dX8_wordOf_108 : decode cX8_wordOf 108 = .ok (.iload 4, 2) := by decide +kernel
theorem dX8_wordOf_110 : decode cX8_wordOf 110 = .ok (.ifCond .eq 5, 3) := by decide +kernel
theorem dX8_wordOf_113 : decode cX8_wordOf 113 = .ok (.iload_n 3, 1) := by decide +kernel
theorem dX8_wordOf_114 : decode cX8_wordOf 114 = .ok (.ireturn, 1) := by decide +kernel
theorem dX8_wordOf_115 : decode cX8_wordOf 115 = .ok (.iinc 3 1, 3) := by decide +kernel
theorem dX8_wordOf_118 : decode cX8_wordOf 118 = .ok (.goto (-116), 3) := by decide +kernel
theorem dX8_wordOf_121 : decode cX8_wordOf 121 = .ok (.bipush (-2), 2) := by decide +kernel
theorem dX8_wordOf_123 : decode cX8_wordOf 123 = .ok (.ireturn, 1) := by decide +kernel
theorem dX8_opened_0 : decode cX8_opened 0 = .ok (.iload_n 1, 1) := by decide +kernel
theorem dX8_opened_1 : decode cX8_opened 1 = .ok (.istore_n 2, 1) := by decide +kernel
theorem dX8_opened_2 : decode cX8_opened 2 = .ok (.iconst 0, 1) := by decide +kernel
theorem dX8_opened_3 : decode cX8_opened 3 = .ok (.istore_n 3, 1) := by decide +kernel
theorem dX8_opened_4 : decode cX8_opened 4 = .ok (.iload_n 3, 1) := by decide +kernel
theorem dX8_opened_5 : decode cX8_opened 5 = .ok (.bipush 60, 2) := by decide +kernel
theorem dX8_opened_7 : decode cX8_opened 7 = .ok (.if_icmp .ge 30, 3) := by decide +kernel
theorem dX8_opened_10 : decode cX8_opened 10 = .ok (.iload_n 2, 1) := by decide +kernel
theorem dX8_opened_11 : decode cX8_opened 11 = .ok (.ifCond .lt 26, 3) := by decide +kernel
theorem dX8_opened_14 : decode cX8_opened 14 = .ok (.aload_n 0, 1) := by decide +kernel
theorem dX8_opened_15 : decode cX8_opened 15 = .ok (.getfield 80, 3) := by decide +kernel
theorem dX8_opened_18 : decode cX8_opened 18 = .ok (.iload_n 2, 1) := by decide +kernel
theorem dX8_opened_19 : decode cX8_opened 19 = .ok (.iaload, 1) := by decide +kernel
theorem dX8_opened_20 : decode cX8_opened 20 = .ok (.iconst (-1), 1) := by decide +kernel
theorem dX8_opened_21 : decode cX8_opened 21 = .ok (.if_icmp .eq 16, 3) := by decide +kernel
theorem dX8_opened_24 : decode cX8_opened 24 = .ok (.aload_n 0, 1) := by decide +kernel
theorem dX8_opened_25 : decode cX8_opened 25 = .ok (.getfield 80, 3) := by decide +kernel
theorem dX8_opened_28 : decode cX8_opened 28 = .ok (.iload_n 2, 1) := by decide +kernel
theorem dX8_opened_29 : decode cX8_opened 29 = .ok (.iaload, 1) := by decide +kernel
theorem dX8_opened_30 : decode cX8_opened 30 = .ok (.istore_n 2, 1) := by decide +kernel
theorem dX8_opened_31 : decode cX8_opened 31 = .ok (.iinc 3 1, 3) := by decide +kernel
theorem dX8_opened_34 : decode cX8_opened 34 = .ok (.goto (-30), 3) := by decide +kernel
theorem dX8_opened_37 : decode cX8_opened 37 = .ok (.iload_n 2, 1) := by decide +kernel
theorem dX8_opened_38 : decode cX8_opened 38 = .ok (.ireturn, 1) := by decide +kernel
theorem dX8_counts_0 : decode cX8_counts 0 = .ok (.iconst 0, 1) := by decide +kernel
theorem dX8_counts_1 : decode cX8_counts 1 = .ok (.istore_n 1, 1) := by decide +kernel
theorem dX8_counts_2 : decode cX8_counts 2 = .ok (.iload_n 1, 1) := by decide +kernel
theorem dX8_counts_3 : decode cX8_counts 3 = .ok (.aload_n 0, 1) := by decide +kernel
theorem dX8_counts_4 : decode cX8_counts 4 = .ok (.getfield 165, 3) := by decide +kernel
theorem dX8_counts_7 : decode cX8_counts 7 = .ok (.if_icmp .ge 16, 3) := by decide +kernel
theorem dX8_counts_10 : decode cX8_counts 10 = .ok (.aload_n 0, 1) := by decide +kernel
theorem dX8_counts_11 : decode cX8_counts 11 = .ok (.getfield 86, 3) := by decide +kernel
theorem dX8_counts_14 : decode cX8_counts 14 = .ok (.iload_n 1, 1) := by decide +kernel
theorem dX8_counts_15 : decode cX8_counts 15 = .ok (.iconst 0, 1) := by decide +kernel
theorem dX8_counts_16 : decode cX8_counts 16 = .ok (.iastore, 1) := by decide +kernel
theorem dX8_counts_17 : decode cX8_counts 17 = .ok (.iinc 1 1, 3) := by decide +kernel
theorem dX8_counts_20 : decode cX8_counts 20 = .ok (.goto (-18), 3) := by decide +kernel
theorem dX8_counts_23 : decode cX8_counts 23 = .ok (.iconst 0, 1) := by decide +kernel
theorem dX8_counts_24 : decode cX8_counts 24 = .ok (.istore_n 1, 1) := by decide +kernel
theorem dX8_counts_25 : decode cX8_counts 25 = .ok (.iload_n 1, 1) := by decide +kernel
theorem dX8_counts_26 : decode cX8_counts 26 = .ok (.aload_n 0, 1) := by decide +kernel
theorem dX8_counts_27 : decode cX8_counts 27 = .ok (.getfield 120, 3) := by decide +kernel
theorem dX8_counts_30 : decode cX8_counts 30 = .ok (.if_icmp .ge 55, 3) := by decide +kernel
theorem dX8_counts_33 : decode cX8_counts 33 = .ok (.aload_n 0, 1) := by decide +kernel
theorem dX8_counts_34 : decode cX8_counts 34 = .ok (.iload_n 1, 1) := by decide +kernel
theorem dX8_counts_35 : decode cX8_counts 35 = .ok (.invokevirtual 181, 3) := by decide +kernel
theorem dX8_counts_38 : decode cX8_counts 38 = .ok (.iconst 0, 1) := by decide +kernel
theorem dX8_counts_39 : decode cX8_counts 39 = .ok (.istore_n 2, 1) := by decide +kernel
theorem dX8_counts_40 : decode cX8_counts 40 = .ok (.iload_n 2, 1) := by decide +kernel
theorem dX8_counts_41 : decode cX8_counts 41 = .ok (.aload_n 0, 1) := by decide +kernel
theorem dX8_counts_42 : decode cX8_counts 42 = .ok (.getfield 162, 3) := by decide +kernel
theorem dX8_counts_45 : decode cX8_counts 45 = .ok (.if_icmp .ge 34, 3) := by decide +kernel
theorem dX8_counts_48 : decode cX8_counts 48 = .ok (.aload_n 0, 1) := by decide +kernel
theorem dX8_counts_49 : decode cX8_counts 49 = .ok (.aload_n 0, 1) := by decide +kernel
theorem dX8_counts_50 : decode cX8_counts 50 = .ok (.iload_n 1, 1) := by decide +kernel
theorem dX8_counts_51 : decode cX8_counts 51 = .ok (.iload_n 2, 1) := by decide +kernel
theorem dX8_counts_52 : decode cX8_counts 52 = .ok (.invokevirtual 185, 3) := by decide +kernel
theorem dX8_counts_55 : decode cX8_counts 55 = .ok (.invokevirtual 189, 3) := by decide +kernel
theorem dX8_counts_58 : decode cX8_counts 58 = .ok (.istore_n 3, 1) := by decide +kernel
theorem dX8_counts_59 : decode cX8_counts 59 = .ok (.iload_n 3, 1) := by decide +kernel
theorem dX8_counts_60 : decode cX8_counts 60 = .ok (.ifCond .lt 13, 3) := by decide +kernel
theorem dX8_counts_63 : decode cX8_counts 63 = .ok (.aload_n 0, 1) := by decide +kernel
theorem dX8_counts_64 : decode cX8_counts 64 = .ok (.getfield 86, 3) := by decide +kernel
theorem dX8_counts_67 : decode cX8_counts 67 = .ok (.iload_n 3, 1) := by decide +kernel
theorem dX8_counts_68 : decode cX8_counts 68 = .ok (.dup2, 1) := by decide +kernel
theorem dX8_counts_69 : decode cX8_counts 69 = .ok (.iaload, 1) := by decide +kernel
theorem dX8_counts_70 : decode cX8_counts 70 = .ok (.iconst 1, 1) := by decide +kernel
theorem dX8_counts_71 : decode cX8_counts 71 = .ok (.iadd, 1) := by decide +kernel
theorem dX8_counts_72 : decode cX8_counts 72 = .ok (.iastore, 1) := by decide +kernel
theorem dX8_counts_73 : decode cX8_counts 73 = .ok (.iinc 2 1, 3) := by decide +kernel
theorem dX8_counts_76 : decode cX8_counts 76 = .ok (.goto (-36), 3) := by decide +kernel
theorem dX8_counts_79 : decode cX8_counts 79 = .ok (.iinc 1 1, 3) := by decide +kernel
theorem dX8_counts_82 : decode cX8_counts 82 = .ok (.goto (-57), 3) := by decide +kernel
theorem dX8_counts_85 : decode cX8_counts 85 = .ok (.return_, 1) := by decide +kernel
theorem dX8_headOf_0 : decode cX8_headOf 0 = .ok (.iconst (-1), 1) := by decide +kernel
theorem dX8_headOf_1 : decode cX8_headOf 1 = .ok (.istore_n 2, 1) := by decide +kernel
theorem dX8_headOf_2 : decode cX8_headOf 2 = .ok (.iconst 0, 1) := by decide +kernel
theorem dX8_headOf_3 : decode cX8_headOf 3 = .ok (.istore_n 3, 1) := by decide +kernel
theorem dX8_headOf_4 : decode cX8_headOf 4 = .ok (.iload_n 3, 1) := by decide +kernel
theorem dX8_headOf_5 : decode cX8_headOf 5 = .ok (.aload_n 0, 1) := by decide +kernel
theorem dX8_headOf_6 : decode cX8_headOf 6 = .ok (.getfield 165, 3) := by decide +kernel
theorem dX8_headOf_9 : decode cX8_headOf 9 = .ok (.if_icmp .ge 46, 3) := by decide +kernel
theorem dX8_headOf_12 : decode cX8_headOf 12 = .ok (.aload_n 0, 1) := by decide +kernel
theorem dX8_headOf_13 : decode cX8_headOf 13 = .ok (.getfield 83, 3) := by decide +kernel
theorem dX8_headOf_16 : decode cX8_headOf 16 = .ok (.iload_n 3, 1) := by decide +kernel
theorem dX8_headOf_17 : decode cX8_headOf 17 = .ok (.iaload, 1) := by decide +kernel
theorem dX8_headOf_18 : decode cX8_headOf 18 = .ok (.aload_n 0, 1) := by decide +kernel
theorem dX8_headOf_19 : decode cX8_headOf 19 = .ok (.getfield 83, 3) := by decide +kernel
theorem dX8_headOf_22 : decode cX8_headOf 22 = .ok (.iload_n 1, 1) := by decide +kernel
theorem dX8_headOf_23 : decode cX8_headOf 23 = .ok (.iaload, 1) := by decide +kernel
theorem dX8_headOf_24 : decode cX8_headOf 24 = .ok (.if_icmp .ne 25, 3) := by decide +kernel
theorem dX8_headOf_27 : decode cX8_headOf 27 = .ok (.iload_n 2, 1) := by decide +kernel
theorem dX8_headOf_28 : decode cX8_headOf 28 = .ok (.iconst (-1), 1) := by decide +kernel
theorem dX8_headOf_29 : decode cX8_headOf 29 = .ok (.if_icmp .eq 18, 3) := by decide +kernel
theorem dX8_headOf_32 : decode cX8_headOf 32 = .ok (.aload_n 0, 1) := by decide +kernel
theorem dX8_headOf_33 : decode cX8_headOf 33 = .ok (.getfield 86, 3) := by decide +kernel
theorem dX8_headOf_36 : decode cX8_headOf 36 = .ok (.iload_n 3, 1) := by decide +kernel
theorem dX8_headOf_37 : decode cX8_headOf 37 = .ok (.iaload, 1) := by decide +kernel
theorem dX8_headOf_38 : decode cX8_headOf 38 = .ok (.aload_n 0, 1) := by decide +kernel
theorem dX8_headOf_39 : decode cX8_headOf 39 = .ok (.getfield 86, 3) := by decide +kernel
theorem dX8_headOf_42 : decode cX8_headOf 42 = .ok (.iload_n 2, 1) := by decide +kernel
theorem dX8_headOf_43 : decode cX8_headOf 43 = .ok (.iaload, 1) := by decide +kernel
theorem dX8_headOf_44 : decode cX8_headOf 44 = .ok (.if_icmp .le 5, 3) := by decide +kernel
theorem dX8_headOf_47 : decode cX8_headOf 47 = .ok (.iload_n 3, 1) := by decide +kernel
theorem dX8_headOf_48 : decode cX8_headOf 48 = .ok (.istore_n 2, 1) := by decide +kernel
theorem dX8_headOf_49 : decode cX8_headOf 49 = .ok (.iinc 3 1, 3) := by decide +kernel
theorem dX8_headOf_52 : decode cX8_headOf 52 = .ok (.goto (-48), 3) := by decide +kernel
theorem dX8_headOf_55 : decode cX8_headOf 55 = .ok (.iload_n 2, 1) := by decide +kernel
theorem dX8_headOf_56 : decode cX8_headOf 56 = .ok (.ireturn, 1) := by decide +kernel
theorem dX8_groupSize_0 : decode cX8_groupSize 0 = .ok (.iconst 0, 1) := by decide +kernel
theorem dX8_groupSize_1 : decode cX8_groupSize 1 = .ok (.istore_n 2, 1) := by decide +kernel
theorem dX8_groupSize_2 : decode cX8_groupSize 2 = .ok (.iconst 0, 1) := by decide +kernel
theorem dX8_groupSize_3 : decode cX8_groupSize 3 = .ok (.istore_n 3, 1) := by decide +kernel
theorem dX8_groupSize_4 : decode cX8_groupSize 4 = .ok (.iload_n 3, 1) := by decide +kernel
theorem dX8_groupSize_5 : decode cX8_groupSize 5 = .ok (.aload_n 0, 1) := by decide +kernel
theorem dX8_groupSize_6 : decode cX8_groupSize 6 = .ok (.getfield 165, 3) := by decide +kernel
theorem dX8_groupSize_9 : decode cX8_groupSize 9 = .ok (.if_icmp .ge 32, 3) := by decide +kernel
theorem dX8_groupSize_12 : decode cX8_groupSize 12 = .ok (.iload_n 2, 1) := by decide +kernel
theorem dX8_groupSize_13 : decode cX8_groupSize 13 = .ok (.aload_n 0, 1) := by decide +kernel
theorem dX8_groupSize_14 : decode cX8_groupSize 14 = .ok (.getfield 83, 3) := by decide +kernel
theorem dX8_groupSize_17 : decode cX8_groupSize 17 = .ok (.iload_n 3, 1) := by decide +kernel
theorem dX8_groupSize_18 : decode cX8_groupSize 18 = .ok (.iaload, 1) := by decide +kernel
theorem dX8_groupSize_19 : decode cX8_groupSize 19 = .ok (.aload_n 0, 1) := by decide +kernel
theorem dX8_groupSize_20 : decode cX8_groupSize 20 = .ok (.getfield 83, 3) := by decide +kernel
theorem dX8_groupSize_23 : decode cX8_groupSize 23 = .ok (.iload_n 1, 1) := by decide +kernel
theorem dX8_groupSize_24 : decode cX8_groupSize 24 = .ok (.iaload, 1) := by decide +kernel
theorem dX8_groupSize_25 : decode cX8_groupSize 25 = .ok (.if_icmp .ne 7, 3) := by decide +kernel
theorem dX8_groupSize_28 : decode cX8_groupSize 28 = .ok (.iconst 1, 1) := by decide +kernel
theorem dX8_groupSize_29 : decode cX8_groupSize 29 = .ok (.goto 4, 3) := by decide +kernel
theorem dX8_groupSize_32 : decode cX8_groupSize 32 = .ok (.iconst 0, 1) := by decide +kernel
theorem dX8_groupSize_33 : decode cX8_groupSize 33 = .ok (.iadd, 1) := by decide +kernel
theorem dX8_groupSize_34 : decode cX8_groupSize 34 = .ok (.istore_n 2, 1) := by decide +kernel
theorem dX8_groupSize_35 : decode cX8_groupSize 35 = .ok (.iinc 3 1, 3) := by decide +kernel
theorem dX8_groupSize_38 : decode cX8_groupSize 38 = .ok (.goto (-34), 3) := by decide +kernel
theorem dX8_groupSize_41 : decode cX8_groupSize 41 = .ok (.iload_n 2, 1) := by decide +kernel
theorem dX8_groupSize_42 : decode cX8_groupSize 42 = .ok (.ireturn, 1) := by decide +kernel
theorem dX8_told_0 : decode cX8_told 0 = .ok (.aload_n 0, 1) := by decide +kernel
theorem dX8_told_1 : decode cX8_told 1 = .ok (.iconst 0, 1) := by decide +kernel
theorem dX8_told_2 : decode cX8_told 2 = .ok (.putfield 1, 3) := by decide +kernel
theorem dX8_told_5 : decode cX8_told 5 = .ok (.aload_n 0, 1) := by decide +kernel
theorem dX8_told_6 : decode cX8_told 6 = .ok (.iload_n 1, 1) := by decide +kernel
theorem dX8_told_7 : decode cX8_told 7 = .ok (.invokevirtual 168, 3) := by decide +kernel
theorem dX8_told_10 : decode cX8_told 10 = .ok (.ifCond .ne 5, 3) := by decide +kernel
theorem dX8_told_13 : decode cX8_told 13 = .ok (.iconst (-1), 1) := by decide +kernel
theorem dX8_told_14 : decode cX8_told 14 = .ok (.ireturn, 1) := by decide +kernel
theorem dX8_told_15 : decode cX8_told 15 = .ok (.aload_n 0, 1) := by decide +kernel
theorem dX8_told_16 : decode cX8_told 16 = .ok (.invokevirtual 192, 3) := by decide +kernel
theorem dX8_told_19 : decode cX8_told 19 = .ok (.iload_n 2, 1) := by decide +kernel
theorem dX8_told_20 : decode cX8_told 20 = .ok (.tableswitch 69 0 4 #[36, 43, 50, 57, 63], 36) := by decide +kernel
theorem dX8_told_56 : decode cX8_told 56 = .ok (.aload_n 0, 1) := by decide +kernel
theorem dX8_told_57 : decode cX8_told 57 = .ok (.getfield 77, 3) := by decide +kernel
theorem dX8_told_60 : decode cX8_told 60 = .ok (.iload_n 1, 1) := by decide +kernel
theorem dX8_told_61 : decode cX8_told 61 = .ok (.iaload, 1) := by decide +kernel
theorem dX8_told_62 : decode cX8_told 62 = .ok (.ireturn, 1) := by decide +kernel
theorem dX8_told_63 : decode cX8_told 63 = .ok (.aload_n 0, 1) := by decide +kernel
theorem dX8_told_64 : decode cX8_told 64 = .ok (.getfield 80, 3) := by decide +kernel
theorem dX8_told_67 : decode cX8_told 67 = .ok (.iload_n 1, 1) := by decide +kernel
theorem dX8_told_68 : decode cX8_told 68 = .ok (.iaload, 1) := by decide +kernel
theorem dX8_told_69 : decode cX8_told 69 = .ok (.ireturn, 1) := by decide +kernel
theorem dX8_told_70 : decode cX8_told 70 = .ok (.aload_n 0, 1) := by decide +kernel
theorem dX8_told_71 : decode cX8_told 71 = .ok (.getfield 86, 3) := by decide +kernel
theorem dX8_told_74 : decode cX8_told 74 = .ok (.iload_n 1, 1) := by decide +kernel
theorem dX8_told_75 : decode cX8_told 75 = .ok (.iaload, 1) := by decide +kernel
theorem dX8_told_76 : decode cX8_told 76 = .ok (.ireturn, 1) := by decide +kernel
theorem dX8_told_77 : decode cX8_told 77 = .ok (.aload_n 0, 1) := by decide +kernel
theorem dX8_told_78 : decode cX8_told 78 = .ok (.iload_n 1, 1) := by decide +kernel
theorem dX8_told_79 : decode cX8_told 79 = .ok (.invokevirtual 195, 3) := by decide +kernel
theorem dX8_told_82 : decode cX8_told 82 = .ok (.ireturn, 1) := by decide +kernel
theorem dX8_told_83 : decode cX8_told 83 = .ok (.aload_n 0, 1) := by decide +kernel
theorem dX8_told_84 : decode cX8_told 84 = .ok (.iload_n 1, 1) := by decide +kernel
theorem dX8_told_85 : decode cX8_told 85 = .ok (.invokevirtual 198, 3) := by decide +kernel
theorem dX8_told_88 : decode cX8_told 88 = .ok (.ireturn, 1) := by decide +kernel
theorem dX8_told_89 : decode cX8_told 89 = .ok (.iconst (-1), 1) := by decide +kernel
theorem dX8_told_90 : decode cX8_told 90 = .ok (.ireturn, 1) := by decide +kernel
theorem dX8_part_0 : decode cX8_part 0 = .ok (.aload_n 0, 1) := by decide +kernel
theorem dX8_part_1 : decode cX8_part 1 = .ok (.iconst 0, 1) := by decide +kernel
theorem dX8_part_2 : decode cX8_part 2 = .ok (.putfield 1, 3) := by decide +kernel
theorem dX8_part_5 : decode cX8_part 5 = .ok (.aload_n 0, 1) := by decide +kernel
theorem dX8_part_6 : decode cX8_part 6 = .ok (.iload_n 1, 1) := by decide +kernel
theorem dX8_part_7 : decode cX8_part 7 = .ok (.invokevirtual 159, 3) := by decide +kernel
theorem dX8_part_10 : decode cX8_part 10 = .ok (.ifCond .ne 5, 3) := by decide +kernel
theorem dX8_part_13 : decode cX8_part 13 = .ok (.iconst (-1), 1) := by decide +kernel
theorem dX8_part_14 : decode cX8_part 14 = .ok (.ireturn, 1) := by decide +kernel
theorem dX8_part_15 : decode cX8_part 15 = .ok (.aload_n 0, 1) := by decide +kernel
theorem dX8_part_16 : decode cX8_part 16 = .ok (.iload_n 1, 1) := by decide +kernel
theorem dX8_part_17 : decode cX8_part 17 = .ok (.invokevirtual 181, 3) := by decide +kernel
theorem dX8_part_20 : decode cX8_part 20 = .ok (.iload_n 2, 1) := by decide +kernel
theorem dX8_part_21 : decode cX8_part 21 = .ok (.ifCond .lt 20, 3) := by decide +kernel
theorem dX8_part_24 : decode cX8_part 24 = .ok (.iload_n 2, 1) := by decide +kernel
theorem dX8_part_25 : decode cX8_part 25 = .ok (.aload_n 0, 1) := by decide +kernel
theorem dX8_part_26 : decode cX8_part 26 = .ok (.getfield 162, 3) := by decide +kernel
theorem dX8_part_29 : decode cX8_part 29 = .ok (.if_icmp .ge 12, 3) := by decide +kernel
theorem dX8_part_32 : decode cX8_part 32 = .ok (.aload_n 0, 1) := by decide +kernel
theorem dX8_part_33 : decode cX8_part 33 = .ok (.iload_n 1, 1) := by decide +kernel
theorem dX8_part_34 : decode cX8_part 34 = .ok (.iload_n 2, 1) := by decide +kernel
theorem dX8_part_35 : decode cX8_part 35 = .ok (.invokevirtual 185, 3) := by decide +kernel
theorem dX8_part_38 : decode cX8_part 38 = .ok (.goto 4, 3) := by decide +kernel
theorem dX8_part_41 : decode cX8_part 41 = .ok (.iconst (-1), 1) := by decide +kernel
theorem dX8_part_42 : decode cX8_part 42 = .ok (.ireturn, 1) := by decide +kernel
theorem dX8_patternOf_0 : decode cX8_patternOf 0 = .ok (.aload_n 0, 1) := by decide +kernel
theorem dX8_patternOf_1 : decode cX8_patternOf 1 = .ok (.iload_n 1, 1) := by decide +kernel
theorem dX8_patternOf_2 : decode cX8_patternOf 2 = .ok (.invokevirtual 181, 3) := by decide +kernel
theorem dX8_patternOf_5 : decode cX8_patternOf 5 = .ok (.iconst 0, 1) := by decide +kernel
theorem dX8_patternOf_6 : decode cX8_patternOf 6 = .ok (.istore_n 2, 1) := by decide +kernel
theorem dX8_patternOf_7 : decode cX8_patternOf 7 = .ok (.iconst 0, 1) := by decide +kernel
theorem dX8_patternOf_8 : decode cX8_patternOf 8 = .ok (.istore_n 3, 1) := by decide +kernel
theorem dX8_patternOf_9 : decode cX8_patternOf 9 = .ok (.iload_n 3, 1) := by decide +kernel
theorem dX8_patternOf_10 : decode cX8_patternOf 10 = .ok (.aload_n 0, 1) := by decide +kernel
theorem dX8_patternOf_11 : decode cX8_patternOf 11 = .ok (.getfield 162, 3) := by decide +kernel
theorem dX8_patternOf_14 : decode cX8_patternOf 14 = .ok (.if_icmp .ge 53, 3) := by decide +kernel
theorem dX8_patternOf_17 : decode cX8_patternOf 17 = .ok (.iload_n 3, 1) := by decide +kernel
theorem dX8_patternOf_18 : decode cX8_patternOf 18 = .ok (.iconst 4, 1) := by decide +kernel
theorem dX8_patternOf_19 : decode cX8_patternOf 19 = .ok (.if_icmp .ge 48, 3) := by decide +kernel
theorem dX8_patternOf_22 : decode cX8_patternOf 22 = .ok (.aload_n 0, 1) := by decide +kernel
theorem dX8_patternOf_23 : decode cX8_patternOf 23 = .ok (.iload_n 1, 1) := by decide +kernel
theorem dX8_patternOf_24 : decode cX8_patternOf 24 = .ok (.iload_n 3, 1) := by decide +kernel
theorem dX8_patternOf_25 : decode cX8_patternOf 25 = .ok (.invokevirtual 185, 3) := by decide +kernel
theorem dX8_patternOf_28 : decode cX8_patternOf 28 = .ok (.istore 4, 2) := by decide +kernel
theorem dX8_patternOf_30 : decode cX8_patternOf 30 = .ok (.bipush 16, 2) := by decide +kernel
theorem dX8_patternOf_32 : decode cX8_patternOf 32 = .ok (.iload_n 2, 1) := by decide +kernel
theorem dX8_patternOf_33 : decode cX8_patternOf 33 = .ok (.imul, 1) := by decide +kernel
theorem dX8_patternOf_34 : decode cX8_patternOf 34 = .ok (.iload 4, 2) := by decide +kernel
theorem dX8_patternOf_36 : decode cX8_patternOf 36 = .ok (.ifCond .ge 7, 3) := by decide +kernel
theorem dX8_patternOf_39 : decode cX8_patternOf 39 = .ok (.iconst 0, 1) := by decide +kernel
theorem dX8_patternOf_40 : decode cX8_patternOf 40 = .ok (.goto 19, 3) := by decide +kernel
theorem dX8_patternOf_43 : decode cX8_patternOf 43 = .ok (.aload_n 0, 1) := by decide +kernel
theorem dX8_patternOf_44 : decode cX8_patternOf 44 = .ok (.getfield 77, 3) := by decide +kernel
theorem dX8_patternOf_47 : decode cX8_patternOf 47 = .ok (.iload 4, 2) := by decide +kernel
theorem dX8_patternOf_49 : decode cX8_patternOf 49 = .ok (.iaload, 1) := by decide +kernel
theorem dX8_patternOf_50 : decode cX8_patternOf 50 = .ok (.aload_n 0, 1) := by decide +kernel
theorem dX8_patternOf_51 : decode cX8_patternOf 51 = .ok (.getfield 77, 3) := by decide +kernel
theorem dX8_patternOf_54 : decode cX8_patternOf 54 = .ok (.iload 4, 2) := by decide +kernel
theorem dX8_patternOf_56 : decode cX8_patternOf 56 = .ok (.iaload, 1) := by decide +kernel
theorem dX8_patternOf_57 : decode cX8_patternOf 57 = .ok (.ineg, 1) := by decide +kernel
theorem dX8_patternOf_58 : decode cX8_patternOf 58 = .ok (.iand, 1) := by decide +kernel
theorem dX8_patternOf_59 : decode cX8_patternOf 59 = .ok (.iadd, 1) := by decide +kernel
theorem dX8_patternOf_60 : decode cX8_patternOf 60 = .ok (.istore_n 2, 1) := by decide +kernel
theorem dX8_patternOf_61 : decode cX8_patternOf 61 = .ok (.iinc 3 1, 3) := by decide +kernel
theorem dX8_patternOf_64 : decode cX8_patternOf 64 = .ok (.goto (-55), 3) := by decide +kernel
theorem dX8_patternOf_67 : decode cX8_patternOf 67 = .ok (.iload_n 2, 1) := by decide +kernel
theorem dX8_patternOf_68 : decode cX8_patternOf 68 = .ok (.ireturn, 1) := by decide +kernel
theorem dX8_about_0 : decode cX8_about 0 = .ok (.aload_n 0, 1) := by decide +kernel
theorem dX8_about_1 : decode cX8_about 1 = .ok (.iconst 0, 1) := by decide +kernel
theorem dX8_about_2 : decode cX8_about 2 = .ok (.putfield 1, 3) := by decide +kernel
theorem dX8_about_5 : decode cX8_about 5 = .ok (.aload_n 0, 1) := by decide +kernel
theorem dX8_about_6 : decode cX8_about 6 = .ok (.iload_n 1, 1) := by decide +kernel
theorem dX8_about_7 : decode cX8_about 7 = .ok (.invokevirtual 159, 3) := by decide +kernel
theorem dX8_about_10 : decode cX8_about 10 = .ok (.ifCond .ne 5, 3) := by decide +kernel
theorem dX8_about_13 : decode cX8_about 13 = .ok (.iconst (-1), 1) := by decide +kernel
theorem dX8_about_14 : decode cX8_about 14 = .ok (.ireturn, 1) := by decide +kernel
theorem dX8_about_15 : decode cX8_about 15 = .ok (.aload_n 0, 1) := by decide +kernel
theorem dX8_about_16 : decode cX8_about 16 = .ok (.iload_n 1, 1) := by decide +kernel
theorem dX8_about_17 : decode cX8_about 17 = .ok (.invokevirtual 181, 3) := by decide +kernel
theorem dX8_about_20 : decode cX8_about 20 = .ok (.iload_n 2, 1) := by decide +kernel
theorem dX8_about_21 : decode cX8_about 21 = .ok (.tableswitch 122 0 6 #[43, 50, 57, 64, 69, 75, 81], 43) := by decide +kernel
theorem dX8_about_64 : decode cX8_about 64 = .ok (.aload_n 0, 1) := by decide +kernel
theorem dX8_about_65 : decode cX8_about 65 = .ok (.getfield 47, 3) := by decide +kernel
theorem dX8_about_68 : decode cX8_about 68 = .ok (.iload_n 1, 1) := by decide +kernel
theorem dX8_about_69 : decode cX8_about 69 = .ok (.iaload, 1) := by decide +kernel
theorem dX8_about_70 : decode cX8_about 70 = .ok (.ireturn, 1) := by decide +kernel
theorem dX8_about_71 : decode cX8_about 71 = .ok (.aload_n 0, 1) := by decide +kernel
theorem dX8_about_72 : decode cX8_about 72 = .ok (.getfield 50, 3) := by decide +kernel
theorem dX8_about_75 : decode cX8_about 75 = .ok (.iload_n 1, 1) := by decide +kernel
theorem dX8_about_76 : decode cX8_about 76 = .ok (.iaload, 1) := by decide +kernel
theorem dX8_about_77 : decode cX8_about 77 = .ok (.ireturn, 1) := by decide +kernel
theorem dX8_about_78 : decode cX8_about 78 = .ok (.aload_n 0, 1) := by decide +kernel
theorem dX8_about_79 : decode cX8_about 79 = .ok (.getfield 53, 3) := by decide +kernel
theorem dX8_about_82 : decode cX8_about 82 = .ok (.iload_n 1, 1) := by decide +kernel
theorem dX8_about_83 : decode cX8_about 83 = .ok (.iaload, 1) := by decide +kernel
theorem dX8_about_84 : decode cX8_about 84 = .ok (.ireturn, 1) := by decide +kernel
theorem dX8_about_85 : decode cX8_about 85 = .ok (.aload_n 0, 1) := by decide +kernel
theorem dX8_about_86 : decode cX8_about 86 = .ok (.getfield 162, 3) := by decide +kernel
theorem dX8_about_89 : decode cX8_about 89 = .ok (.ireturn, 1) := by decide +kernel
theorem dX8_about_90 : decode cX8_about 90 = .ok (.aload_n 0, 1) := by decide +kernel
theorem dX8_about_91 : decode cX8_about 91 = .ok (.iload_n 1, 1) := by decide +kernel
theorem dX8_about_92 : decode cX8_about 92 = .ok (.invokevirtual 201, 3) := by decide +kernel
theorem dX8_about_95 : decode cX8_about 95 = .ok (.ireturn, 1) := by decide +kernel
theorem dX8_about_96 : decode cX8_about 96 = .ok (.aload_n 0, 1) := by decide +kernel
theorem dX8_about_97 : decode cX8_about 97 = .ok (.iload_n 1, 1) := by decide +kernel
theorem dX8_about_98 : decode cX8_about 98 = .ok (.invokevirtual 204, 3) := by decide +kernel
theorem dX8_about_101 : decode cX8_about 101 = .ok (.ireturn, 1) := by decide +kernel
theorem dX8_about_102 : decode cX8_about 102 = .ok (.iconst 0, 1) := by decide +kernel
theorem dX8_about_103 : decode cX8_about 103 = .ok (.istore_n 3, 1) := by decide +kernel
theorem dX8_about_104 : decode cX8_about 104 = .ok (.iconst 0, 1) := by decide +kernel
theorem dX8_about_105 : decode cX8_about 105 = .ok (.istore 4, 2) := by decide +kernel
theorem dX8_about_107 : decode cX8_about 107 = .ok (.iload 4, 2) := by decide +kernel
theorem dX8_about_109 : decode cX8_about 109 = .ok (.aload_n 0, 1) := by decide +kernel
theorem dX8_about_110 : decode cX8_about 110 = .ok (.getfield 137, 3) := by decide +kernel
theorem dX8_about_113 : decode cX8_about 113 = .ok (.if_icmp .ge 28, 3) := by decide +kernel
theorem dX8_about_116 : decode cX8_about 116 = .ok (.iload_n 3, 1) := by decide +kernel
theorem dX8_about_117 : decode cX8_about 117 = .ok (.aload_n 0, 1) := by decide +kernel
theorem dX8_about_118 : decode cX8_about 118 = .ok (.getfield 59, 3) := by decide +kernel
theorem dX8_about_121 : decode cX8_about 121 = .ok (.iload 4, 2) := by decide +kernel
theorem dX8_about_123 : decode cX8_about 123 = .ok (.iaload, 1) := by decide +kernel
theorem dX8_about_124 : decode cX8_about 124 = .ok (.iload_n 1, 1) := by decide +kernel
theorem dX8_about_125 : decode cX8_about 125 = .ok (.if_icmp .ne 7, 3) := by decide +kernel
theorem dX8_about_128 : decode cX8_about 128 = .ok (.iconst 1, 1) := by decide +kernel
theorem dX8_about_129 : decode cX8_about 129 = .ok (.goto 4, 3) := by decide +kernel
theorem dX8_about_132 : decode cX8_about 132 = .ok (.iconst 0, 1) := by decide +kernel
theorem dX8_about_133 : decode cX8_about 133 = .ok (.iadd, 1) := by decide +kernel
theorem dX8_about_134 : decode cX8_about 134 = .ok (.istore_n 3, 1) := by decide +kernel
theorem dX8_about_135 : decode cX8_about 135 = .ok (.iinc 4 1, 3) := by decide +kernel
theorem dX8_about_138 : decode cX8_about 138 = .ok (.goto (-31), 3) := by decide +kernel
theorem dX8_about_141 : decode cX8_about 141 = .ok (.iload_n 3, 1) := by decide +kernel
theorem dX8_about_142 : decode cX8_about 142 = .ok (.ireturn, 1) := by decide +kernel
theorem dX8_about_143 : decode cX8_about 143 = .ok (.iconst (-1), 1) := by decide +kernel
theorem dX8_about_144 : decode cX8_about 144 = .ok (.ireturn, 1) := by decide +kernel
theorem dX8_wayOf_0 : decode cX8_wayOf 0 = .ok (.bipush (-2), 2) := by decide +kernel
theorem dX8_wayOf_2 : decode cX8_wayOf 2 = .ok (.istore_n 2, 1) := by decide +kernel
theorem dX8_wayOf_3 : decode cX8_wayOf 3 = .ok (.iconst 0, 1) := by decide +kernel
theorem dX8_wayOf_4 : decode cX8_wayOf 4 = .ok (.istore_n 3, 1) := by decide +kernel
theorem dX8_wayOf_5 : decode cX8_wayOf 5 = .ok (.iconst 0, 1) := by decide +kernel
theorem dX8_wayOf_6 : decode cX8_wayOf 6 = .ok (.istore 4, 2) := by decide +kernel
theorem dX8_wayOf_8 : decode cX8_wayOf 8 = .ok (.iload 4, 2) := by decide +kernel
theorem dX8_wayOf_10 : decode cX8_wayOf 10 = .ok (.aload_n 0, 1) := by decide +kernel
theorem dX8_wayOf_11 : decode cX8_wayOf 11 = .ok (.getfield 120, 3) := by decide +kernel
theorem dX8_wayOf_14 : decode cX8_wayOf 14 = .ok (.if_icmp .ge 111, 3) := by decide +kernel
theorem dX8_wayOf_17 : decode cX8_wayOf 17 = .ok (.aload_n 0, 1) := by decide +kernel
theorem dX8_wayOf_18 : decode cX8_wayOf 18 = .ok (.getfield 50, 3) := by decide +kernel
theorem dX8_wayOf_21 : decode cX8_wayOf 21 = .ok (.iload 4, 2) := by decide +kernel
theorem dX8_wayOf_23 : decode cX8_wayOf 23 = .ok (.iaload, 1) := by decide +kernel
theorem dX8_wayOf_24 : decode cX8_wayOf 24 = .ok (.iload_n 1, 1) := by decide +kernel
theorem dX8_wayOf_25 : decode cX8_wayOf 25 = .ok (.if_icmp .eq 6, 3) := by decide +kernel
theorem dX8_wayOf_28 : decode cX8_wayOf 28 = .ok (.goto 91, 3) := by decide +kernel
theorem dX8_wayOf_31 : decode cX8_wayOf 31 = .ok (.aload_n 0, 1) := by decide +kernel
theorem dX8_wayOf_32 : decode cX8_wayOf 32 = .ok (.iload 4, 2) := by decide +kernel
theorem dX8_wayOf_34 : decode cX8_wayOf 34 = .ok (.invokevirtual 204, 3) := by decide +kernel
theorem dX8_wayOf_37 : decode cX8_wayOf 37 = .ok (.istore 5, 2) := by decide +kernel
theorem dX8_wayOf_39 : decode cX8_wayOf 39 = .ok (.iconst 0, 1) := by decide +kernel
theorem dX8_wayOf_40 : decode cX8_wayOf 40 = .ok (.istore 6, 2) := by decide +kernel
theorem dX8_wayOf_42 : decode cX8_wayOf 42 = .ok (.iconst 0, 1) := by decide +kernel
theorem dX8_wayOf_43 : decode cX8_wayOf 43 = .ok (.istore 7, 2) := by decide +kernel
theorem dX8_wayOf_45 : decode cX8_wayOf 45 = .ok (.iload 7, 2) := by decide +kernel
theorem dX8_wayOf_47 : decode cX8_wayOf 47 = .ok (.aload_n 0, 1) := by decide +kernel
theorem dX8_wayOf_48 : decode cX8_wayOf 48 = .ok (.getfield 120, 3) := by decide +kernel
theorem dX8_wayOf_51 : decode cX8_wayOf 51 = .ok (.if_icmp .ge 41, 3) := by decide +kernel
theorem dX8_wayOf_54 : decode cX8_wayOf 54 = .ok (.iload 6, 2) := by decide +kernel
theorem dX8_wayOf_56 : decode cX8_wayOf 56 = .ok (.aload_n 0, 1) := by decide +kernel
theorem dX8_wayOf_57 : decode cX8_wayOf 57 = .ok (.getfield 50, 3) := by decide +kernel
theorem dX8_wayOf_60 : decode cX8_wayOf 60 = .ok (.iload 7, 2) := by decide +kernel
theorem dX8_wayOf_62 : decode cX8_wayOf 62 = .ok (.iaload, 1) := by decide +kernel
theorem dX8_wayOf_63 : decode cX8_wayOf 63 = .ok (.iload_n 1, 1) := by decide +kernel
theorem dX8_wayOf_64 : decode cX8_wayOf 64 = .ok (.if_icmp .ne 18, 3) := by decide +kernel
theorem dX8_wayOf_67 : decode cX8_wayOf 67 = .ok (.aload_n 0, 1) := by decide +kernel
theorem dX8_wayOf_68 : decode cX8_wayOf 68 = .ok (.iload 7, 2) := by decide +kernel
theorem dX8_wayOf_70 : decode cX8_wayOf 70 = .ok (.invokevirtual 204, 3) := by decide +kernel
theorem dX8_wayOf_73 : decode cX8_wayOf 73 = .ok (.iload 5, 2) := by decide +kernel
theorem dX8_wayOf_75 : decode cX8_wayOf 75 = .ok (.if_icmp .ne 7, 3) := by decide +kernel
theorem dX8_wayOf_78 : decode cX8_wayOf 78 = .ok (.iconst 1, 1) := by decide +kernel
theorem dX8_wayOf_79 : decode cX8_wayOf 79 = .ok (.goto 4, 3) := by decide +kernel
theorem dX8_wayOf_82 : decode cX8_wayOf 82 = .ok (.iconst 0, 1) := by decide +kernel
theorem dX8_wayOf_83 : decode cX8_wayOf 83 = .ok (.iadd, 1) := by decide +kernel
theorem dX8_wayOf_84 : decode cX8_wayOf 84 = .ok (.istore 6, 2) := by decide +kernel
theorem dX8_wayOf_86 : decode cX8_wayOf 86 = .ok (.iinc 7 1, 3) := by decide +kernel
theorem dX8_wayOf_89 : decode cX8_wayOf 89 = .ok (.goto (-44), 3) := by decide +kernel
theorem dX8_wayOf_92 : decode cX8_wayOf 92 = .ok (.iload 6, 2) := by decide +kernel
theorem dX8_wayOf_94 : decode cX8_wayOf 94 = .ok (.iload_n 3, 1) := by decide +kernel
theorem dX8_wayOf_95 : decode cX8_wayOf 95 = .ok (.if_icmp .lt 24, 3) := by decide +kernel
theorem dX8_wayOf_98 : decode cX8_wayOf 98 = .ok (.iload 6, 2) := by decide +kernel
theorem dX8_wayOf_100 : decode cX8_wayOf 100 = .ok (.iload_n 3, 1) := by decide +kernel
theorem dX8_wayOf_101 : decode cX8_wayOf 101 = .ok (.if_icmp .ne 12, 3) := by decide +kernel
theorem dX8_wayOf_104 : decode cX8_wayOf 104 = .ok (.iload 5, 2) := by decide +kernel
theorem dX8_wayOf_106 : decode cX8_wayOf 106 = .ok (.iload_n 2, 1) := by decide +kernel
theorem dX8_wayOf_107 : decode cX8_wayOf 107 = .ok (.if_icmp .lt 6, 3) := by decide +kernel
theorem dX8_wayOf_110 : decode cX8_wayOf 110 = .ok (.goto 9, 3) := by decide +kernel
theorem dX8_wayOf_113 : decode cX8_wayOf 113 = .ok (.iload 6, 2) := by decide +kernel
theorem dX8_wayOf_115 : decode cX8_wayOf 115 = .ok (.istore_n 3, 1) := by decide +kernel
theorem dX8_wayOf_116 : decode cX8_wayOf 116 = .ok (.iload 5, 2) := by decide +kernel
theorem dX8_wayOf_118 : decode cX8_wayOf 118 = .ok (.istore_n 2, 1) := by decide +kernel
theorem dX8_wayOf_119 : decode cX8_wayOf 119 = .ok (.iinc 4 1, 3) := by decide +kernel
theorem dX8_wayOf_122 : decode cX8_wayOf 122 = .ok (.goto (-114), 3) := by decide +kernel
theorem dX8_wayOf_125 : decode cX8_wayOf 125 = .ok (.iload_n 2, 1) := by decide +kernel
theorem dX8_wayOf_126 : decode cX8_wayOf 126 = .ok (.ireturn, 1) := by decide +kernel
theorem dX8_way_0 : decode cX8_way 0 = .ok (.aload_n 0, 1) := by decide +kernel
theorem dX8_way_1 : decode cX8_way 1 = .ok (.iconst 0, 1) := by decide +kernel
theorem dX8_way_2 : decode cX8_way 2 = .ok (.putfield 1, 3) := by decide +kernel
theorem dX8_way_5 : decode cX8_way 5 = .ok (.iload_n 1, 1) := by decide +kernel
theorem dX8_way_6 : decode cX8_way 6 = .ok (.iconst 0, 1) := by decide +kernel
theorem dX8_way_7 : decode cX8_way 7 = .ok (.iconst 2, 1) := by decide +kernel
theorem dX8_way_8 : decode cX8_way 8 = .ok (.invokestatic 24, 3) := by decide +kernel
theorem dX8_way_11 : decode cX8_way 11 = .ok (.ifCond .eq 11, 3) := by decide +kernel
theorem dX8_way_14 : decode cX8_way 14 = .ok (.aload_n 0, 1) := by decide +kernel
theorem dX8_way_15 : decode cX8_way 15 = .ok (.iload_n 1, 1) := by decide +kernel
theorem dX8_way_16 : decode cX8_way 16 = .ok (.invokevirtual 207, 3) := by decide +kernel
theorem dX8_way_19 : decode cX8_way 19 = .ok (.goto 4, 3) := by decide +kernel
theorem dX8_way_22 : decode cX8_way 22 = .ok (.iconst (-1), 1) := by decide +kernel
theorem dX8_way_23 : decode cX8_way 23 = .ok (.ireturn, 1) := by decide +kernel
theorem dX8_odd_0 : decode cX8_odd 0 = .ok (.aload_n 0, 1) := by decide +kernel
theorem dX8_odd_1 : decode cX8_odd 1 = .ok (.iconst 0, 1) := by decide +kernel
theorem dX8_odd_2 : decode cX8_odd 2 = .ok (.putfield 1, 3) := by decide +kernel
theorem dX8_odd_5 : decode cX8_odd 5 = .ok (.iload_n 1, 1) := by decide +kernel
theorem dX8_odd_6 : decode cX8_odd 6 = .ok (.iconst 0, 1) := by decide +kernel
theorem dX8_odd_7 : decode cX8_odd 7 = .ok (.iconst 2, 1) := by decide +kernel
theorem dX8_odd_8 : decode cX8_odd 8 = .ok (.invokestatic 24, 3) := by decide +kernel
theorem dX8_odd_11 : decode cX8_odd 11 = .ok (.ifCond .ne 5, 3) := by decide +kernel
theorem dX8_odd_14 : decode cX8_odd 14 = .ok (.iconst (-1), 1) := by decide +kernel
theorem dX8_odd_15 : decode cX8_odd 15 = .ok (.ireturn, 1) := by decide +kernel
theorem dX8_odd_16 : decode cX8_odd 16 = .ok (.aload_n 0, 1) := by decide +kernel
theorem dX8_odd_17 : decode cX8_odd 17 = .ok (.iload_n 1, 1) := by decide +kernel
theorem dX8_odd_18 : decode cX8_odd 18 = .ok (.invokevirtual 207, 3) := by decide +kernel
theorem dX8_odd_21 : decode cX8_odd 21 = .ok (.istore_n 2, 1) := by decide +kernel
theorem dX8_odd_22 : decode cX8_odd 22 = .ok (.iconst 0, 1) := by decide +kernel
theorem dX8_odd_23 : decode cX8_odd 23 = .ok (.istore_n 3, 1) := by decide +kernel
theorem dX8_odd_24 : decode cX8_odd 24 = .ok (.iconst 0, 1) := by decide +kernel
theorem dX8_odd_25 : decode cX8_odd 25 = .ok (.istore 4, 2) := by decide +kernel
theorem dX8_odd_27 : decode cX8_odd 27 = .ok (.iload 4, 2) := by decide +kernel
theorem dX8_odd_29 : decode cX8_odd 29 = .ok (.aload_n 0, 1) := by decide +kernel
theorem dX8_odd_30 : decode cX8_odd 30 = .ok (.getfield 120, 3) := by decide +kernel
theorem dX8_odd_33 : decode cX8_odd 33 = .ok (.if_icmp .ge 38, 3) := by decide +kernel
theorem dX8_odd_36 : decode cX8_odd 36 = .ok (.iload_n 3, 1) := by decide +kernel
theorem dX8_odd_37 : decode cX8_odd 37 = .ok (.aload_n 0, 1) := by decide +kernel
theorem dX8_odd_38 : decode cX8_odd 38 = .ok (.getfield 50, 3) := by decide +kernel
theorem dX8_odd_41 : decode cX8_odd 41 = .ok (.iload 4, 2) := by decide +kernel
theorem dX8_odd_43 : decode cX8_odd 43 = .ok (.iaload, 1) := by decide +kernel
theorem dX8_odd_44 : decode cX8_odd 44 = .ok (.iload_n 1, 1) := by decide +kernel
theorem dX8_odd_45 : decode cX8_odd 45 = .ok (.if_icmp .ne 17, 3) := by decide +kernel
theorem dX8_odd_48 : decode cX8_odd 48 = .ok (.aload_n 0, 1) := by decide +kernel
theorem dX8_odd_49 : decode cX8_odd 49 = .ok (.iload 4, 2) := by decide +kernel
theorem dX8_odd_51 : decode cX8_odd 51 = .ok (.invokevirtual 204, 3) := by decide +kernel
theorem dX8_odd_54 : decode cX8_odd 54 = .ok (.iload_n 2, 1) := by decide +kernel
theorem dX8_odd_55 : decode cX8_odd 55 = .ok (.if_icmp .eq 7, 3) := by decide +kernel
theorem dX8_odd_58 : decode cX8_odd 58 = .ok (.iconst 1, 1) := by decide +kernel
theorem dX8_odd_59 : decode cX8_odd 59 = .ok (.goto 4, 3) := by decide +kernel
theorem dX8_odd_62 : decode cX8_odd 62 = .ok (.iconst 0, 1) := by decide +kernel
theorem dX8_odd_63 : decode cX8_odd 63 = .ok (.iadd, 1) := by decide +kernel
theorem dX8_odd_64 : decode cX8_odd 64 = .ok (.istore_n 3, 1) := by decide +kernel
theorem dX8_odd_65 : decode cX8_odd 65 = .ok (.iinc 4 1, 3) := by decide +kernel
theorem dX8_odd_68 : decode cX8_odd 68 = .ok (.goto (-41), 3) := by decide +kernel
theorem dX8_odd_71 : decode cX8_odd 71 = .ok (.iload_n 3, 1) := by decide +kernel
theorem dX8_odd_72 : decode cX8_odd 72 = .ok (.ireturn, 1) := by decide +kernel
theorem dX8_isOdd_0 : decode cX8_isOdd 0 = .ok (.aload_n 0, 1) := by decide +kernel
theorem dX8_isOdd_1 : decode cX8_isOdd 1 = .ok (.iconst 0, 1) := by decide +kernel
theorem dX8_isOdd_2 : decode cX8_isOdd 2 = .ok (.putfield 1, 3) := by decide +kernel
theorem dX8_isOdd_5 : decode cX8_isOdd 5 = .ok (.aload_n 0, 1) := by decide +kernel
theorem dX8_isOdd_6 : decode cX8_isOdd 6 = .ok (.iload_n 1, 1) := by decide +kernel
theorem dX8_isOdd_7 : decode cX8_isOdd 7 = .ok (.invokevirtual 159, 3) := by decide +kernel
theorem dX8_isOdd_10 : decode cX8_isOdd 10 = .ok (.ifCond .eq 29, 3) := by decide +kernel
theorem dX8_isOdd_13 : decode cX8_isOdd 13 = .ok (.aload_n 0, 1) := by decide +kernel
theorem dX8_isOdd_14 : decode cX8_isOdd 14 = .ok (.iload_n 1, 1) := by decide +kernel
theorem dX8_isOdd_15 : decode cX8_isOdd 15 = .ok (.invokevirtual 204, 3) := by decide +kernel
theorem dX8_isOdd_18 : decode cX8_isOdd 18 = .ok (.aload_n 0, 1) := by decide +kernel
theorem dX8_isOdd_19 : decode cX8_isOdd 19 = .ok (.aload_n 0, 1) := by decide +kernel
theorem dX8_isOdd_20 : decode cX8_isOdd 20 = .ok (.getfield 50, 3) := by decide +kernel
theorem dX8_isOdd_23 : decode cX8_isOdd 23 = .ok (.iload_n 1, 1) := by decide +kernel
theorem dX8_isOdd_24 : decode cX8_isOdd 24 = .ok (.iaload, 1) := by decide +kernel
theorem dX8_isOdd_25 : decode cX8_isOdd 25 = .ok (.invokevirtual 207, 3) := by decide +kernel
theorem dX8_isOdd_28 : decode cX8_isOdd 28 = .ok (.if_icmp .eq 7, 3) := by decide +kernel
theorem dX8_isOdd_31 : decode cX8_isOdd 31 = .ok (.iconst 1, 1) := by decide +kernel
theorem dX8_isOdd_32 : decode cX8_isOdd 32 = .ok (.goto 8, 3) := by decide +kernel
theorem dX8_isOdd_35 : decode cX8_isOdd 35 = .ok (.iconst 0, 1) := by decide +kernel
theorem dX8_isOdd_36 : decode cX8_isOdd 36 = .ok (.goto 4, 3) := by decide +kernel
theorem dX8_isOdd_39 : decode cX8_isOdd 39 = .ok (.iconst (-1), 1) := by decide +kernel
theorem dX8_isOdd_40 : decode cX8_isOdd 40 = .ok (.ireturn, 1) := by decide +kernel
theorem dX8_mixed_0 : decode cX8_mixed 0 = .ok (.aload_n 0, 1) := by decide +kernel
theorem dX8_mixed_1 : decode cX8_mixed 1 = .ok (.iconst 0, 1) := by decide +kernel
theorem dX8_mixed_2 : decode cX8_mixed 2 = .ok (.putfield 1, 3) := by decide +kernel
theorem dX8_mixed_5 : decode cX8_mixed 5 = .ok (.aload_n 0, 1) := by decide +kernel
theorem dX8_mixed_6 : decode cX8_mixed 6 = .ok (.invokevirtual 192, 3) := by decide +kernel
theorem dX8_mixed_9 : decode cX8_mixed 9 = .ok (.iconst 0, 1) := by decide +kernel
theorem dX8_mixed_10 : decode cX8_mixed 10 = .ok (.istore_n 1, 1) := by decide +kernel
theorem dX8_mixed_11 : decode cX8_mixed 11 = .ok (.iconst 0, 1) := by decide +kernel
theorem dX8_mixed_12 : decode cX8_mixed 12 = .ok (.istore_n 2, 1) := by decide +kernel
theorem dX8_mixed_13 : decode cX8_mixed 13 = .ok (.iload_n 2, 1) := by decide +kernel
theorem dX8_mixed_14 : decode cX8_mixed 14 = .ok (.aload_n 0, 1) := by decide +kernel
theorem dX8_mixed_15 : decode cX8_mixed 15 = .ok (.getfield 165, 3) := by decide +kernel
theorem dX8_mixed_18 : decode cX8_mixed 18 = .ok (.if_icmp .ge 105, 3) := by decide +kernel
theorem dX8_mixed_21 : decode cX8_mixed 21 = .ok (.iconst 0, 1) := by decide +kernel
theorem dX8_mixed_22 : decode cX8_mixed 22 = .ok (.istore_n 3, 1) := by decide +kernel
theorem dX8_mixed_23 : decode cX8_mixed 23 = .ok (.iconst 1, 1) := by decide +kernel
theorem dX8_mixed_24 : decode cX8_mixed 24 = .ok (.istore 4, 2) := by decide +kernel
theorem dX8_mixed_26 : decode cX8_mixed 26 = .ok (.iconst 0, 1) := by decide +kernel
theorem dX8_mixed_27 : decode cX8_mixed 27 = .ok (.istore 5, 2) := by decide +kernel
theorem dX8_mixed_29 : decode cX8_mixed 29 = .ok (.iload 5, 2) := by decide +kernel
theorem dX8_mixed_31 : decode cX8_mixed 31 = .ok (.aload_n 0, 1) := by decide +kernel
theorem dX8_mixed_32 : decode cX8_mixed 32 = .ok (.getfield 165, 3) := by decide +kernel
theorem dX8_mixed_35 : decode cX8_mixed 35 = .ok (.if_icmp .ge 64, 3) := by decide +kernel
theorem dX8_mixed_38 : decode cX8_mixed 38 = .ok (.aload_n 0, 1) := by decide +kernel
theorem dX8_mixed_39 : decode cX8_mixed 39 = .ok (.getfield 83, 3) := by decide +kernel
theorem dX8_mixed_42 : decode cX8_mixed 42 = .ok (.iload 5, 2) := by decide +kernel
theorem dX8_mixed_44 : decode cX8_mixed 44 = .ok (.iaload, 1) := by decide +kernel
theorem dX8_mixed_45 : decode cX8_mixed 45 = .ok (.aload_n 0, 1) := by decide +kernel
theorem dX8_mixed_46 : decode cX8_mixed 46 = .ok (.getfield 83, 3) := by decide +kernel
theorem dX8_mixed_49 : decode cX8_mixed 49 = .ok (.iload_n 2, 1) := by decide +kernel
theorem dX8_mixed_50 : decode cX8_mixed 50 = .ok (.iaload, 1) := by decide +kernel
theorem dX8_mixed_51 : decode cX8_mixed 51 = .ok (.if_icmp .eq 6, 3) := by decide +kernel
theorem dX8_mixed_54 : decode cX8_mixed 54 = .ok (.goto 39, 3) := by decide +kernel
theorem dX8_mixed_57 : decode cX8_mixed 57 = .ok (.iload 4, 2) := by decide +kernel
theorem dX8_mixed_59 : decode cX8_mixed 59 = .ok (.ifCond .eq 13, 3) := by decide +kernel
theorem dX8_mixed_62 : decode cX8_mixed 62 = .ok (.iload 5, 2) := by decide +kernel
theorem dX8_mixed_64 : decode cX8_mixed 64 = .ok (.iload_n 2, 1) := by decide +kernel
theorem dX8_mixed_65 : decode cX8_mixed 65 = .ok (.if_icmp .lt 7, 3) := by decide +kernel
theorem dX8_mixed_68 : decode cX8_mixed 68 = .ok (.iconst 1, 1) := by decide +kernel
theorem dX8_mixed_69 : decode cX8_mixed 69 = .ok (.goto 4, 3) := by decide +kernel
theorem dX8_mixed_72 : decode cX8_mixed 72 = .ok (.iconst 0, 1) := by decide +kernel
theorem dX8_mixed_73 : decode cX8_mixed 73 = .ok (.istore 4, 2) := by decide +kernel
theorem dX8_mixed_75 : decode cX8_mixed 75 = .ok (.iload_n 3, 1) := by decide +kernel
theorem dX8_mixed_76 : decode cX8_mixed 76 = .ok (.aload_n 0, 1) := by decide +kernel
theorem dX8_mixed_77 : decode cX8_mixed 77 = .ok (.getfield 86, 3) := by decide +kernel
theorem dX8_mixed_80 : decode cX8_mixed 80 = .ok (.iload 5, 2) := by decide +kernel
theorem dX8_mixed_82 : decode cX8_mixed 82 = .ok (.iaload, 1) := by decide +kernel
theorem dX8_mixed_83 : decode cX8_mixed 83 = .ok (.ifCond .le 7, 3) := by decide +kernel
theorem dX8_mixed_86 : decode cX8_mixed 86 = .ok (.iconst 1, 1) := by decide +kernel
theorem dX8_mixed_87 : decode cX8_mixed 87 = .ok (.goto 4, 3) := by decide +kernel
theorem dX8_mixed_90 : decode cX8_mixed 90 = .ok (.iconst 0, 1) := by decide +kernel
theorem dX8_mixed_91 : decode cX8_mixed 91 = .ok (.iadd, 1) := by decide +kernel
theorem dX8_mixed_92 : decode cX8_mixed 92 = .ok (.istore_n 3, 1) := by decide +kernel
theorem dX8_mixed_93 : decode cX8_mixed 93 = .ok (.iinc 5 1, 3) := by decide +kernel
theorem dX8_mixed_96 : decode cX8_mixed 96 = .ok (.goto (-67), 3) := by decide +kernel
theorem dX8_mixed_99 : decode cX8_mixed 99 = .ok (.iload_n 1, 1) := by decide +kernel
theorem dX8_mixed_100 : decode cX8_mixed 100 = .ok (.iload 4, 2) := by decide +kernel
theorem dX8_mixed_102 : decode cX8_mixed 102 = .ok (.ifCond .eq 12, 3) := by decide +kernel
theorem dX8_mixed_105 : decode cX8_mixed 105 = .ok (.iload_n 3, 1) := by decide +kernel
theorem dX8_mixed_106 : decode cX8_mixed 106 = .ok (.iconst 1, 1) := by decide +kernel
theorem dX8_mixed_107 : decode cX8_mixed 107 = .ok (.if_icmp .le 7, 3) := by decide +kernel
theorem dX8_mixed_110 : decode cX8_mixed 110 = .ok (.iconst 1, 1) := by decide +kernel
theorem dX8_mixed_111 : decode cX8_mixed 111 = .ok (.goto 4, 3) := by decide +kernel
theorem dX8_mixed_114 : decode cX8_mixed 114 = .ok (.iconst 0, 1) := by decide +kernel
theorem dX8_mixed_115 : decode cX8_mixed 115 = .ok (.iadd, 1) := by decide +kernel
theorem dX8_mixed_116 : decode cX8_mixed 116 = .ok (.istore_n 1, 1) := by decide +kernel
theorem dX8_mixed_117 : decode cX8_mixed 117 = .ok (.iinc 2 1, 3) := by decide +kernel
theorem dX8_mixed_120 : decode cX8_mixed 120 = .ok (.goto (-107), 3) := by decide +kernel
theorem dX8_mixed_123 : decode cX8_mixed 123 = .ok (.iload_n 1, 1) := by decide +kernel
theorem dX8_mixed_124 : decode cX8_mixed 124 = .ok (.ireturn, 1) := by decide +kernel
theorem dX8_strange_0 : decode cX8_strange 0 = .ok (.aload_n 0, 1) := by decide +kernel
theorem dX8_strange_1 : decode cX8_strange 1 = .ok (.iconst 0, 1) := by decide +kernel
theorem dX8_strange_2 : decode cX8_strange 2 = .ok (.putfield 1, 3) := by decide +kernel
theorem dX8_strange_5 : decode cX8_strange 5 = .ok (.iconst 0, 1) := by decide +kernel
theorem dX8_strange_6 : decode cX8_strange 6 = .ok (.istore_n 1, 1) := by decide +kernel
theorem dX8_strange_7 : decode cX8_strange 7 = .ok (.iconst 0, 1) := by decide +kernel
theorem dX8_strange_8 : decode cX8_strange 8 = .ok (.istore_n 2, 1) := by decide +kernel
theorem dX8_strange_9 : decode cX8_strange 9 = .ok (.iload_n 2, 1) := by decide +kernel
theorem dX8_strange_10 : decode cX8_strange 10 = .ok (.aload_n 0, 1) := by decide +kernel
theorem dX8_strange_11 : decode cX8_strange 11 = .ok (.getfield 120, 3) := by decide +kernel
theorem dX8_strange_14 : decode cX8_strange 14 = .ok (.if_icmp .ge 69, 3) := by decide +kernel
theorem dX8_strange_17 : decode cX8_strange 17 = .ok (.aload_n 0, 1) := by decide +kernel
theorem dX8_strange_18 : decode cX8_strange 18 = .ok (.iload_n 2, 1) := by decide +kernel
theorem dX8_strange_19 : decode cX8_strange 19 = .ok (.invokevirtual 181, 3) := by decide +kernel
theorem dX8_strange_22 : decode cX8_strange 22 = .ok (.iconst 0, 1) := by decide +kernel
theorem dX8_strange_23 : decode cX8_strange 23 = .ok (.istore_n 3, 1) := by decide +kernel
theorem dX8_strange_24 : decode cX8_strange 24 = .ok (.iload_n 3, 1) := by decide +kernel
theorem dX8_strange_25 : decode cX8_strange 25 = .ok (.aload_n 0, 1) := by decide +kernel
theorem dX8_strange_26 : decode cX8_strange 26 = .ok (.getfield 162, 3) := by decide +kernel
theorem dX8_strange_29 : decode cX8_strange 29 = .ok (.if_icmp .ge 48, 3) := by decide +kernel
theorem dX8_strange_32 : decode cX8_strange 32 = .ok (.iload_n 1, 1) := by decide +kernel
theorem dX8_strange_33 : decode cX8_strange 33 = .ok (.aload_n 0, 1) := by decide +kernel
theorem dX8_strange_34 : decode cX8_strange 34 = .ok (.iload_n 2, 1) := by decide +kernel
theorem dX8_strange_35 : decode cX8_strange 35 = .ok (.iload_n 3, 1) := by decide +kernel
theorem dX8_strange_36 : decode cX8_strange 36 = .ok (.invokevirtual 185, 3) := by decide +kernel
theorem dX8_strange_39 : decode cX8_strange 39 = .ok (.ifCond .ge 29, 3) := by decide +kernel
theorem dX8_strange_42 : decode cX8_strange 42 = .ok (.aload_n 0, 1) := by decide +kernel
theorem dX8_strange_43 : decode cX8_strange 43 = .ok (.getfield 62, 3) := by decide +kernel
theorem dX8_strange_46 : decode cX8_strange 46 = .ok (.bipush 24, 2) := by decide +kernel
theorem dX8_strange_48 : decode cX8_strange 48 = .ok (.iload_n 2, 1) := by decide +kernel
theorem dX8_strange_49 : decode cX8_strange 49 = .ok (.imul, 1) := by decide +kernel
theorem dX8_strange_50 : decode cX8_strange 50 = .ok (.aload_n 0, 1) := by decide +kernel
theorem dX8_strange_51 : decode cX8_strange 51 = .ok (.getfield 65, 3) := by decide +kernel
theorem dX8_strange_54 : decode cX8_strange 54 = .ok (.iload_n 3, 1) := by decide +kernel
theorem dX8_strange_55 : decode cX8_strange 55 = .ok (.iaload, 1) := by decide +kernel
theorem dX8_strange_56 : decode cX8_strange 56 = .ok (.iadd, 1) := by decide +kernel
theorem dX8_strange_57 : decode cX8_strange 57 = .ok (.baload, 1) := by decide +kernel
theorem dX8_strange_58 : decode cX8_strange 58 = .ok (.invokestatic 28, 3) := by decide +kernel
theorem dX8_strange_61 : decode cX8_strange 61 = .ok (.ifCond .ne 7, 3) := by decide +kernel
theorem dX8_strange_64 : decode cX8_strange 64 = .ok (.iconst 1, 1) := by decide +kernel
theorem dX8_strange_65 : decode cX8_strange 65 = .ok (.goto 4, 3) := by decide +kernel
theorem dX8_strange_68 : decode cX8_strange 68 = .ok (.iconst 0, 1) := by decide +kernel
theorem dX8_strange_69 : decode cX8_strange 69 = .ok (.iadd, 1) := by decide +kernel
theorem dX8_strange_70 : decode cX8_strange 70 = .ok (.istore_n 1, 1) := by decide +kernel
theorem dX8_strange_71 : decode cX8_strange 71 = .ok (.iinc 3 1, 3) := by decide +kernel
theorem dX8_strange_74 : decode cX8_strange 74 = .ok (.goto (-50), 3) := by decide +kernel
theorem dX8_strange_77 : decode cX8_strange 77 = .ok (.iinc 2 1, 3) := by decide +kernel
theorem dX8_strange_80 : decode cX8_strange 80 = .ok (.goto (-71), 3) := by decide +kernel
theorem dX8_strange_83 : decode cX8_strange 83 = .ok (.iload_n 1, 1) := by decide +kernel
theorem dX8_strange_84 : decode cX8_strange 84 = .ok (.ireturn, 1) := by decide +kernel
theorem dX8_makes_0 : decode cX8_makes 0 = .ok (.aload_n 0, 1) := by decide +kernel
theorem dX8_makes_1 : decode cX8_makes 1 = .ok (.getfield 92, 3) := by decide +kernel
theorem dX8_makes_4 : decode cX8_makes 4 = .ok (.aload_n 0, 1) := by decide +kernel
theorem dX8_makes_5 : decode cX8_makes 5 = .ok (.getfield 210, 3) := by decide +kernel
theorem dX8_makes_8 : decode cX8_makes 8 = .ok (.iload_n 2, 1) := by decide +kernel
theorem dX8_makes_9 : decode cX8_makes 9 = .ok (.ifCond .eq 17, 3) := by decide +kernel
theorem dX8_makes_12 : decode cX8_makes 12 = .ok (.iload_n 1, 1) := by decide +kernel
theorem dX8_makes_13 : decode cX8_makes 13 = .ok (.invokestatic 17, 3) := by decide +kernel
theorem dX8_makes_16 : decode cX8_makes 16 = .ok (.ifCond .eq 10, 3) := by decide +kernel
theorem dX8_makes_19 : decode cX8_makes 19 = .ok (.iload_n 1, 1) := by decide +kernel
theorem dX8_makes_20 : decode cX8_makes 20 = .ok (.bipush 32, 2) := by decide +kernel
theorem dX8_makes_22 : decode cX8_makes 22 = .ok (.isub, 1) := by decide +kernel
theorem dX8_makes_23 : decode cX8_makes 23 = .ok (.goto 4, 3) := by decide +kernel
theorem dX8_makes_26 : decode cX8_makes 26 = .ok (.iload_n 1, 1) := by decide +kernel
theorem dX8_makes_27 : decode cX8_makes 27 = .ok (.i2b, 1) := by decide +kernel
theorem dX8_makes_28 : decode cX8_makes 28 = .ok (.bastore, 1) := by decide +kernel
theorem dX8_makes_29 : decode cX8_makes 29 = .ok (.aload_n 0, 1) := by decide +kernel
theorem dX8_makes_30 : decode cX8_makes 30 = .ok (.dup, 1) := by decide +kernel
theorem dX8_makes_31 : decode cX8_makes 31 = .ok (.getfield 210, 3) := by decide +kernel
theorem dX8_makes_34 : decode cX8_makes 34 = .ok (.iconst 1, 1) := by decide +kernel
theorem dX8_makes_35 : decode cX8_makes 35 = .ok (.iadd, 1) := by decide +kernel
theorem dX8_makes_36 : decode cX8_makes 36 = .ok (.putfield 210, 3) := by decide +kernel
theorem dX8_makes_39 : decode cX8_makes 39 = .ok (.return_, 1) := by decide +kernel
theorem dX8_offers_0 : decode cX8_offers 0 = .ok (.aload_n 0, 1) := by decide +kernel
theorem dX8_offers_1 : decode cX8_offers 1 = .ok (.invokevirtual 192, 3) := by decide +kernel
theorem dX8_offers_4 : decode cX8_offers 4 = .ok (.aload_n 0, 1) := by decide +kernel
theorem dX8_offers_5 : decode cX8_offers 5 = .ok (.iload_n 1, 1) := by decide +kernel
theorem dX8_offers_6 : decode cX8_offers 6 = .ok (.invokevirtual 201, 3) := by decide +kernel
theorem dX8_offers_9 : decode cX8_offers 9 = .ok (.istore_n 2, 1) := by decide +kernel
theorem dX8_offers_10 : decode cX8_offers 10 = .ok (.aload_n 0, 1) := by decide +kernel
theorem dX8_offers_11 : decode cX8_offers 11 = .ok (.iload_n 1, 1) := by decide +kernel
theorem dX8_offers_12 : decode cX8_offers 12 = .ok (.invokevirtual 181, 3) := by decide +kernel
theorem dX8_offers_15 : decode cX8_offers 15 = .ok (.aload_n 0, 1) := by decide +kernel
theorem dX8_offers_16 : decode cX8_offers 16 = .ok (.iconst 0, 1) := by decide +kernel
theorem dX8_offers_17 : decode cX8_offers 17 = .ok (.putfield 210, 3) := by decide +kernel
theorem dX8_offers_20 : decode cX8_offers 20 = .ok (.iconst 0, 1) := by decide +kernel
theorem dX8_offers_21 : decode cX8_offers 21 = .ok (.istore_n 3, 1) := by decide +kernel
theorem dX8_offers_22 : decode cX8_offers 22 = .ok (.iload_n 3, 1) := by decide +kernel
theorem dX8_offers_23 : decode cX8_offers 23 = .ok (.aload_n 0, 1) := by decide +kernel
theorem dX8_offers_24 : decode cX8_offers 24 = .ok (.getfield 162, 3) := by decide +kernel
theorem dX8_offers_27 : decode cX8_offers 27 = .ok (.if_icmp .ge 175, 3) := by decide +kernel
theorem dX8_offers_30 : decode cX8_offers 30 = .ok (.aload_n 0, 1) := by decide +kernel
theorem dX8_offers_31 : decode cX8_offers 31 = .ok (.aload_n 0, 1) := by decide +kernel
theorem dX8_offers_32 : decode cX8_offers 32 = .ok (.iload_n 1, 1) := by decide +kernel
theorem dX8_offers_33 : decode cX8_offers 33 = .ok (.iload_n 3, 1) := by decide +kernel
theorem dX8_offers_34 : decode cX8_offers 34 = .ok (.invokevirtual 185, 3) := by decide +kernel
theorem dX8_offers_37 : decode cX8_offers 37 = .ok (.invokevirtual 189, 3) := by decide +kernel
theorem dX8_offers_40 : decode cX8_offers 40 = .ok (.istore 4, 2) := by decide +kernel
theorem dX8_offers_42 : decode cX8_offers 42 = .ok (.iload 4, 2) := by decide +kernel
theorem dX8_offers_44 : decode cX8_offers 44 = .ok (.ifCond .lt 11, 3) := by decide +kernel
theorem dX8_offers_47 : decode cX8_offers 47 = .ok (.aload_n 0, 1) := by decide +kernel
theorem dX8_offers_48 : decode cX8_offers 48 = .ok (.iload 4, 2) := by decide +kernel
theorem dX8_offers_50 : decode cX8_offers 50 = .ok (.invokevirtual 195, 3) := by decide +kernel
theorem dX8_offers_53 : decode cX8_offers 53 = .ok (.istore 4, 2) := by decide +kernel
theorem dX8_offers_55 : decode cX8_offers 55 = .ok (.iload_n 2, 1) := by decide +kernel
theorem dX8_offers_56 : decode cX8_offers 56 = .ok (.iconst 1, 1) := by decide +kernel
theorem dX8_offers_57 : decode cX8_offers 57 = .ok (.if_icmp .le 14, 3) := by decide +kernel
theorem dX8_offers_60 : decode cX8_offers 60 = .ok (.iload_n 3, 1) := by decide +kernel
theorem dX8_offers_61 : decode cX8_offers 61 = .ok (.ifCond .le 10, 3) := by decide +kernel
theorem dX8_offers_64 : decode cX8_offers 64 = .ok (.aload_n 0, 1) := by decide +kernel
theorem dX8_offers_65 : decode cX8_offers 65 = .ok (.bipush 95, 2) := by decide +kernel
theorem dX8_offers_67 : decode cX8_offers 67 = .ok (.iconst 0, 1) := by decide +kernel
theorem dX8_offers_68 : decode cX8_offers 68 = .ok (.invokevirtual 213, 3) := by decide +kernel
theorem dX8_offers_71 : decode cX8_offers 71 = .ok (.iload 4, 2) := by decide +kernel
theorem dX8_offers_73 : decode cX8_offers 73 = .ok (.ifCond .lt 13, 3) := by decide +kernel
theorem dX8_offers_76 : decode cX8_offers 76 = .ok (.aload_n 0, 1) := by decide +kernel
theorem dX8_offers_77 : decode cX8_offers 77 = .ok (.getfield 74, 3) := by decide +kernel
theorem dX8_offers_80 : decode cX8_offers 80 = .ok (.iload 4, 2) := by decide +kernel
theorem dX8_offers_82 : decode cX8_offers 82 = .ok (.iaload, 1) := by decide +kernel
theorem dX8_offers_83 : decode cX8_offers 83 = .ok (.goto 16, 3) := by decide +kernel
theorem dX8_offers_86 : decode cX8_offers 86 = .ok (.aload_n 0, 1) := by decide +kernel
theorem dX8_offers_87 : decode cX8_offers 87 = .ok (.getfield 68, 3) := by decide +kernel
theorem dX8_offers_90 : decode cX8_offers 90 = .ok (.iload_n 3, 1) := by decide +kernel
theorem dX8_offers_91 : decode cX8_offers 91 = .ok (.iaload, 1) := by decide +kernel
theorem dX8_offers_92 : decode cX8_offers 92 = .ok (.aload_n 0, 1) := by decide +kernel
theorem dX8_offers_93 : decode cX8_offers 93 = .ok (.getfield 65, 3) := by decide +kernel
theorem dX8_offers_96 : decode cX8_offers 96 = .ok (.iload_n 3, 1) := by decide +kernel
theorem dX8_offers_97 : decode cX8_offers 97 = .ok (.iaload, 1) := by decide +kernel
theorem dX8_offers_98 : decode cX8_offers 98 = .ok (.isub, 1) := by decide +kernel
theorem dX8_offers_99 : decode cX8_offers 99 = .ok (.istore 5, 2) := by decide +kernel
theorem dX8_offers_101 : decode cX8_offers 101 = .ok (.iconst 0, 1) := by decide +kernel
theorem dX8_offers_102 : decode cX8_offers 102 = .ok (.istore 6, 2) := by decide +kernel
theorem dX8_offers_104 : decode cX8_offers 104 = .ok (.iload 6, 2) := by decide +kernel
theorem dX8_offers_106 : decode cX8_offers 106 = .ok (.iload 5, 2) := by decide +kernel
theorem dX8_offers_108 : decode cX8_offers 108 = .ok (.if_icmp .ge 88, 3) := by decide +kernel
theorem dX8_offers_111 : decode cX8_offers 111 = .ok (.iload 4, 2) := by decide +kernel
theorem dX8_offers_113 : decode cX8_offers 113 = .ok (.ifCond .lt 19, 3) := by decide +kernel
theorem dX8_offers_116 : decode cX8_offers 116 = .ok (.aload_n 0, 1) := by decide +kernel
theorem dX8_offers_117 : decode cX8_offers 117 = .ok (.getfield 71, 3) := by decide +kernel
theorem dX8_offers_120 : decode cX8_offers 120 = .ok (.bipush 12, 2) := by decide +kernel
theorem dX8_offers_122 : decode cX8_offers 122 = .ok (.iload 4, 2) := by decide +kernel
theorem dX8_offers_124 : decode cX8_offers 124 = .ok (.imul, 1) := by decide +kernel
theorem dX8_offers_125 : decode cX8_offers 125 = .ok (.iload 6, 2) := by decide +kernel
theorem dX8_offers_127 : decode cX8_offers 127 = .ok (.iadd, 1) := by decide +kernel
theorem dX8_offers_128 : decode cX8_offers 128 = .ok (.baload, 1) := by decide +kernel
theorem dX8_offers_129 : decode cX8_offers 129 = .ok (.goto 25, 3) := by decide +kernel
theorem dX8_offers_132 : decode cX8_offers 132 = .ok (.aload_n 0, 1) := by decide +kernel
theorem dX8_offers_133 : decode cX8_offers 133 = .ok (.getfield 62, 3) := by decide +kernel
theorem dX8_offers_136 : decode cX8_offers 136 = .ok (.bipush 24, 2) := by decide +kernel
theorem dX8_offers_138 : decode cX8_offers 138 = .ok (.iload_n 1, 1) := by decide +kernel
theorem dX8_offers_139 : decode cX8_offers 139 = .ok (.imul, 1) := by decide +kernel
theorem dX8_offers_140 : decode cX8_offers 140 = .ok (.aload_n 0, 1) := by decide +kernel
theorem dX8_offers_141 : decode cX8_offers 141 = .ok (.getfield 65, 3) := by decide +kernel
theorem dX8_offers_144 : decode cX8_offers 144 = .ok (.iload_n 3, 1) := by decide +kernel
theorem dX8_offers_145 : decode cX8_offers 145 = .ok (.iaload, 1) := by decide +kernel
theorem dX8_offers_146 : decode cX8_offers 146 = .ok (.iadd, 1) := by decide +kernel
theorem dX8_offers_147 : decode cX8_offers 147 = .ok (.iload 6, 2) := by decide +kernel
theorem dX8_offers_149 : decode cX8_offers 149 = .ok (.iadd, 1) := by decide +kernel
theorem dX8_offers_150 : decode cX8_offers 150 = .ok (.baload, 1) := by decide +kernel
theorem dX8_offers_151 : decode cX8_offers 151 = .ok (.invokestatic 178, 3) := by decide +kernel
theorem dX8_offers_154 : decode cX8_offers 154 = .ok (.istore 7, 2) := by decide +kernel
theorem dX8_offers_156 : decode cX8_offers 156 = .ok (.aload_n 0, 1) := by decide +kernel
theorem dX8_offers_157 : decode cX8_offers 157 = .ok (.iload 7, 2) := by decide +kernel
theorem dX8_offers_159 : decode cX8_offers 159 = .ok (.iload_n 2, 1) := by decide +kernel
theorem dX8_offers_160 : decode cX8_offers 160 = .ok (.iconst 3, 1) := by decide +kernel
theorem dX8_offers_161 : decode cX8_offers 161 = .ok (.if_icmp .eq 21, 3) := by decide +kernel
theorem dX8_offers_164 : decode cX8_offers 164 = .ok (.iload 6, 2) := by decide +kernel
theorem dX8_offers_166 : decode cX8_offers 166 = .ok (.ifCond .ne 20, 3) := by decide +kernel
theorem dX8_offers_169 : decode cX8_offers 169 = .ok (.iload_n 2, 1) := by decide +kernel
theorem dX8_offers_170 : decode cX8_offers 170 = .ok (.iconst 1, 1) := by decide +kernel
theorem dX8_offers_171 : decode cX8_offers 171 = .ok (.if_icmp .eq 11, 3) := by decide +kernel
theorem dX8_offers_174 : decode cX8_offers 174 = .ok (.iload_n 2, 1) := by decide +kernel
theorem dX8_offers_175 : decode cX8_offers 175 = .ok (.ifCond .ne 11, 3) := by decide +kernel
theorem dX8_offers_178 : decode cX8_offers 178 = .ok (.iload_n 3, 1) := by decide +kernel
theorem dX8_offers_179 : decode cX8_offers 179 = .ok (.ifCond .le 7, 3) := by decide +kernel
theorem dX8_offers_182 : decode cX8_offers 182 = .ok (.iconst 1, 1) := by decide +kernel
theorem dX8_offers_183 : decode cX8_offers 183 = .ok (.goto 4, 3) := by decide +kernel
theorem dX8_offers_186 : decode cX8_offers 186 = .ok (.iconst 0, 1) := by decide +kernel
theorem dX8_offers_187 : decode cX8_offers 187 = .ok (.invokevirtual 213, 3) := by decide +kernel
theorem dX8_offers_190 : decode cX8_offers 190 = .ok (.iinc 6 1, 3) := by decide +kernel
theorem dX8_offers_193 : decode cX8_offers 193 = .ok (.goto (-89), 3) := by decide +kernel
theorem dX8_offers_196 : decode cX8_offers 196 = .ok (.iinc 3 1, 3) := by decide +kernel
theorem dX8_offers_199 : decode cX8_offers 199 = .ok (.goto (-177), 3) := by decide +kernel
theorem dX8_offers_202 : decode cX8_offers 202 = .ok (.aload_n 0, 1) := by decide +kernel
theorem dX8_offers_203 : decode cX8_offers 203 = .ok (.getfield 92, 3) := by decide +kernel
theorem dX8_offers_206 : decode cX8_offers 206 = .ok (.iconst 0, 1) := by decide +kernel
theorem dX8_offers_207 : decode cX8_offers 207 = .ok (.aload_n 0, 1) := by decide +kernel
theorem dX8_offers_208 : decode cX8_offers 208 = .ok (.getfield 210, 3) := by decide +kernel
theorem dX8_offers_211 : decode cX8_offers 211 = .ok (.invokestatic 143, 3) := by decide +kernel
theorem dX8_offers_214 : decode cX8_offers 214 = .ok (.ifCond .eq 36, 3) := by decide +kernel
theorem dX8_offers_217 : decode cX8_offers 217 = .ok (.aload_n 0, 1) := by decide +kernel
theorem dX8_offers_218 : decode cX8_offers 218 = .ok (.getfield 92, 3) := by decide +kernel
theorem dX8_offers_221 : decode cX8_offers 221 = .ok (.iconst 0, 1) := by decide +kernel
theorem dX8_offers_222 : decode cX8_offers 222 = .ok (.aload_n 0, 1) := by decide +kernel
theorem dX8_offers_223 : decode cX8_offers 223 = .ok (.getfield 210, 3) := by decide +kernel
theorem dX8_offers_226 : decode cX8_offers 226 = .ok (.aload_n 0, 1) := by decide +kernel
theorem dX8_offers_227 : decode cX8_offers 227 = .ok (.getfield 62, 3) := by decide +kernel
theorem dX8_offers_230 : decode cX8_offers 230 = .ok (.bipush 24, 2) := by decide +kernel
theorem dX8_offers_232 : decode cX8_offers 232 = .ok (.iload_n 1, 1) := by decide +kernel
theorem dX8_offers_233 : decode cX8_offers 233 = .ok (.imul, 1) := by decide +kernel
theorem dX8_offers_234 : decode cX8_offers 234 = .ok (.aload_n 0, 1) := by decide +kernel
theorem dX8_offers_235 : decode cX8_offers 235 = .ok (.getfield 53, 3) := by decide +kernel
theorem dX8_offers_238 : decode cX8_offers 238 = .ok (.iload_n 1, 1) := by decide +kernel
theorem dX8_offers_239 : decode cX8_offers 239 = .ok (.iaload, 1) := by decide +kernel
theorem dX8_offers_240 : decode cX8_offers 240 = .ok (.invokestatic 133, 3) := by decide +kernel
theorem dX8_offers_243 : decode cX8_offers 243 = .ok (.ifCond .ne 7, 3) := by decide +kernel
theorem dX8_offers_246 : decode cX8_offers 246 = .ok (.iconst 1, 1) := by decide +kernel
theorem dX8_offers_247 : decode cX8_offers 247 = .ok (.goto 4, 3) := by decide +kernel
theorem dX8_offers_250 : decode cX8_offers 250 = .ok (.iconst 0, 1) := by decide +kernel
theorem dX8_offers_251 : decode cX8_offers 251 = .ok (.ireturn, 1) := by decide +kernel
theorem dX8_offer_0 : decode cX8_offer 0 = .ok (.aload_n 0, 1) := by decide +kernel
theorem dX8_offer_1 : decode cX8_offer 1 = .ok (.iconst 0, 1) := by decide +kernel
theorem dX8_offer_2 : decode cX8_offer 2 = .ok (.putfield 1, 3) := by decide +kernel
theorem dX8_offer_5 : decode cX8_offer 5 = .ok (.aload_n 0, 1) := by decide +kernel
theorem dX8_offer_6 : decode cX8_offer 6 = .ok (.iload_n 1, 1) := by decide +kernel
theorem dX8_offer_7 : decode cX8_offer 7 = .ok (.invokevirtual 159, 3) := by decide +kernel
theorem dX8_offer_10 : decode cX8_offer 10 = .ok (.ifCond .ne 9, 3) := by decide +kernel
theorem dX8_offer_13 : decode cX8_offer 13 = .ok (.aload_n 0, 1) := by decide +kernel
theorem dX8_offer_14 : decode cX8_offer 14 = .ok (.iconst 1, 1) := by decide +kernel
theorem dX8_offer_15 : decode cX8_offer 15 = .ok (.invokevirtual 126, 3) := by decide +kernel
theorem dX8_offer_18 : decode cX8_offer 18 = .ok (.ireturn, 1) := by decide +kernel
theorem dX8_offer_19 : decode cX8_offer 19 = .ok (.aload_n 0, 1) := by decide +kernel
theorem dX8_offer_20 : decode cX8_offer 20 = .ok (.iload_n 1, 1) := by decide +kernel
theorem dX8_offer_21 : decode cX8_offer 21 = .ok (.invokevirtual 217, 3) := by decide +kernel
theorem dX8_offer_24 : decode cX8_offer 24 = .ok (.ifCond .ne 10, 3) := by decide +kernel
theorem dX8_offer_27 : decode cX8_offer 27 = .ok (.aload_n 0, 1) := by decide +kernel
theorem dX8_offer_28 : decode cX8_offer 28 = .ok (.bipush (-2), 2) := by decide +kernel
theorem dX8_offer_30 : decode cX8_offer 30 = .ok (.invokevirtual 130, 3) := by decide +kernel
theorem dX8_offer_33 : decode cX8_offer 33 = .ok (.ireturn, 1) := by decide +kernel
theorem dX8_offer_34 : decode cX8_offer 34 = .ok (.aload_n 0, 1) := by decide +kernel
theorem dX8_offer_35 : decode cX8_offer 35 = .ok (.aload_n 0, 1) := by decide +kernel
theorem dX8_offer_36 : decode cX8_offer 36 = .ok (.getfield 210, 3) := by decide +kernel
theorem dX8_offer_39 : decode cX8_offer 39 = .ok (.putfield 220, 3) := by decide +kernel
theorem dX8_offer_42 : decode cX8_offer 42 = .ok (.iconst 0, 1) := by decide +kernel
theorem dX8_offer_43 : decode cX8_offer 43 = .ok (.istore_n 2, 1) := by decide +kernel
theorem dX8_offer_44 : decode cX8_offer 44 = .ok (.iload_n 2, 1) := by decide +kernel
theorem dX8_offer_45 : decode cX8_offer 45 = .ok (.aload_n 0, 1) := by decide +kernel
theorem dX8_offer_46 : decode cX8_offer 46 = .ok (.getfield 220, 3) := by decide +kernel
theorem dX8_offer_49 : decode cX8_offer 49 = .ok (.if_icmp .ge 21, 3) := by decide +kernel
theorem dX8_offer_52 : decode cX8_offer 52 = .ok (.aload_n 0, 1) := by decide +kernel
theorem dX8_offer_53 : decode cX8_offer 53 = .ok (.getfield 89, 3) := by decide +kernel
theorem dX8_offer_56 : decode cX8_offer 56 = .ok (.iload_n 2, 1) := by decide +kernel
theorem dX8_offer_57 : decode cX8_offer 57 = .ok (.aload_n 0, 1) := by decide +kernel
theorem dX8_offer_58 : decode cX8_offer 58 = .ok (.getfield 92, 3) := by decide +kernel
theorem dX8_offer_61 : decode cX8_offer 61 = .ok (.iload_n 2, 1) := by decide +kernel
theorem dX8_offer_62 : decode cX8_offer 62 = .ok (.baload, 1) := by decide +kernel
theorem dX8_offer_63 : decode cX8_offer 63 = .ok (.bastore, 1) := by decide +kernel
theorem dX8_offer_64 : decode cX8_offer 64 = .ok (.iinc 2 1, 3) := by decide +kernel
theorem dX8_offer_67 : decode cX8_offer 67 = .ok (.goto (-23), 3) := by decide +kernel
theorem dX8_offer_70 : decode cX8_offer 70 = .ok (.aload_n 0, 1) := by decide +kernel
theorem dX8_offer_71 : decode cX8_offer 71 = .ok (.aload_n 0, 1) := by decide +kernel
theorem dX8_offer_72 : decode cX8_offer 72 = .ok (.getfield 220, 3) := by decide +kernel
theorem dX8_offer_75 : decode cX8_offer 75 = .ok (.invokevirtual 130, 3) := by decide +kernel
theorem dX8_offer_78 : decode cX8_offer 78 = .ok (.ireturn, 1) := by decide +kernel
theorem dX8_out_0 : decode cX8_out 0 = .ok (.aload_n 0, 1) := by decide +kernel
theorem dX8_out_1 : decode cX8_out 1 = .ok (.iload_n 1, 1) := by decide +kernel
theorem dX8_out_2 : decode cX8_out 2 = .ok (.ifCond .lt 11, 3) := by decide +kernel
theorem dX8_out_5 : decode cX8_out 5 = .ok (.iload_n 1, 1) := by decide +kernel
theorem dX8_out_6 : decode cX8_out 6 = .ok (.aload_n 0, 1) := by decide +kernel
theorem dX8_out_7 : decode cX8_out 7 = .ok (.getfield 220, 3) := by decide +kernel
theorem dX8_out_10 : decode cX8_out 10 = .ok (.if_icmp .lt 7, 3) := by decide +kernel
theorem dX8_out_13 : decode cX8_out 13 = .ok (.iconst 1, 1) := by decide +kernel
theorem dX8_out_14 : decode cX8_out 14 = .ok (.goto 4, 3) := by decide +kernel
theorem dX8_out_17 : decode cX8_out 17 = .ok (.iconst 0, 1) := by decide +kernel
theorem dX8_out_18 : decode cX8_out 18 = .ok (.putfield 1, 3) := by decide +kernel
theorem dX8_out_21 : decode cX8_out 21 = .ok (.aload_n 0, 1) := by decide +kernel
theorem dX8_out_22 : decode cX8_out 22 = .ok (.getfield 1, 3) := by decide +kernel
theorem dX8_out_25 : decode cX8_out 25 = .ok (.ifCond .le 7, 3) := by decide +kernel
theorem dX8_out_28 : decode cX8_out 28 = .ok (.iconst 0, 1) := by decide +kernel
theorem dX8_out_29 : decode cX8_out 29 = .ok (.goto 9, 3) := by decide +kernel
theorem dX8_out_32 : decode cX8_out 32 = .ok (.aload_n 0, 1) := by decide +kernel
theorem dX8_out_33 : decode cX8_out 33 = .ok (.getfield 89, 3) := by decide +kernel
theorem dX8_out_36 : decode cX8_out 36 = .ok (.iload_n 1, 1) := by decide +kernel
theorem dX8_out_37 : decode cX8_out 37 = .ok (.baload, 1) := by decide +kernel
theorem dX8_out_38 : decode cX8_out 38 = .ok (.ireturn, 1) := by decide +kernel
theorem dX8_renameMany_0 : decode cX8_renameMany 0 = .ok (.iconst 0, 1) := by decide +kernel
theorem dX8_renameMany_1 : decode cX8_renameMany 1 = .ok (.istore_n 1, 1) := by decide +kernel
theorem dX8_renameMany_2 : decode cX8_renameMany 2 = .ok (.iconst 0, 1) := by decide +kernel
theorem dX8_renameMany_3 : decode cX8_renameMany 3 = .ok (.istore_n 2, 1) := by decide +kernel
theorem dX8_renameMany_4 : decode cX8_renameMany 4 = .ok (.iload_n 2, 1) := by decide +kernel
theorem dX8_renameMany_5 : decode cX8_renameMany 5 = .ok (.aload_n 0, 1) := by decide +kernel
theorem dX8_renameMany_6 : decode cX8_renameMany 6 = .ok (.getfield 120, 3) := by decide +kernel
theorem dX8_renameMany_9 : decode cX8_renameMany 9 = .ok (.if_icmp .ge 26, 3) := by decide +kernel
theorem dX8_renameMany_12 : decode cX8_renameMany 12 = .ok (.iload_n 1, 1) := by decide +kernel
theorem dX8_renameMany_13 : decode cX8_renameMany 13 = .ok (.aload_n 0, 1) := by decide +kernel
theorem dX8_renameMany_14 : decode cX8_renameMany 14 = .ok (.getfield 95, 3) := by decide +kernel
theorem dX8_renameMany_17 : decode cX8_renameMany 17 = .ok (.iload_n 2, 1) := by decide +kernel
theorem dX8_renameMany_18 : decode cX8_renameMany 18 = .ok (.baload, 1) := by decide +kernel
theorem dX8_renameMany_19 : decode cX8_renameMany 19 = .ok (.ifCond .eq 7, 3) := by decide +kernel
theorem dX8_renameMany_22 : decode cX8_renameMany 22 = .ok (.iconst 1, 1) := by decide +kernel
theorem dX8_renameMany_23 : decode cX8_renameMany 23 = .ok (.goto 4, 3) := by decide +kernel
theorem dX8_renameMany_26 : decode cX8_renameMany 26 = .ok (.iconst 0, 1) := by decide +kernel
theorem dX8_renameMany_27 : decode cX8_renameMany 27 = .ok (.iadd, 1) := by decide +kernel
theorem dX8_renameMany_28 : decode cX8_renameMany 28 = .ok (.istore_n 1, 1) := by decide +kernel
theorem dX8_renameMany_29 : decode cX8_renameMany 29 = .ok (.iinc 2 1, 3) := by decide +kernel
theorem dX8_renameMany_32 : decode cX8_renameMany 32 = .ok (.goto (-28), 3) := by decide +kernel
theorem dX8_renameMany_35 : decode cX8_renameMany 35 = .ok (.iload_n 1, 1) := by decide +kernel
theorem dX8_renameMany_36 : decode cX8_renameMany 36 = .ok (.ireturn, 1) := by decide +kernel
theorem dX8_rename_0 : decode cX8_rename 0 = .ok (.aload_n 0, 1) := by decide +kernel
theorem dX8_rename_1 : decode cX8_rename 1 = .ok (.iconst 0, 1) := by decide +kernel
theorem dX8_rename_2 : decode cX8_rename 2 = .ok (.putfield 1, 3) := by decide +kernel
theorem dX8_rename_5 : decode cX8_rename 5 = .ok (.aload_n 0, 1) := by decide +kernel
theorem dX8_rename_6 : decode cX8_rename 6 = .ok (.iload_n 1, 1) := by decide +kernel
theorem dX8_rename_7 : decode cX8_rename 7 = .ok (.invokevirtual 159, 3) := by decide +kernel
theorem dX8_rename_10 : decode cX8_rename 10 = .ok (.ifCond .ne 9, 3) := by decide +kernel
theorem dX8_rename_13 : decode cX8_rename 13 = .ok (.aload_n 0, 1) := by decide +kernel
theorem dX8_rename_14 : decode cX8_rename 14 = .ok (.iconst 1, 1) := by decide +kernel
theorem dX8_rename_15 : decode cX8_rename 15 = .ok (.invokevirtual 126, 3) := by decide +kernel
theorem dX8_rename_18 : decode cX8_rename 18 = .ok (.ireturn, 1) := by decide +kernel
theorem dX8_rename_19 : decode cX8_rename 19 = .ok (.aload_n 0, 1) := by decide +kernel
theorem dX8_rename_20 : decode cX8_rename 20 = .ok (.iload_n 2, 1) := by decide +kernel
theorem dX8_rename_21 : decode cX8_rename 21 = .ok (.invokevirtual 140, 3) := by decide +kernel
theorem dX8_rename_24 : decode cX8_rename 24 = .ok (.ifCond .ne 9, 3) := by decide +kernel
theorem dX8_rename_27 : decode cX8_rename 27 = .ok (.aload_n 0, 1) := by decide +kernel
theorem dX8_rename_28 : decode cX8_rename 28 = .ok (.iconst 2, 1) := by decide +kernel
theorem dX8_rename_29 : decode cX8_rename 29 = .ok (.invokevirtual 126, 3) := by decide +kernel
theorem dX8_rename_32 : decode cX8_rename 32 = .ok (.ireturn, 1) := by decide +kernel
theorem dX8_rename_33 : decode cX8_rename 33 = .ok (.aload_n 0, 1) := by decide +kernel
theorem dX8_rename_34 : decode cX8_rename 34 = .ok (.iconst 0, 1) := by decide +kernel
theorem dX8_rename_35 : decode cX8_rename 35 = .ok (.putfield 10, 3) := by decide +kernel
theorem dX8_rename_38 : decode cX8_rename 38 = .ok (.aload_n 0, 1) := by decide +kernel
theorem dX8_rename_39 : decode cX8_rename 39 = .ok (.getfield 13, 3) := by decide +kernel
theorem dX8_rename_42 : decode cX8_rename 42 = .ok (.iconst 0, 1) := by decide +kernel
theorem dX8_rename_43 : decode cX8_rename 43 = .ok (.iload_n 2, 1) := by decide +kernel
theorem dX8_rename_44 : decode cX8_rename 44 = .ok (.invokestatic 143, 3) := by decide +kernel
theorem dX8_rename_47 : decode cX8_rename 47 = .ok (.ifCond .ne 9, 3) := by decide +kernel
theorem dX8_rename_50 : decode cX8_rename 50 = .ok (.aload_n 0, 1) := by decide +kernel
theorem dX8_rename_51 : decode cX8_rename 51 = .ok (.iconst 2, 1) := by decide +kernel
theorem dX8_rename_52 : decode cX8_rename 52 = .ok (.invokevirtual 126, 3) := by decide +kernel
theorem dX8_rename_55 : decode cX8_rename 55 = .ok (.ireturn, 1) := by decide +kernel
theorem dX8_rename_56 : decode cX8_rename 56 = .ok (.aload_n 0, 1) := by decide +kernel
theorem dX8_rename_57 : decode cX8_rename 57 = .ok (.getfield 95, 3) := by decide +kernel
theorem dX8_rename_60 : decode cX8_rename 60 = .ok (.iload_n 1, 1) := by decide +kernel
theorem dX8_rename_61 : decode cX8_rename 61 = .ok (.iconst 1, 1) := by decide +kernel
theorem dX8_rename_62 : decode cX8_rename 62 = .ok (.bastore, 1) := by decide +kernel
theorem dX8_rename_63 : decode cX8_rename 63 = .ok (.aload_n 0, 1) := by decide +kernel
theorem dX8_rename_64 : decode cX8_rename 64 = .ok (.getfield 111, 3) := by decide +kernel
theorem dX8_rename_67 : decode cX8_rename 67 = .ok (.iload_n 1, 1) := by decide +kernel
theorem dX8_rename_68 : decode cX8_rename 68 = .ok (.iload_n 2, 1) := by decide +kernel
theorem dX8_rename_69 : decode cX8_rename 69 = .ok (.iastore, 1) := by decide +kernel
theorem dX8_rename_70 : decode cX8_rename 70 = .ok (.iconst 0, 1) := by decide +kernel
theorem dX8_rename_71 : decode cX8_rename 71 = .ok (.istore_n 3, 1) := by decide +kernel
theorem dX8_rename_72 : decode cX8_rename 72 = .ok (.iload_n 3, 1) := by decide +kernel
theorem dX8_rename_73 : decode cX8_rename 73 = .ok (.iload_n 2, 1) := by decide +kernel
theorem dX8_rename_74 : decode cX8_rename 74 = .ok (.if_icmp .ge 26, 3) := by decide +kernel
theorem dX8_rename_77 : decode cX8_rename 77 = .ok (.aload_n 0, 1) := by decide +kernel
theorem dX8_rename_78 : decode cX8_rename 78 = .ok (.getfield 102, 3) := by decide +kernel
theorem dX8_rename_81 : decode cX8_rename 81 = .ok (.bipush 24, 2) := by decide +kernel
theorem dX8_rename_83 : decode cX8_rename 83 = .ok (.iload_n 1, 1) := by decide +kernel
theorem dX8_rename_84 : decode cX8_rename 84 = .ok (.imul, 1) := by decide +kernel
theorem dX8_rename_85 : decode cX8_rename 85 = .ok (.iload_n 3, 1) := by decide +kernel
theorem dX8_rename_86 : decode cX8_rename 86 = .ok (.iadd, 1) := by decide +kernel
theorem dX8_rename_87 : decode cX8_rename 87 = .ok (.aload_n 0, 1) := by decide +kernel
theorem dX8_rename_88 : decode cX8_rename 88 = .ok (.getfield 13, 3) := by decide +kernel
theorem dX8_rename_91 : decode cX8_rename 91 = .ok (.iload_n 3, 1) := by decide +kernel
theorem dX8_rename_92 : decode cX8_rename 92 = .ok (.baload, 1) := by decide +kernel
theorem dX8_rename_93 : decode cX8_rename 93 = .ok (.bastore, 1) := by decide +kernel
theorem dX8_rename_94 : decode cX8_rename 94 = .ok (.iinc 3 1, 3) := by decide +kernel
theorem dX8_rename_97 : decode cX8_rename 97 = .ok (.goto (-25), 3) := by decide +kernel
theorem dX8_rename_100 : decode cX8_rename 100 = .ok (.aload_n 0, 1) := by decide +kernel
theorem dX8_rename_101 : decode cX8_rename 101 = .ok (.aload_n 0, 1) := by decide +kernel
theorem dX8_rename_102 : decode cX8_rename 102 = .ok (.invokevirtual 223, 3) := by decide +kernel
theorem dX8_rename_105 : decode cX8_rename 105 = .ok (.invokevirtual 130, 3) := by decide +kernel
theorem dX8_rename_108 : decode cX8_rename 108 = .ok (.ireturn, 1) := by decide +kernel
theorem dX8_renames_0 : decode cX8_renames 0 = .ok (.aload_n 0, 1) := by decide +kernel
theorem dX8_renames_1 : decode cX8_renames 1 = .ok (.iconst 0, 1) := by decide +kernel
theorem dX8_renames_2 : decode cX8_renames 2 = .ok (.putfield 1, 3) := by decide +kernel
theorem dX8_renames_5 : decode cX8_renames 5 = .ok (.iconst 0, 1) := by decide +kernel
theorem dX8_renames_6 : decode cX8_renames 6 = .ok (.istore_n 1, 1) := by decide +kernel
theorem dX8_renames_7 : decode cX8_renames 7 = .ok (.iload_n 1, 1) := by decide +kernel
theorem dX8_renames_8 : decode cX8_renames 8 = .ok (.aload_n 0, 1) := by decide +kernel
theorem dX8_renames_9 : decode cX8_renames 9 = .ok (.getfield 120, 3) := by decide +kernel
theorem dX8_renames_12 : decode cX8_renames 12 = .ok (.if_icmp .ge 75, 3) := by decide +kernel
theorem dX8_renames_15 : decode cX8_renames 15 = .ok (.aload_n 0, 1) := by decide +kernel
theorem dX8_renames_16 : decode cX8_renames 16 = .ok (.getfield 95, 3) := by decide +kernel
theorem dX8_renames_19 : decode cX8_renames 19 = .ok (.iload_n 1, 1) := by decide +kernel
theorem dX8_renames_20 : decode cX8_renames 20 = .ok (.aload_n 0, 1) := by decide +kernel
theorem dX8_renames_21 : decode cX8_renames 21 = .ok (.iload_n 1, 1) := by decide +kernel
theorem dX8_renames_22 : decode cX8_renames 22 = .ok (.invokevirtual 217, 3) := by decide +kernel
theorem dX8_renames_25 : decode cX8_renames 25 = .ok (.bastore, 1) := by decide +kernel
theorem dX8_renames_26 : decode cX8_renames 26 = .ok (.aload_n 0, 1) := by decide +kernel
theorem dX8_renames_27 : decode cX8_renames 27 = .ok (.getfield 95, 3) := by decide +kernel
theorem dX8_renames_30 : decode cX8_renames 30 = .ok (.iload_n 1, 1) := by decide +kernel
theorem dX8_renames_31 : decode cX8_renames 31 = .ok (.baload, 1) := by decide +kernel
theorem dX8_renames_32 : decode cX8_renames 32 = .ok (.ifCond .ne 6, 3) := by decide +kernel
theorem dX8_renames_35 : decode cX8_renames 35 = .ok (.goto 46, 3) := by decide +kernel
theorem dX8_renames_38 : decode cX8_renames 38 = .ok (.aload_n 0, 1) := by decide +kernel
theorem dX8_renames_39 : decode cX8_renames 39 = .ok (.getfield 111, 3) := by decide +kernel
theorem dX8_renames_42 : decode cX8_renames 42 = .ok (.iload_n 1, 1) := by decide +kernel
theorem dX8_renames_43 : decode cX8_renames 43 = .ok (.aload_n 0, 1) := by decide +kernel
theorem dX8_renames_44 : decode cX8_renames 44 = .ok (.getfield 210, 3) := by decide +kernel
theorem dX8_renames_47 : decode cX8_renames 47 = .ok (.iastore, 1) := by decide +kernel
theorem dX8_renames_48 : decode cX8_renames 48 = .ok (.iconst 0, 1) := by decide +kernel
theorem dX8_renames_49 : decode cX8_renames 49 = .ok (.istore_n 2, 1) := by decide +kernel
theorem dX8_renames_50 : decode cX8_renames 50 = .ok (.iload_n 2, 1) := by decide +kernel
theorem dX8_renames_51 : decode cX8_renames 51 = .ok (.aload_n 0, 1) := by decide +kernel
theorem dX8_renames_52 : decode cX8_renames 52 = .ok (.getfield 210, 3) := by decide +kernel
theorem dX8_renames_55 : decode cX8_renames 55 = .ok (.if_icmp .ge 26, 3) := by decide +kernel
theorem dX8_renames_58 : decode cX8_renames 58 = .ok (.aload_n 0, 1) := by decide +kernel
theorem dX8_renames_59 : decode cX8_renames 59 = .ok (.getfield 102, 3) := by decide +kernel
theorem dX8_renames_62 : decode cX8_renames 62 = .ok (.bipush 24, 2) := by decide +kernel
theorem dX8_renames_64 : decode cX8_renames 64 = .ok (.iload_n 1, 1) := by decide +kernel
theorem dX8_renames_65 : decode cX8_renames 65 = .ok (.imul, 1) := by decide +kernel
theorem dX8_renames_66 : decode cX8_renames 66 = .ok (.iload_n 2, 1) := by decide +kernel
theorem dX8_renames_67 : decode cX8_renames 67 = .ok (.iadd, 1) := by decide +kernel
theorem dX8_renames_68 : decode cX8_renames 68 = .ok (.aload_n 0, 1) := by decide +kernel
theorem dX8_renames_69 : decode cX8_renames 69 = .ok (.getfield 92, 3) := by decide +kernel
theorem dX8_renames_72 : decode cX8_renames 72 = .ok (.iload_n 2, 1) := by decide +kernel
theorem dX8_renames_73 : decode cX8_renames 73 = .ok (.baload, 1) := by decide +kernel
theorem dX8_renames_74 : decode cX8_renames 74 = .ok (.bastore, 1) := by decide +kernel
theorem dX8_renames_75 : decode cX8_renames 75 = .ok (.iinc 2 1, 3) := by decide +kernel
theorem dX8_renames_78 : decode cX8_renames 78 = .ok (.goto (-28), 3) := by decide +kernel
theorem dX8_renames_81 : decode cX8_renames 81 = .ok (.iinc 1 1, 3) := by decide +kernel
theorem dX8_renames_84 : decode cX8_renames 84 = .ok (.goto (-77), 3) := by decide +kernel
theorem dX8_renames_87 : decode cX8_renames 87 = .ok (.aload_n 0, 1) := by decide +kernel
theorem dX8_renames_88 : decode cX8_renames 88 = .ok (.invokevirtual 223, 3) := by decide +kernel
theorem dX8_renames_91 : decode cX8_renames 91 = .ok (.ireturn, 1) := by decide +kernel
theorem dX8_none_0 : decode cX8_none 0 = .ok (.aload_n 0, 1) := by decide +kernel
theorem dX8_none_1 : decode cX8_none 1 = .ok (.iconst 0, 1) := by decide +kernel
theorem dX8_none_2 : decode cX8_none 2 = .ok (.putfield 1, 3) := by decide +kernel
theorem dX8_none_5 : decode cX8_none 5 = .ok (.aload_n 0, 1) := by decide +kernel
theorem dX8_none_6 : decode cX8_none 6 = .ok (.invokevirtual 223, 3) := by decide +kernel
theorem dX8_none_9 : decode cX8_none 9 = .ok (.istore_n 1, 1) := by decide +kernel
theorem dX8_none_10 : decode cX8_none 10 = .ok (.iconst 0, 1) := by decide +kernel
theorem dX8_none_11 : decode cX8_none 11 = .ok (.istore_n 2, 1) := by decide +kernel
theorem dX8_none_12 : decode cX8_none 12 = .ok (.iload_n 2, 1) := by decide +kernel
theorem dX8_none_13 : decode cX8_none 13 = .ok (.aload_n 0, 1) := by decide +kernel
theorem dX8_none_14 : decode cX8_none 14 = .ok (.getfield 120, 3) := by decide +kernel
theorem dX8_none_17 : decode cX8_none 17 = .ok (.if_icmp .ge 16, 3) := by decide +kernel
theorem dX8_none_20 : decode cX8_none 20 = .ok (.aload_n 0, 1) := by decide +kernel
theorem dX8_none_21 : decode cX8_none 21 = .ok (.getfield 95, 3) := by decide +kernel
theorem dX8_none_24 : decode cX8_none 24 = .ok (.iload_n 2, 1) := by decide +kernel
theorem dX8_none_25 : decode cX8_none 25 = .ok (.iconst 0, 1) := by decide +kernel
theorem dX8_none_26 : decode cX8_none 26 = .ok (.bastore, 1) := by decide +kernel
theorem dX8_none_27 : decode cX8_none 27 = .ok (.iinc 2 1, 3) := by decide +kernel
theorem dX8_none_30 : decode cX8_none 30 = .ok (.goto (-18), 3) := by decide +kernel
theorem dX8_none_33 : decode cX8_none 33 = .ok (.iload_n 1, 1) := by decide +kernel
theorem dX8_none_34 : decode cX8_none 34 = .ok (.ireturn, 1) := by decide +kernel
theorem dX8_hindersTaken_0 : decode cX8_hindersTaken 0 = .ok (.iconst 0, 1) := by decide +kernel
theorem dX8_hindersTaken_1 : decode cX8_hindersTaken 1 = .ok (.istore_n 1, 1) := by decide +kernel
theorem dX8_hindersTaken_2 : decode cX8_hindersTaken 2 = .ok (.iload_n 1, 1) := by decide +kernel
theorem dX8_hindersTaken_3 : decode cX8_hindersTaken 3 = .ok (.aload_n 0, 1) := by decide +kernel
theorem dX8_hindersTaken_4 : decode cX8_hindersTaken 4 = .ok (.getfield 120, 3) := by decide +kernel
theorem dX8_hindersTaken_7 : decode cX8_hindersTaken 7 = .ok (.if_icmp .ge 116, 3) := by decide +kernel
theorem dX8_hindersTaken_10 : decode cX8_hindersTaken 10 = .ok (.aload_n 0, 1) := by decide +kernel
theorem dX8_hindersTaken_11 : decode cX8_hindersTaken 11 = .ok (.getfield 95, 3) := by decide +kernel
theorem dX8_hindersTaken_14 : decode cX8_hindersTaken 14 = .ok (.iload_n 1, 1) := by decide +kernel
theorem dX8_hindersTaken_15 : decode cX8_hindersTaken 15 = .ok (.baload, 1) := by decide +kernel
theorem dX8_hindersTaken_16 : decode cX8_hindersTaken 16 = .ok (.ifCond .eq 16, 3) := by decide +kernel
theorem dX8_hindersTaken_19 : decode cX8_hindersTaken 19 = .ok (.aload_n 0, 1) := by decide +kernel
theorem dX8_hindersTaken_20 : decode cX8_hindersTaken 20 = .ok (.getfield 99, 3) := by decide +kernel
theorem dX8_hindersTaken_23 : decode cX8_hindersTaken 23 = .ok (.iload_n 1, 1) := by decide +kernel
theorem dX8_hindersTaken_24 : decode cX8_hindersTaken 24 = .ok (.baload, 1) := by decide +kernel
theorem dX8_hindersTaken_25 : decode cX8_hindersTaken 25 = .ok (.ifCond .eq 7, 3) := by decide +kernel
theorem dX8_hindersTaken_28 : decode cX8_hindersTaken 28 = .ok (.iconst 1, 1) := by decide +kernel
theorem dX8_hindersTaken_29 : decode cX8_hindersTaken 29 = .ok (.goto 4, 3) := by decide +kernel
theorem dX8_hindersTaken_32 : decode cX8_hindersTaken 32 = .ok (.iconst 0, 1) := by decide +kernel
theorem dX8_hindersTaken_33 : decode cX8_hindersTaken 33 = .ok (.istore_n 2, 1) := by decide +kernel
theorem dX8_hindersTaken_34 : decode cX8_hindersTaken 34 = .ok (.aload_n 0, 1) := by decide +kernel
theorem dX8_hindersTaken_35 : decode cX8_hindersTaken 35 = .ok (.getfield 114, 3) := by decide +kernel
theorem dX8_hindersTaken_38 : decode cX8_hindersTaken 38 = .ok (.iload_n 1, 1) := by decide +kernel
theorem dX8_hindersTaken_39 : decode cX8_hindersTaken 39 = .ok (.iload_n 2, 1) := by decide +kernel
theorem dX8_hindersTaken_40 : decode cX8_hindersTaken 40 = .ok (.ifCond .eq 12, 3) := by decide +kernel
theorem dX8_hindersTaken_43 : decode cX8_hindersTaken 43 = .ok (.aload_n 0, 1) := by decide +kernel
theorem dX8_hindersTaken_44 : decode cX8_hindersTaken 44 = .ok (.getfield 111, 3) := by decide +kernel
theorem dX8_hindersTaken_47 : decode cX8_hindersTaken 47 = .ok (.iload_n 1, 1) := by decide +kernel
theorem dX8_hindersTaken_48 : decode cX8_hindersTaken 48 = .ok (.iaload, 1) := by decide +kernel
theorem dX8_hindersTaken_49 : decode cX8_hindersTaken 49 = .ok (.goto 9, 3) := by decide +kernel
theorem dX8_hindersTaken_52 : decode cX8_hindersTaken 52 = .ok (.aload_n 0, 1) := by decide +kernel
theorem dX8_hindersTaken_53 : decode cX8_hindersTaken 53 = .ok (.getfield 53, 3) := by decide +kernel
theorem dX8_hindersTaken_56 : decode cX8_hindersTaken 56 = .ok (.iload_n 1, 1) := by decide +kernel
theorem dX8_hindersTaken_57 : decode cX8_hindersTaken 57 = .ok (.iaload, 1) := by decide +kernel
theorem dX8_hindersTaken_58 : decode cX8_hindersTaken 58 = .ok (.iastore, 1) := by decide +kernel
theorem dX8_hindersTaken_59 : decode cX8_hindersTaken 59 = .ok (.iconst 0, 1) := by decide +kernel
theorem dX8_hindersTaken_60 : decode cX8_hindersTaken 60 = .ok (.istore_n 3, 1) := by decide +kernel
theorem dX8_hindersTaken_61 : decode cX8_hindersTaken 61 = .ok (.iload_n 3, 1) := by decide +kernel
theorem dX8_hindersTaken_62 : decode cX8_hindersTaken 62 = .ok (.aload_n 0, 1) := by decide +kernel
theorem dX8_hindersTaken_63 : decode cX8_hindersTaken 63 = .ok (.getfield 114, 3) := by decide +kernel
theorem dX8_hindersTaken_66 : decode cX8_hindersTaken 66 = .ok (.iload_n 1, 1) := by decide +kernel
theorem dX8_hindersTaken_67 : decode cX8_hindersTaken 67 = .ok (.iaload, 1) := by decide +kernel
theorem dX8_hindersTaken_68 : decode cX8_hindersTaken 68 = .ok (.if_icmp .ge 49, 3) := by decide +kernel
theorem dX8_hindersTaken_71 : decode cX8_hindersTaken 71 = .ok (.aload_n 0, 1) := by decide +kernel
theorem dX8_hindersTaken_72 : decode cX8_hindersTaken 72 = .ok (.getfield 105, 3) := by decide +kernel
theorem dX8_hindersTaken_75 : decode cX8_hindersTaken 75 = .ok (.bipush 24, 2) := by decide +kernel
theorem dX8_hindersTaken_77 : decode cX8_hindersTaken 77 = .ok (.iload_n 1, 1) := by decide +kernel
theorem dX8_hindersTaken_78 : decode cX8_hindersTaken 78 = .ok (.imul, 1) := by decide +kernel
theorem dX8_hindersTaken_79 : decode cX8_hindersTaken 79 = .ok (.iload_n 3, 1) := by decide +kernel
theorem dX8_hindersTaken_80 : decode cX8_hindersTaken 80 = .ok (.iadd, 1) := by decide +kernel
theorem dX8_hindersTaken_81 : decode cX8_hindersTaken 81 = .ok (.iload_n 2, 1) := by decide +kernel
theorem dX8_hindersTaken_82 : decode cX8_hindersTaken 82 = .ok (.ifCond .eq 17, 3) := by decide +kernel
theorem dX8_hindersTaken_85 : decode cX8_hindersTaken 85 = .ok (.aload_n 0, 1) := by decide +kernel
theorem dX8_hindersTaken_86 : decode cX8_hindersTaken 86 = .ok (.getfield 102, 3) := by decide +kernel
theorem dX8_hindersTaken_89 : decode cX8_hindersTaken 89 = .ok (.bipush 24, 2) := by decide +kernel
theorem dX8_hindersTaken_91 : decode cX8_hindersTaken 91 = .ok (.iload_n 1, 1) := by decide +kernel
theorem dX8_hindersTaken_92 : decode cX8_hindersTaken 92 = .ok (.imul, 1) := by decide +kernel
theorem dX8_hindersTaken_93 : decode cX8_hindersTaken 93 = .ok (.iload_n 3, 1) := by decide +kernel
theorem dX8_hindersTaken_94 : decode cX8_hindersTaken 94 = .ok (.iadd, 1) := by decide +kernel
theorem dX8_hindersTaken_95 : decode cX8_hindersTaken 95 = .ok (.baload, 1) := by decide +kernel
theorem dX8_hindersTaken_96 : decode cX8_hindersTaken 96 = .ok (.goto 14, 3) := by decide +kernel
theorem dX8_hindersTaken_99 : decode cX8_hindersTaken 99 = .ok (.aload_n 0, 1) := by decide +kernel
theorem dX8_hindersTaken_100 : decode cX8_hindersTaken 100 = .ok (.getfield 62, 3) := by decide +kernel
theorem dX8_hindersTaken_103 : decode cX8_hindersTaken 103 = .ok (.bipush 24, 2) := by decide +kernel
theorem dX8_hindersTaken_105 : decode cX8_hindersTaken 105 = .ok (.iload_n 1, 1) := by decide +kernel
theorem dX8_hindersTaken_106 : decode cX8_hindersTaken 106 = .ok (.imul, 1) := by decide +kernel
theorem dX8_hindersTaken_107 : decode cX8_hindersTaken 107 = .ok (.iload_n 3, 1) := by decide +kernel
theorem dX8_hindersTaken_108 : decode cX8_hindersTaken 108 = .ok (.iadd, 1) := by decide +kernel
theorem dX8_hindersTaken_109 : decode cX8_hindersTaken 109 = .ok (.baload, 1) := by decide +kernel
theorem dX8_hindersTaken_110 : decode cX8_hindersTaken 110 = .ok (.bastore, 1) := by decide +kernel
theorem dX8_hindersTaken_111 : decode cX8_hindersTaken 111 = .ok (.iinc 3 1, 3) := by decide +kernel
theorem dX8_hindersTaken_114 : decode cX8_hindersTaken 114 = .ok (.goto (-53), 3) := by decide +kernel
theorem dX8_hindersTaken_117 : decode cX8_hindersTaken 117 = .ok (.iinc 1 1, 3) := by decide +kernel
theorem dX8_hindersTaken_120 : decode cX8_hindersTaken 120 = .ok (.goto (-118), 3) := by decide +kernel
theorem dX8_hindersTaken_123 : decode cX8_hindersTaken 123 = .ok (.iconst 0, 1) := by decide +kernel
theorem dX8_hindersTaken_124 : decode cX8_hindersTaken 124 = .ok (.istore_n 1, 1) := by decide +kernel
theorem dX8_hindersTaken_125 : decode cX8_hindersTaken 125 = .ok (.iload_n 1, 1) := by decide +kernel
theorem dX8_hindersTaken_126 : decode cX8_hindersTaken 126 = .ok (.aload_n 0, 1) := by decide +kernel
theorem dX8_hindersTaken_127 : decode cX8_hindersTaken 127 = .ok (.getfield 120, 3) := by decide +kernel
theorem dX8_hindersTaken_130 : decode cX8_hindersTaken 130 = .ok (.if_icmp .ge 73, 3) := by decide +kernel
theorem dX8_hindersTaken_133 : decode cX8_hindersTaken 133 = .ok (.iconst 0, 1) := by decide +kernel
theorem dX8_hindersTaken_134 : decode cX8_hindersTaken 134 = .ok (.istore_n 2, 1) := by decide +kernel
theorem dX8_hindersTaken_135 : decode cX8_hindersTaken 135 = .ok (.iload_n 2, 1) := by decide +kernel
theorem dX8_hindersTaken_136 : decode cX8_hindersTaken 136 = .ok (.iload_n 1, 1) := by decide +kernel
theorem dX8_hindersTaken_137 : decode cX8_hindersTaken 137 = .ok (.if_icmp .ge 60, 3) := by decide +kernel
theorem dX8_hindersTaken_140 : decode cX8_hindersTaken 140 = .ok (.aload_n 0, 1) := by decide +kernel
theorem dX8_hindersTaken_141 : decode cX8_hindersTaken 141 = .ok (.getfield 47, 3) := by decide +kernel
theorem dX8_hindersTaken_144 : decode cX8_hindersTaken 144 = .ok (.iload_n 2, 1) := by decide +kernel
theorem dX8_hindersTaken_145 : decode cX8_hindersTaken 145 = .ok (.iaload, 1) := by decide +kernel
theorem dX8_hindersTaken_146 : decode cX8_hindersTaken 146 = .ok (.aload_n 0, 1) := by decide +kernel
theorem dX8_hindersTaken_147 : decode cX8_hindersTaken 147 = .ok (.getfield 47, 3) := by decide +kernel
theorem dX8_hindersTaken_150 : decode cX8_hindersTaken 150 = .ok (.iload_n 1, 1) := by decide +kernel
theorem dX8_hindersTaken_151 : decode cX8_hindersTaken 151 = .ok (.iaload, 1) := by decide +kernel
theorem dX8_hindersTaken_152 : decode cX8_hindersTaken 152 = .ok (.if_icmp .ne 39, 3) := by decide +kernel
theorem dX8_hindersTaken_155 : decode cX8_hindersTaken 155 = .ok (.aload_n 0, 1) := by decide +kernel
theorem dX8_hindersTaken_156 : decode cX8_hindersTaken 156 = .ok (.getfield 105, 3) := by decide +kernel
theorem dX8_hindersTaken_159 : decode cX8_hindersTaken 159 = .ok (.bipush 24, 2) := by decide +kernel
theorem dX8_hindersTaken_161 : decode cX8_hindersTaken 161 = .ok (.iload_n 2, 1) := by decide +kernel
theorem dX8_hindersTaken_162 : decode cX8_hindersTaken 162 = .ok (.imul, 1) := by decide +kernel
theorem dX8_hindersTaken_163 : decode cX8_hindersTaken 163 = .ok (.aload_n 0, 1) := by decide +kernel
theorem dX8_hindersTaken_164 : decode cX8_hindersTaken 164 = .ok (.getfield 114, 3) := by decide +kernel
theorem dX8_hindersTaken_167 : decode cX8_hindersTaken 167 = .ok (.iload_n 2, 1) := by decide +kernel
theorem dX8_hindersTaken_168 : decode cX8_hindersTaken 168 = .ok (.iaload, 1) := by decide +kernel
theorem dX8_hindersTaken_169 : decode cX8_hindersTaken 169 = .ok (.aload_n 0, 1) := by decide +kernel
theorem dX8_hindersTaken_170 : decode cX8_hindersTaken 170 = .ok (.getfield 105, 3) := by decide +kernel
theorem dX8_hindersTaken_173 : decode cX8_hindersTaken 173 = .ok (.bipush 24, 2) := by decide +kernel
theorem dX8_hindersTaken_175 : decode cX8_hindersTaken 175 = .ok (.iload_n 1, 1) := by decide +kernel
theorem dX8_hindersTaken_176 : decode cX8_hindersTaken 176 = .ok (.imul, 1) := by decide +kernel
theorem dX8_hindersTaken_177 : decode cX8_hindersTaken 177 = .ok (.aload_n 0, 1) := by decide +kernel
theorem dX8_hindersTaken_178 : decode cX8_hindersTaken 178 = .ok (.getfield 114, 3) := by decide +kernel
theorem dX8_hindersTaken_181 : decode cX8_hindersTaken 181 = .ok (.iload_n 1, 1) := by decide +kernel
theorem dX8_hindersTaken_182 : decode cX8_hindersTaken 182 = .ok (.iaload, 1) := by decide +kernel
theorem dX8_hindersTaken_183 : decode cX8_hindersTaken 183 = .ok (.invokestatic 133, 3) := by decide +kernel
theorem dX8_hindersTaken_186 : decode cX8_hindersTaken 186 = .ok (.ifCond .eq 5, 3) := by decide +kernel
theorem dX8_hindersTaken_189 : decode cX8_hindersTaken 189 = .ok (.iload_n 1, 1) := by decide +kernel
theorem dX8_hindersTaken_190 : decode cX8_hindersTaken 190 = .ok (.ireturn, 1) := by decide +kernel
theorem dX8_hindersTaken_191 : decode cX8_hindersTaken 191 = .ok (.iinc 2 1, 3) := by decide +kernel
theorem dX8_hindersTaken_194 : decode cX8_hindersTaken 194 = .ok (.goto (-59), 3) := by decide +kernel
theorem dX8_hindersTaken_197 : decode cX8_hindersTaken 197 = .ok (.iinc 1 1, 3) := by decide +kernel
theorem dX8_hindersTaken_200 : decode cX8_hindersTaken 200 = .ok (.goto (-75), 3) := by decide +kernel
theorem dX8_hindersTaken_203 : decode cX8_hindersTaken 203 = .ok (.iconst 0, 1) := by decide +kernel
theorem dX8_hindersTaken_204 : decode cX8_hindersTaken 204 = .ok (.istore_n 1, 1) := by decide +kernel
theorem dX8_hindersTaken_205 : decode cX8_hindersTaken 205 = .ok (.iload_n 1, 1) := by decide +kernel
theorem dX8_hindersTaken_206 : decode cX8_hindersTaken 206 = .ok (.aload_n 0, 1) := by decide +kernel
theorem dX8_hindersTaken_207 : decode cX8_hindersTaken 207 = .ok (.getfield 137, 3) := by decide +kernel
theorem dX8_hindersTaken_210 : decode cX8_hindersTaken 210 = .ok (.if_icmp .ge 58, 3) := by decide +kernel
theorem dX8_hindersTaken_213 : decode cX8_hindersTaken 213 = .ok (.aload_n 0, 1) := by decide +kernel
theorem dX8_hindersTaken_214 : decode cX8_hindersTaken 214 = .ok (.getfield 59, 3) := by decide +kernel
theorem dX8_hindersTaken_217 : decode cX8_hindersTaken 217 = .ok (.iload_n 1, 1) := by decide +kernel
theorem dX8_hindersTaken_218 : decode cX8_hindersTaken 218 = .ok (.iaload, 1) := by decide +kernel
theorem dX8_hindersTaken_219 : decode cX8_hindersTaken 219 = .ok (.istore_n 2, 1) := by decide +kernel
theorem dX8_hindersTaken_220 : decode cX8_hindersTaken 220 = .ok (.aload_n 0, 1) := by decide +kernel
theorem dX8_hindersTaken_221 : decode cX8_hindersTaken 221 = .ok (.aload_n 0, 1) := by decide +kernel
theorem dX8_hindersTaken_222 : decode cX8_hindersTaken 222 = .ok (.getfield 56, 3) := by decide +kernel
theorem dX8_hindersTaken_225 : decode cX8_hindersTaken 225 = .ok (.iload_n 1, 1) := by decide +kernel
theorem dX8_hindersTaken_226 : decode cX8_hindersTaken 226 = .ok (.iaload, 1) := by decide +kernel
theorem dX8_hindersTaken_227 : decode cX8_hindersTaken 227 = .ok (.aload_n 0, 1) := by decide +kernel
theorem dX8_hindersTaken_228 : decode cX8_hindersTaken 228 = .ok (.getfield 105, 3) := by decide +kernel
theorem dX8_hindersTaken_231 : decode cX8_hindersTaken 231 = .ok (.bipush 24, 2) := by decide +kernel
theorem dX8_hindersTaken_233 : decode cX8_hindersTaken 233 = .ok (.iload_n 2, 1) := by decide +kernel
theorem dX8_hindersTaken_234 : decode cX8_hindersTaken 234 = .ok (.imul, 1) := by decide +kernel
theorem dX8_hindersTaken_235 : decode cX8_hindersTaken 235 = .ok (.aload_n 0, 1) := by decide +kernel
theorem dX8_hindersTaken_236 : decode cX8_hindersTaken 236 = .ok (.getfield 114, 3) := by decide +kernel
theorem dX8_hindersTaken_239 : decode cX8_hindersTaken 239 = .ok (.iload_n 2, 1) := by decide +kernel
theorem dX8_hindersTaken_240 : decode cX8_hindersTaken 240 = .ok (.iaload, 1) := by decide +kernel
theorem dX8_hindersTaken_241 : decode cX8_hindersTaken 241 = .ok (.aload_n 0, 1) := by decide +kernel
theorem dX8_hindersTaken_242 : decode cX8_hindersTaken 242 = .ok (.getfield 105, 3) := by decide +kernel
theorem dX8_hindersTaken_245 : decode cX8_hindersTaken 245 = .ok (.aload_n 0, 1) := by decide +kernel
theorem dX8_hindersTaken_246 : decode cX8_hindersTaken 246 = .ok (.getfield 114, 3) := by decide +kernel
theorem dX8_hindersTaken_249 : decode cX8_hindersTaken 249 = .ok (.invokevirtual 155, 3) := by decide +kernel
theorem dX8_hindersTaken_252 : decode cX8_hindersTaken 252 = .ok (.iload_n 2, 1) := by decide +kernel
theorem dX8_hindersTaken_253 : decode cX8_hindersTaken 253 = .ok (.if_icmp .eq 9, 3) := by decide +kernel
theorem dX8_hindersTaken_256 : decode cX8_hindersTaken 256 = .ok (.sipush 1000, 3) := by decide +kernel
theorem dX8_hindersTaken_259 : decode cX8_hindersTaken 259 = .ok (.iload_n 1, 1) := by decide +kernel
theorem dX8_hindersTaken_260 : decode cX8_hindersTaken 260 = .ok (.iadd, 1) := by decide +kernel
theorem dX8_hindersTaken_261 : decode cX8_hindersTaken 261 = .ok (.ireturn, 1) := by decide +kernel
theorem dX8_hindersTaken_262 : decode cX8_hindersTaken 262 = .ok (.iinc 1 1, 3) := by decide +kernel
theorem dX8_hindersTaken_265 : decode cX8_hindersTaken 265 = .ok (.goto (-60), 3) := by decide +kernel
theorem dX8_hindersTaken_268 : decode cX8_hindersTaken 268 = .ok (.bipush (-2), 2) := by decide +kernel
theorem dX8_hindersTaken_270 : decode cX8_hindersTaken 270 = .ok (.ireturn, 1) := by decide +kernel
theorem dX8_hindersAll_0 : decode cX8_hindersAll 0 = .ok (.iconst 0, 1) := by decide +kernel
theorem dX8_hindersAll_1 : decode cX8_hindersAll 1 = .ok (.istore_n 1, 1) := by decide +kernel
theorem dX8_hindersAll_2 : decode cX8_hindersAll 2 = .ok (.iload_n 1, 1) := by decide +kernel
theorem dX8_hindersAll_3 : decode cX8_hindersAll 3 = .ok (.aload_n 0, 1) := by decide +kernel
theorem dX8_hindersAll_4 : decode cX8_hindersAll 4 = .ok (.getfield 120, 3) := by decide +kernel
theorem dX8_hindersAll_7 : decode cX8_hindersAll 7 = .ok (.if_icmp .ge 16, 3) := by decide +kernel
theorem dX8_hindersAll_10 : decode cX8_hindersAll 10 = .ok (.aload_n 0, 1) := by decide +kernel
theorem dX8_hindersAll_11 : decode cX8_hindersAll 11 = .ok (.getfield 99, 3) := by decide +kernel
theorem dX8_hindersAll_14 : decode cX8_hindersAll 14 = .ok (.iload_n 1, 1) := by decide +kernel
theorem dX8_hindersAll_15 : decode cX8_hindersAll 15 = .ok (.iconst 1, 1) := by decide +kernel
theorem dX8_hindersAll_16 : decode cX8_hindersAll 16 = .ok (.bastore, 1) := by decide +kernel
theorem dX8_hindersAll_17 : decode cX8_hindersAll 17 = .ok (.iinc 1 1, 3) := by decide +kernel
theorem dX8_hindersAll_20 : decode cX8_hindersAll 20 = .ok (.goto (-18), 3) := by decide +kernel
theorem dX8_hindersAll_23 : decode cX8_hindersAll 23 = .ok (.aload_n 0, 1) := by decide +kernel
theorem dX8_hindersAll_24 : decode cX8_hindersAll 24 = .ok (.invokevirtual 227, 3) := by decide +kernel
theorem dX8_hindersAll_27 : decode cX8_hindersAll 27 = .ok (.ireturn, 1) := by decide +kernel
theorem dX8_hinders_0 : decode cX8_hinders 0 = .ok (.aload_n 0, 1) := by decide +kernel
theorem dX8_hinders_1 : decode cX8_hinders 1 = .ok (.iconst 0, 1) := by decide +kernel
theorem dX8_hinders_2 : decode cX8_hinders 2 = .ok (.putfield 1, 3) := by decide +kernel
theorem dX8_hinders_5 : decode cX8_hinders 5 = .ok (.aload_n 0, 1) := by decide +kernel
theorem dX8_hinders_6 : decode cX8_hinders 6 = .ok (.invokevirtual 230, 3) := by decide +kernel
theorem dX8_hinders_9 : decode cX8_hinders 9 = .ok (.ireturn, 1) := by decide +kernel
theorem dX8_turn_0 : decode cX8_turn 0 = .ok (.aload_n 0, 1) := by decide +kernel
theorem dX8_turn_1 : decode cX8_turn 1 = .ok (.iconst 0, 1) := by decide +kernel
theorem dX8_turn_2 : decode cX8_turn 2 = .ok (.putfield 1, 3) := by decide +kernel
theorem dX8_turn_5 : decode cX8_turn 5 = .ok (.aload_n 0, 1) := by decide +kernel
theorem dX8_turn_6 : decode cX8_turn 6 = .ok (.invokevirtual 230, 3) := by decide +kernel
theorem dX8_turn_9 : decode cX8_turn 9 = .ok (.bipush (-2), 2) := by decide +kernel
theorem dX8_turn_11 : decode cX8_turn 11 = .ok (.if_icmp .eq 9, 3) := by decide +kernel
theorem dX8_turn_14 : decode cX8_turn 14 = .ok (.aload_n 0, 1) := by decide +kernel
theorem dX8_turn_15 : decode cX8_turn 15 = .ok (.iconst 5, 1) := by decide +kernel
theorem dX8_turn_16 : decode cX8_turn 16 = .ok (.invokevirtual 126, 3) := by decide +kernel
theorem dX8_turn_19 : decode cX8_turn 19 = .ok (.ireturn, 1) := by decide +kernel
theorem dX8_turn_20 : decode cX8_turn 20 = .ok (.aload_n 0, 1) := by decide +kernel
theorem dX8_turn_21 : decode cX8_turn 21 = .ok (.aload_n 0, 1) := by decide +kernel
theorem dX8_turn_22 : decode cX8_turn 22 = .ok (.invokevirtual 223, 3) := by decide +kernel
theorem dX8_turn_25 : decode cX8_turn 25 = .ok (.putfield 233, 3) := by decide +kernel
theorem dX8_turn_28 : decode cX8_turn 28 = .ok (.iconst 0, 1) := by decide +kernel
theorem dX8_turn_29 : decode cX8_turn 29 = .ok (.istore_n 1, 1) := by decide +kernel
theorem dX8_turn_30 : decode cX8_turn 30 = .ok (.iload_n 1, 1) := by decide +kernel
theorem dX8_turn_31 : decode cX8_turn 31 = .ok (.aload_n 0, 1) := by decide +kernel
theorem dX8_turn_32 : decode cX8_turn 32 = .ok (.getfield 120, 3) := by decide +kernel
theorem dX8_turn_35 : decode cX8_turn 35 = .ok (.if_icmp .ge 120, 3) := by decide +kernel
theorem dX8_turn_38 : decode cX8_turn 38 = .ok (.aload_n 0, 1) := by decide +kernel
theorem dX8_turn_39 : decode cX8_turn 39 = .ok (.getfield 117, 3) := by decide +kernel
theorem dX8_turn_42 : decode cX8_turn 42 = .ok (.iload_n 1, 1) := by decide +kernel
theorem dX8_turn_43 : decode cX8_turn 43 = .ok (.aload_n 0, 1) := by decide +kernel
theorem dX8_turn_44 : decode cX8_turn 44 = .ok (.getfield 53, 3) := by decide +kernel
theorem dX8_turn_47 : decode cX8_turn 47 = .ok (.iload_n 1, 1) := by decide +kernel
theorem dX8_turn_48 : decode cX8_turn 48 = .ok (.iaload, 1) := by decide +kernel
theorem dX8_turn_49 : decode cX8_turn 49 = .ok (.iastore, 1) := by decide +kernel
theorem dX8_turn_50 : decode cX8_turn 50 = .ok (.iconst 0, 1) := by decide +kernel
theorem dX8_turn_51 : decode cX8_turn 51 = .ok (.istore_n 2, 1) := by decide +kernel
theorem dX8_turn_52 : decode cX8_turn 52 = .ok (.iload_n 2, 1) := by decide +kernel
theorem dX8_turn_53 : decode cX8_turn 53 = .ok (.aload_n 0, 1) := by decide +kernel
theorem dX8_turn_54 : decode cX8_turn 54 = .ok (.getfield 53, 3) := by decide +kernel
theorem dX8_turn_57 : decode cX8_turn 57 = .ok (.iload_n 1, 1) := by decide +kernel
theorem dX8_turn_58 : decode cX8_turn 58 = .ok (.iaload, 1) := by decide +kernel
theorem dX8_turn_59 : decode cX8_turn 59 = .ok (.if_icmp .ge 31, 3) := by decide +kernel
theorem dX8_turn_62 : decode cX8_turn 62 = .ok (.aload_n 0, 1) := by decide +kernel
theorem dX8_turn_63 : decode cX8_turn 63 = .ok (.getfield 108, 3) := by decide +kernel
theorem dX8_turn_66 : decode cX8_turn 66 = .ok (.bipush 24, 2) := by decide +kernel
theorem dX8_turn_68 : decode cX8_turn 68 = .ok (.iload_n 1, 1) := by decide +kernel
theorem dX8_turn_69 : decode cX8_turn 69 = .ok (.imul, 1) := by decide +kernel
theorem dX8_turn_70 : decode cX8_turn 70 = .ok (.iload_n 2, 1) := by decide +kernel
theorem dX8_turn_71 : decode cX8_turn 71 = .ok (.iadd, 1) := by decide +kernel
theorem dX8_turn_72 : decode cX8_turn 72 = .ok (.aload_n 0, 1) := by decide +kernel
theorem dX8_turn_73 : decode cX8_turn 73 = .ok (.getfield 62, 3) := by decide +kernel
theorem dX8_turn_76 : decode cX8_turn 76 = .ok (.bipush 24, 2) := by decide +kernel
theorem dX8_turn_78 : decode cX8_turn 78 = .ok (.iload_n 1, 1) := by decide +kernel
theorem dX8_turn_79 : decode cX8_turn 79 = .ok (.imul, 1) := by decide +kernel
theorem dX8_turn_80 : decode cX8_turn 80 = .ok (.iload_n 2, 1) := by decide +kernel
theorem dX8_turn_81 : decode cX8_turn 81 = .ok (.iadd, 1) := by decide +kernel
theorem dX8_turn_82 : decode cX8_turn 82 = .ok (.baload, 1) := by decide +kernel
theorem dX8_turn_83 : decode cX8_turn 83 = .ok (.bastore, 1) := by decide +kernel
theorem dX8_turn_84 : decode cX8_turn 84 = .ok (.iinc 2 1, 3) := by decide +kernel
theorem dX8_turn_87 : decode cX8_turn 87 = .ok (.goto (-35), 3) := by decide +kernel
theorem dX8_turn_90 : decode cX8_turn 90 = .ok (.aload_n 0, 1) := by decide +kernel
theorem dX8_turn_91 : decode cX8_turn 91 = .ok (.getfield 53, 3) := by decide +kernel
theorem dX8_turn_94 : decode cX8_turn 94 = .ok (.iload_n 1, 1) := by decide +kernel
theorem dX8_turn_95 : decode cX8_turn 95 = .ok (.aload_n 0, 1) := by decide +kernel
theorem dX8_turn_96 : decode cX8_turn 96 = .ok (.getfield 114, 3) := by decide +kernel
theorem dX8_turn_99 : decode cX8_turn 99 = .ok (.iload_n 1, 1) := by decide +kernel
theorem dX8_turn_100 : decode cX8_turn 100 = .ok (.iaload, 1) := by decide +kernel
theorem dX8_turn_101 : decode cX8_turn 101 = .ok (.iastore, 1) := by decide +kernel
theorem dX8_turn_102 : decode cX8_turn 102 = .ok (.iconst 0, 1) := by decide +kernel
theorem dX8_turn_103 : decode cX8_turn 103 = .ok (.istore_n 2, 1) := by decide +kernel
theorem dX8_turn_104 : decode cX8_turn 104 = .ok (.iload_n 2, 1) := by decide +kernel
theorem dX8_turn_105 : decode cX8_turn 105 = .ok (.aload_n 0, 1) := by decide +kernel
theorem dX8_turn_106 : decode cX8_turn 106 = .ok (.getfield 53, 3) := by decide +kernel
theorem dX8_turn_109 : decode cX8_turn 109 = .ok (.iload_n 1, 1) := by decide +kernel
theorem dX8_turn_110 : decode cX8_turn 110 = .ok (.iaload, 1) := by decide +kernel
theorem dX8_turn_111 : decode cX8_turn 111 = .ok (.if_icmp .ge 31, 3) := by decide +kernel
theorem dX8_turn_114 : decode cX8_turn 114 = .ok (.aload_n 0, 1) := by decide +kernel
theorem dX8_turn_115 : decode cX8_turn 115 = .ok (.getfield 62, 3) := by decide +kernel
theorem dX8_turn_118 : decode cX8_turn 118 = .ok (.bipush 24, 2) := by decide +kernel
theorem dX8_turn_120 : decode cX8_turn 120 = .ok (.iload_n 1, 1) := by decide +kernel
theorem dX8_turn_121 : decode cX8_turn 121 = .ok (.imul, 1) := by decide +kernel
theorem dX8_turn_122 : decode cX8_turn 122 = .ok (.iload_n 2, 1) := by decide +kernel
theorem dX8_turn_123 : decode cX8_turn 123 = .ok (.iadd, 1) := by decide +kernel
theorem dX8_turn_124 : decode cX8_turn 124 = .ok (.aload_n 0, 1) := by decide +kernel
theorem dX8_turn_125 : decode cX8_turn 125 = .ok (.getfield 105, 3) := by decide +kernel
theorem dX8_turn_128 : decode cX8_turn 128 = .ok (.bipush 24, 2) := by decide +kernel
theorem dX8_turn_130 : decode cX8_turn 130 = .ok (.iload_n 1, 1) := by decide +kernel
theorem dX8_turn_131 : decode cX8_turn 131 = .ok (.imul, 1) := by decide +kernel
theorem dX8_turn_132 : decode cX8_turn 132 = .ok (.iload_n 2, 1) := by decide +kernel
theorem dX8_turn_133 : decode cX8_turn 133 = .ok (.iadd, 1) := by decide +kernel
theorem dX8_turn_134 : decode cX8_turn 134 = .ok (.baload, 1) := by decide +kernel
theorem dX8_turn_135 : decode cX8_turn 135 = .ok (.bastore, 1) := by decide +kernel
theorem dX8_turn_136 : decode cX8_turn 136 = .ok (.iinc 2 1, 3) := by decide +kernel
theorem dX8_turn_139 : decode cX8_turn 139 = .ok (.goto (-35), 3) := by decide +kernel
theorem dX8_turn_142 : decode cX8_turn 142 = .ok (.aload_n 0, 1) := by decide +kernel
theorem dX8_turn_143 : decode cX8_turn 143 = .ok (.getfield 95, 3) := by decide +kernel
theorem dX8_turn_146 : decode cX8_turn 146 = .ok (.iload_n 1, 1) := by decide +kernel
theorem dX8_turn_147 : decode cX8_turn 147 = .ok (.iconst 0, 1) := by decide +kernel
theorem dX8_turn_148 : decode cX8_turn 148 = .ok (.bastore, 1) := by decide +kernel
theorem dX8_turn_149 : decode cX8_turn 149 = .ok (.iinc 1 1, 3) := by decide +kernel
theorem dX8_turn_152 : decode cX8_turn 152 = .ok (.goto (-122), 3) := by decide +kernel
theorem dX8_turn_155 : decode cX8_turn 155 = .ok (.aload_n 0, 1) := by decide +kernel
theorem dX8_turn_156 : decode cX8_turn 156 = .ok (.iconst 1, 1) := by decide +kernel
theorem dX8_turn_157 : decode cX8_turn 157 = .ok (.putfield 151, 3) := by decide +kernel
theorem dX8_turn_160 : decode cX8_turn 160 = .ok (.aload_n 0, 1) := by decide +kernel
theorem dX8_turn_161 : decode cX8_turn 161 = .ok (.aload_n 0, 1) := by decide +kernel
theorem dX8_turn_162 : decode cX8_turn 162 = .ok (.getfield 233, 3) := by decide +kernel
theorem dX8_turn_165 : decode cX8_turn 165 = .ok (.invokevirtual 130, 3) := by decide +kernel
theorem dX8_turn_168 : decode cX8_turn 168 = .ok (.ireturn, 1) := by decide +kernel
theorem dX8_back_0 : decode cX8_back 0 = .ok (.aload_n 0, 1) := by decide +kernel
theorem dX8_back_1 : decode cX8_back 1 = .ok (.iconst 0, 1) := by decide +kernel
theorem dX8_back_2 : decode cX8_back 2 = .ok (.putfield 1, 3) := by decide +kernel
theorem dX8_back_5 : decode cX8_back 5 = .ok (.aload_n 0, 1) := by decide +kernel
theorem dX8_back_6 : decode cX8_back 6 = .ok (.getfield 151, 3) := by decide +kernel
theorem dX8_back_9 : decode cX8_back 9 = .ok (.ifCond .ne 10, 3) := by decide +kernel
theorem dX8_back_12 : decode cX8_back 12 = .ok (.aload_n 0, 1) := by decide +kernel
theorem dX8_back_13 : decode cX8_back 13 = .ok (.bipush 6, 2) := by decide +kernel
theorem dX8_back_15 : decode cX8_back 15 = .ok (.invokevirtual 126, 3) := by decide +kernel
theorem dX8_back_18 : decode cX8_back 18 = .ok (.ireturn, 1) := by decide +kernel
theorem dX8_back_19 : decode cX8_back 19 = .ok (.aload_n 0, 1) := by decide +kernel
theorem dX8_back_20 : decode cX8_back 20 = .ok (.iconst 0, 1) := by decide +kernel
theorem dX8_back_21 : decode cX8_back 21 = .ok (.putfield 151, 3) := by decide +kernel
theorem dX8_back_24 : decode cX8_back 24 = .ok (.iconst 0, 1) := by decide +kernel
theorem dX8_back_25 : decode cX8_back 25 = .ok (.istore_n 1, 1) := by decide +kernel
theorem dX8_back_26 : decode cX8_back 26 = .ok (.iload_n 1, 1) := by decide +kernel
theorem dX8_back_27 : decode cX8_back 27 = .ok (.aload_n 0, 1) := by decide +kernel
theorem dX8_back_28 : decode cX8_back 28 = .ok (.getfield 120, 3) := by decide +kernel
theorem dX8_back_31 : decode cX8_back 31 = .ok (.if_icmp .ge 61, 3) := by decide +kernel
theorem dX8_back_34 : decode cX8_back 34 = .ok (.aload_n 0, 1) := by decide +kernel
theorem dX8_back_35 : decode cX8_back 35 = .ok (.getfield 53, 3) := by decide +kernel
theorem dX8_back_38 : decode cX8_back 38 = .ok (.iload_n 1, 1) := by decide +kernel
theorem dX8_back_39 : decode cX8_back 39 = .ok (.aload_n 0, 1) := by decide +kernel
theorem dX8_back_40 : decode cX8_back 40 = .ok (.getfield 117, 3) := by decide +kernel
theorem dX8_back_43 : decode cX8_back 43 = .ok (.iload_n 1, 1) := by decide +kernel
theorem dX8_back_44 : decode cX8_back 44 = .ok (.iaload, 1) := by decide +kernel
theorem dX8_back_45 : decode cX8_back 45 = .ok (.iastore, 1) := by decide +kernel
theorem dX8_back_46 : decode cX8_back 46 = .ok (.iconst 0, 1) := by decide +kernel
theorem dX8_back_47 : decode cX8_back 47 = .ok (.istore_n 2, 1) := by decide +kernel
theorem dX8_back_48 : decode cX8_back 48 = .ok (.iload_n 2, 1) := by decide +kernel
theorem dX8_back_49 : decode cX8_back 49 = .ok (.aload_n 0, 1) := by decide +kernel
theorem dX8_back_50 : decode cX8_back 50 = .ok (.getfield 53, 3) := by decide +kernel
theorem dX8_back_53 : decode cX8_back 53 = .ok (.iload_n 1, 1) := by decide +kernel
theorem dX8_back_54 : decode cX8_back 54 = .ok (.iaload, 1) := by decide +kernel
theorem dX8_back_55 : decode cX8_back 55 = .ok (.if_icmp .ge 31, 3) := by decide +kernel
theorem dX8_back_58 : decode cX8_back 58 = .ok (.aload_n 0, 1) := by decide +kernel
theorem dX8_back_59 : decode cX8_back 59 = .ok (.getfield 62, 3) := by decide +kernel
theorem dX8_back_62 : decode cX8_back 62 = .ok (.bipush 24, 2) := by decide +kernel
theorem dX8_back_64 : decode cX8_back 64 = .ok (.iload_n 1, 1) := by decide +kernel
theorem dX8_back_65 : decode cX8_back 65 = .ok (.imul, 1) := by decide +kernel
theorem dX8_back_66 : decode cX8_back 66 = .ok (.iload_n 2, 1) := by decide +kernel
theorem dX8_back_67 : decode cX8_back 67 = .ok (.iadd, 1) := by decide +kernel
theorem dX8_back_68 : decode cX8_back 68 = .ok (.aload_n 0, 1) := by decide +kernel
theorem dX8_back_69 : decode cX8_back 69 = .ok (.getfield 108, 3) := by decide +kernel
theorem dX8_back_72 : decode cX8_back 72 = .ok (.bipush 24, 2) := by decide +kernel
theorem dX8_back_74 : decode cX8_back 74 = .ok (.iload_n 1, 1) := by decide +kernel
theorem dX8_back_75 : decode cX8_back 75 = .ok (.imul, 1) := by decide +kernel
theorem dX8_back_76 : decode cX8_back 76 = .ok (.iload_n 2, 1) := by decide +kernel
theorem dX8_back_77 : decode cX8_back 77 = .ok (.iadd, 1) := by decide +kernel
theorem dX8_back_78 : decode cX8_back 78 = .ok (.baload, 1) := by decide +kernel
theorem dX8_back_79 : decode cX8_back 79 = .ok (.bastore, 1) := by decide +kernel
theorem dX8_back_80 : decode cX8_back 80 = .ok (.iinc 2 1, 3) := by decide +kernel
theorem dX8_back_83 : decode cX8_back 83 = .ok (.goto (-35), 3) := by decide +kernel
theorem dX8_back_86 : decode cX8_back 86 = .ok (.iinc 1 1, 3) := by decide +kernel
theorem dX8_back_89 : decode cX8_back 89 = .ok (.goto (-63), 3) := by decide +kernel
theorem dX8_back_92 : decode cX8_back 92 = .ok (.aload_n 0, 1) := by decide +kernel
theorem dX8_back_93 : decode cX8_back 93 = .ok (.aload_n 0, 1) := by decide +kernel
theorem dX8_back_94 : decode cX8_back 94 = .ok (.getfield 233, 3) := by decide +kernel
theorem dX8_back_97 : decode cX8_back 97 = .ok (.invokevirtual 130, 3) := by decide +kernel
theorem dX8_back_100 : decode cX8_back 100 = .ok (.ireturn, 1) := by decide +kernel
theorem dX8_keep_0 : decode cX8_keep 0 = .ok (.aload_n 0, 1) := by decide +kernel
theorem dX8_keep_1 : decode cX8_keep 1 = .ok (.iconst 0, 1) := by decide +kernel
theorem dX8_keep_2 : decode cX8_keep 2 = .ok (.putfield 1, 3) := by decide +kernel
theorem dX8_keep_5 : decode cX8_keep 5 = .ok (.iconst 0, 1) := by decide +kernel
theorem dX8_keep_6 : decode cX8_keep 6 = .ok (.istore_n 1, 1) := by decide +kernel
theorem dX8_keep_7 : decode cX8_keep 7 = .ok (.iload_n 1, 1) := by decide +kernel
theorem dX8_keep_8 : decode cX8_keep 8 = .ok (.aload_n 0, 1) := by decide +kernel
theorem dX8_keep_9 : decode cX8_keep 9 = .ok (.getfield 120, 3) := by decide +kernel
theorem dX8_keep_12 : decode cX8_keep 12 = .ok (.if_icmp .ge 16, 3) := by decide +kernel
theorem dX8_keep_15 : decode cX8_keep 15 = .ok (.aload_n 0, 1) := by decide +kernel
theorem dX8_keep_16 : decode cX8_keep 16 = .ok (.getfield 99, 3) := by decide +kernel
theorem dX8_keep_19 : decode cX8_keep 19 = .ok (.iload_n 1, 1) := by decide +kernel
theorem dX8_keep_20 : decode cX8_keep 20 = .ok (.iconst 0, 1) := by decide +kernel
theorem dX8_keep_21 : decode cX8_keep 21 = .ok (.bastore, 1) := by decide +kernel
theorem dX8_keep_22 : decode cX8_keep 22 = .ok (.iinc 1 1, 3) := by decide +kernel
theorem dX8_keep_25 : decode cX8_keep 25 = .ok (.goto (-18), 3) := by decide +kernel
theorem dX8_keep_28 : decode cX8_keep 28 = .ok (.iconst 0, 1) := by decide +kernel
theorem dX8_keep_29 : decode cX8_keep 29 = .ok (.istore_n 1, 1) := by decide +kernel
theorem dX8_keep_30 : decode cX8_keep 30 = .ok (.iload_n 1, 1) := by decide +kernel
theorem dX8_keep_31 : decode cX8_keep 31 = .ok (.aload_n 0, 1) := by decide +kernel
theorem dX8_keep_32 : decode cX8_keep 32 = .ok (.getfield 120, 3) := by decide +kernel
theorem dX8_keep_35 : decode cX8_keep 35 = .ok (.if_icmp .ge 48, 3) := by decide +kernel
theorem dX8_keep_38 : decode cX8_keep 38 = .ok (.aload_n 0, 1) := by decide +kernel
theorem dX8_keep_39 : decode cX8_keep 39 = .ok (.getfield 95, 3) := by decide +kernel
theorem dX8_keep_42 : decode cX8_keep 42 = .ok (.iload_n 1, 1) := by decide +kernel
theorem dX8_keep_43 : decode cX8_keep 43 = .ok (.baload, 1) := by decide +kernel
theorem dX8_keep_44 : decode cX8_keep 44 = .ok (.ifCond .ne 6, 3) := by decide +kernel
theorem dX8_keep_47 : decode cX8_keep 47 = .ok (.goto 30, 3) := by decide +kernel
theorem dX8_keep_50 : decode cX8_keep 50 = .ok (.aload_n 0, 1) := by decide +kernel
theorem dX8_keep_51 : decode cX8_keep 51 = .ok (.getfield 99, 3) := by decide +kernel
theorem dX8_keep_54 : decode cX8_keep 54 = .ok (.iload_n 1, 1) := by decide +kernel
theorem dX8_keep_55 : decode cX8_keep 55 = .ok (.iconst 1, 1) := by decide +kernel
theorem dX8_keep_56 : decode cX8_keep 56 = .ok (.bastore, 1) := by decide +kernel
theorem dX8_keep_57 : decode cX8_keep 57 = .ok (.aload_n 0, 1) := by decide +kernel
theorem dX8_keep_58 : decode cX8_keep 58 = .ok (.getfield 99, 3) := by decide +kernel
theorem dX8_keep_61 : decode cX8_keep 61 = .ok (.iload_n 1, 1) := by decide +kernel
theorem dX8_keep_62 : decode cX8_keep 62 = .ok (.aload_n 0, 1) := by decide +kernel
theorem dX8_keep_63 : decode cX8_keep 63 = .ok (.invokevirtual 227, 3) := by decide +kernel
theorem dX8_keep_66 : decode cX8_keep 66 = .ok (.bipush (-2), 2) := by decide +kernel
theorem dX8_keep_68 : decode cX8_keep 68 = .ok (.if_icmp .ne 7, 3) := by decide +kernel
theorem dX8_keep_71 : decode cX8_keep 71 = .ok (.iconst 1, 1) := by decide +kernel
theorem dX8_keep_72 : decode cX8_keep 72 = .ok (.goto 4, 3) := by decide +kernel
theorem dX8_keep_75 : decode cX8_keep 75 = .ok (.iconst 0, 1) := by decide +kernel
theorem dX8_keep_76 : decode cX8_keep 76 = .ok (.bastore, 1) := by decide +kernel
theorem dX8_keep_77 : decode cX8_keep 77 = .ok (.iinc 1 1, 3) := by decide +kernel
theorem dX8_keep_80 : decode cX8_keep 80 = .ok (.goto (-50), 3) := by decide +kernel
theorem dX8_keep_83 : decode cX8_keep 83 = .ok (.iconst 0, 1) := by decide +kernel
theorem dX8_keep_84 : decode cX8_keep 84 = .ok (.istore_n 1, 1) := by decide +kernel
theorem dX8_keep_85 : decode cX8_keep 85 = .ok (.iload_n 1, 1) := by decide +kernel
theorem dX8_keep_86 : decode cX8_keep 86 = .ok (.aload_n 0, 1) := by decide +kernel
theorem dX8_keep_87 : decode cX8_keep 87 = .ok (.getfield 120, 3) := by decide +kernel
theorem dX8_keep_90 : decode cX8_keep 90 = .ok (.if_icmp .ge 38, 3) := by decide +kernel
theorem dX8_keep_93 : decode cX8_keep 93 = .ok (.aload_n 0, 1) := by decide +kernel
theorem dX8_keep_94 : decode cX8_keep 94 = .ok (.getfield 95, 3) := by decide +kernel
theorem dX8_keep_97 : decode cX8_keep 97 = .ok (.iload_n 1, 1) := by decide +kernel
theorem dX8_keep_98 : decode cX8_keep 98 = .ok (.aload_n 0, 1) := by decide +kernel
theorem dX8_keep_99 : decode cX8_keep 99 = .ok (.getfield 95, 3) := by decide +kernel
theorem dX8_keep_102 : decode cX8_keep 102 = .ok (.iload_n 1, 1) := by decide +kernel
theorem dX8_keep_103 : decode cX8_keep 103 = .ok (.baload, 1) := by decide +kernel
theorem dX8_keep_104 : decode cX8_keep 104 = .ok (.ifCond .eq 16, 3) := by decide +kernel
theorem dX8_keep_107 : decode cX8_keep 107 = .ok (.aload_n 0, 1) := by decide +kernel
theorem dX8_keep_108 : decode cX8_keep 108 = .ok (.getfield 99, 3) := by decide +kernel
theorem dX8_keep_111 : decode cX8_keep 111 = .ok (.iload_n 1, 1) := by decide +kernel
theorem dX8_keep_112 : decode cX8_keep 112 = .ok (.baload, 1) := by decide +kernel
theorem dX8_keep_113 : decode cX8_keep 113 = .ok (.ifCond .eq 7, 3) := by decide +kernel
theorem dX8_keep_116 : decode cX8_keep 116 = .ok (.iconst 1, 1) := by decide +kernel
theorem dX8_keep_117 : decode cX8_keep 117 = .ok (.goto 4, 3) := by decide +kernel
theorem dX8_keep_120 : decode cX8_keep 120 = .ok (.iconst 0, 1) := by decide +kernel
theorem dX8_keep_121 : decode cX8_keep 121 = .ok (.bastore, 1) := by decide +kernel
theorem dX8_keep_122 : decode cX8_keep 122 = .ok (.iinc 1 1, 3) := by decide +kernel
theorem dX8_keep_125 : decode cX8_keep 125 = .ok (.goto (-40), 3) := by decide +kernel
theorem dX8_keep_128 : decode cX8_keep 128 = .ok (.aload_n 0, 1) := by decide +kernel
theorem dX8_keep_129 : decode cX8_keep 129 = .ok (.invokevirtual 223, 3) := by decide +kernel
theorem dX8_keep_132 : decode cX8_keep 132 = .ok (.ireturn, 1) := by decide +kernel
theorem dX8_count_0 : decode cX8_count 0 = .ok (.aload_n 0, 1) := by decide +kernel
theorem dX8_count_1 : decode cX8_count 1 = .ok (.iconst 0, 1) := by decide +kernel
theorem dX8_count_2 : decode cX8_count 2 = .ok (.putfield 1, 3) := by decide +kernel
theorem dX8_count_5 : decode cX8_count 5 = .ok (.iload_n 1, 1) := by decide +kernel
theorem dX8_count_6 : decode cX8_count 6 = .ok (.tableswitch 77 0 6 #[42, 47, 52, 57, 62, 67, 72], 42) := by decide +kernel
theorem dX8_count_48 : decode cX8_count 48 = .ok (.aload_n 0, 1) := by decide +kernel
theorem dX8_count_49 : decode cX8_count 49 = .ok (.getfield 40, 3) := by decide +kernel
theorem dX8_count_52 : decode cX8_count 52 = .ok (.ireturn, 1) := by decide +kernel
theorem dX8_count_53 : decode cX8_count 53 = .ok (.aload_n 0, 1) := by decide +kernel
theorem dX8_count_54 : decode cX8_count 54 = .ok (.getfield 120, 3) := by decide +kernel
theorem dX8_count_57 : decode cX8_count 57 = .ok (.ireturn, 1) := by decide +kernel
theorem dX8_count_58 : decode cX8_count 58 = .ok (.aload_n 0, 1) := by decide +kernel
theorem dX8_count_59 : decode cX8_count 59 = .ok (.getfield 137, 3) := by decide +kernel
theorem dX8_count_62 : decode cX8_count 62 = .ok (.ireturn, 1) := by decide +kernel
theorem dX8_count_63 : decode cX8_count 63 = .ok (.aload_n 0, 1) := by decide +kernel
theorem dX8_count_64 : decode cX8_count 64 = .ok (.getfield 165, 3) := by decide +kernel
theorem dX8_count_67 : decode cX8_count 67 = .ok (.ireturn, 1) := by decide +kernel
theorem dX8_count_68 : decode cX8_count 68 = .ok (.aload_n 0, 1) := by decide +kernel
theorem dX8_count_69 : decode cX8_count 69 = .ok (.invokevirtual 223, 3) := by decide +kernel
theorem dX8_count_72 : decode cX8_count 72 = .ok (.ireturn, 1) := by decide +kernel
theorem dX8_count_73 : decode cX8_count 73 = .ok (.aload_n 0, 1) := by decide +kernel
theorem dX8_count_74 : decode cX8_count 74 = .ok (.getfield 220, 3) := by decide +kernel
theorem dX8_count_77 : decode cX8_count 77 = .ok (.ireturn, 1) := by decide +kernel
theorem dX8_count_78 : decode cX8_count 78 = .ok (.aload_n 0, 1) := by decide +kernel
theorem dX8_count_79 : decode cX8_count 79 = .ok (.getfield 10, 3) := by decide +kernel
theorem dX8_count_82 : decode cX8_count 82 = .ok (.ireturn, 1) := by decide +kernel
theorem dX8_count_83 : decode cX8_count 83 = .ok (.iconst (-1), 1) := by decide +kernel
theorem dX8_count_84 : decode cX8_count 84 = .ok (.ireturn, 1) := by decide +kernel
theorem dX8_trouble_0 : decode cX8_trouble 0 = .ok (.aload_n 0, 1) := by decide +kernel
theorem dX8_trouble_1 : decode cX8_trouble 1 = .ok (.iconst 0, 1) := by decide +kernel
theorem dX8_trouble_2 : decode cX8_trouble 2 = .ok (.putfield 1, 3) := by decide +kernel
theorem dX8_trouble_5 : decode cX8_trouble 5 = .ok (.aload_n 0, 1) := by decide +kernel
theorem dX8_trouble_6 : decode cX8_trouble 6 = .ok (.getfield 7, 3) := by decide +kernel
theorem dX8_trouble_9 : decode cX8_trouble 9 = .ok (.ireturn, 1) := by decide +kernel
end
section
theorem dL_name_0 : decode cL_name 0 = .ok (.aload_n 3, 1) := by decide +kernel
theorem dL_name_1 : decode cL_name 1 = .ok (.iconst 0, 1) := by decide +kernel
theorem dL_name_2 : decode cL_name 2 = .ok (.aload_n 0, 1) := by decide +kernel
theorem dL_name_3 : decode cL_name 3 = .ok (.iload_n 1, 1) := by decide +kernel
theorem dL_name_4 : decode cL_name 4 = .ok (.iload_n 2, 1) := by decide +kernel
theorem dL_name_5 : decode cL_name 5 = .ok (.invokevirtual 7, 3) := by decide +kernel
theorem dL_name_8 : decode cL_name 8 = .ok (.i2l, 1) := by decide +kernel
theorem dL_name_9 : decode cL_name 9 = .ok (.lastore, 1) := by decide +kernel
theorem dL_name_10 : decode cL_name 10 = .ok (.goto 7, 3) := by decide +kernel
theorem dL_name_13 : decode cL_name 13 = .ok (.astore 4, 2) := by decide +kernel
theorem dL_name_15 : decode cL_name 15 = .ok (.iconst 1, 1) := by decide +kernel
theorem dL_name_16 : decode cL_name 16 = .ok (.ireturn, 1) := by decide +kernel
theorem dL_name_17 : decode cL_name 17 = .ok (.iconst 0, 1) := by decide +kernel
theorem dL_name_18 : decode cL_name 18 = .ok (.ireturn, 1) := by decide +kernel
theorem dL_out_0 : decode cL_out 0 = .ok (.aload_n 2, 1) := by decide +kernel
theorem dL_out_1 : decode cL_out 1 = .ok (.iconst 0, 1) := by decide +kernel
theorem dL_out_2 : decode cL_out 2 = .ok (.aload_n 0, 1) := by decide +kernel
theorem dL_out_3 : decode cL_out 3 = .ok (.iload_n 1, 1) := by decide +kernel
theorem dL_out_4 : decode cL_out 4 = .ok (.invokevirtual 15, 3) := by decide +kernel
theorem dL_out_7 : decode cL_out 7 = .ok (.i2l, 1) := by decide +kernel
theorem dL_out_8 : decode cL_out 8 = .ok (.lastore, 1) := by decide +kernel
theorem dL_out_9 : decode cL_out 9 = .ok (.goto 6, 3) := by decide +kernel
theorem dL_out_12 : decode cL_out 12 = .ok (.astore_n 3, 1) := by decide +kernel
theorem dL_out_13 : decode cL_out 13 = .ok (.iconst 1, 1) := by decide +kernel
theorem dL_out_14 : decode cL_out 14 = .ok (.ireturn, 1) := by decide +kernel
theorem dL_out_15 : decode cL_out 15 = .ok (.iconst 0, 1) := by decide +kernel
theorem dL_out_16 : decode cL_out 16 = .ok (.ireturn, 1) := by decide +kernel
theorem dL_law_0 : decode cL_law 0 = .ok (.new 8, 3) := by decide +kernel
theorem dL_law_3 : decode cL_law 3 = .ok (.dup, 1) := by decide +kernel
theorem dL_law_4 : decode cL_law 4 = .ok (.invokespecial 19, 3) := by decide +kernel
theorem dL_law_7 : decode cL_law 7 = .ok (.astore_n 1, 1) := by decide +kernel
theorem dL_law_8 : decode cL_law 8 = .ok (.new 20, 3) := by decide +kernel
theorem dL_law_11 : decode cL_law 11 = .ok (.dup, 1) := by decide +kernel
theorem dL_law_12 : decode cL_law 12 = .ok (.invokespecial 22, 3) := by decide +kernel
theorem dL_law_15 : decode cL_law 15 = .ok (.astore_n 2, 1) := by decide +kernel
theorem dL_law_16 : decode cL_law 16 = .ok (.iconst 1, 1) := by decide +kernel
theorem dL_law_17 : decode cL_law 17 = .ok (.newarray .long, 2) := by decide +kernel
theorem dL_law_19 : decode cL_law 19 = .ok (.astore_n 3, 1) := by decide +kernel
theorem dL_law_20 : decode cL_law 20 = .ok (.iconst 0, 1) := by decide +kernel
theorem dL_law_21 : decode cL_law 21 = .ok (.istore 4, 2) := by decide +kernel
theorem dL_law_23 : decode cL_law 23 = .ok (.iload 4, 2) := by decide +kernel
theorem dL_law_25 : decode cL_law 25 = .ok (.aload_n 0, 1) := by decide +kernel
theorem dL_law_26 : decode cL_law 26 = .ok (.arraylength, 1) := by decide +kernel
theorem dL_law_27 : decode cL_law 27 = .ok (.bipush 6, 2) := by decide +kernel
theorem dL_law_29 : decode cL_law 29 = .ok (.isub, 1) := by decide +kernel
theorem dL_law_30 : decode cL_law 30 = .ok (.if_icmp .gt 1031, 3) := by decide +kernel
theorem dL_law_33 : decode cL_law 33 = .ok (.aload_n 0, 1) := by decide +kernel
theorem dL_law_34 : decode cL_law 34 = .ok (.iload 4, 2) := by decide +kernel
theorem dL_law_36 : decode cL_law 36 = .ok (.iaload, 1) := by decide +kernel
theorem dL_law_37 : decode cL_law 37 = .ok (.bipush 31, 2) := by decide +kernel
theorem dL_law_39 : decode cL_law 39 = .ok (.iand, 1) := by decide +kernel
theorem dL_law_40 : decode cL_law 40 = .ok (.tableswitch 1015 0 28 #[132, 205, 230, 279, 316, 353, 421, 458, 495, 532, 569, 606, 643, 680, 705, 730, 755, 768, 781, 806, 862, 899, 912, 925, 938, 951, 964, 977, 1002], 132) := by decide +kernel
theorem dL_law_172 : decode cL_law 172 = .ok (.aload_n 1, 1) := by decide +kernel
theorem dL_law_173 : decode cL_law 173 = .ok (.aload_n 0, 1) := by decide +kernel
theorem dL_law_174 : decode cL_law 174 = .ok (.iload 4, 2) := by decide +kernel
theorem dL_law_176 : decode cL_law 176 = .ok (.iconst 1, 1) := by decide +kernel
theorem dL_law_177 : decode cL_law 177 = .ok (.iadd, 1) := by decide +kernel
theorem dL_law_178 : decode cL_law 178 = .ok (.iaload, 1) := by decide +kernel
theorem dL_law_179 : decode cL_law 179 = .ok (.aload_n 0, 1) := by decide +kernel
theorem dL_law_180 : decode cL_law 180 = .ok (.iload 4, 2) := by decide +kernel
theorem dL_law_182 : decode cL_law 182 = .ok (.iconst 2, 1) := by decide +kernel
theorem dL_law_183 : decode cL_law 183 = .ok (.iadd, 1) := by decide +kernel
theorem dL_law_184 : decode cL_law 184 = .ok (.iaload, 1) := by decide +kernel
theorem dL_law_185 : decode cL_law 185 = .ok (.aload_n 0, 1) := by decide +kernel
theorem dL_law_186 : decode cL_law 186 = .ok (.iload 4, 2) := by decide +kernel
theorem dL_law_188 : decode cL_law 188 = .ok (.iconst 3, 1) := by decide +kernel
theorem dL_law_189 : decode cL_law 189 = .ok (.iadd, 1) := by decide +kernel
theorem dL_law_190 : decode cL_law 190 = .ok (.iaload, 1) := by decide +kernel
theorem dL_law_191 : decode cL_law 191 = .ok (.aload_n 0, 1) := by decide +kernel
theorem dL_law_192 : decode cL_law 192 = .ok (.iload 4, 2) := by decide +kernel
theorem dL_law_194 : decode cL_law 194 = .ok (.iconst 4, 1) := by decide +kernel
theorem dL_law_195 : decode cL_law 195 = .ok (.iadd, 1) := by decide +kernel
theorem dL_law_196 : decode cL_law 196 = .ok (.iaload, 1) := by decide +kernel
theorem dL_law_197 : decode cL_law 197 = .ok (.aload_n 0, 1) := by decide +kernel
theorem dL_law_198 : decode cL_law 198 = .ok (.iload 4, 2) := by decide +kernel
theorem dL_law_200 : decode cL_law 200 = .ok (.iconst 5, 1) := by decide +kernel
theorem dL_law_201 : decode cL_law 201 = .ok (.iadd, 1) := by decide +kernel
theorem dL_law_202 : decode cL_law 202 = .ok (.iaload, 1) := by decide +kernel
theorem dL_law_203 : decode cL_law 203 = .ok (.invokevirtual 23, 3) := by decide +kernel
theorem dL_law_206 : decode cL_law 206 = .ok (.aload_n 2, 1) := by decide +kernel
theorem dL_law_207 : decode cL_law 207 = .ok (.aload_n 0, 1) := by decide +kernel
theorem dL_law_208 : decode cL_law 208 = .ok (.iload 4, 2) := by decide +kernel
theorem dL_law_210 : decode cL_law 210 = .ok (.iconst 1, 1) := by decide +kernel
theorem dL_law_211 : decode cL_law 211 = .ok (.iadd, 1) := by decide +kernel
theorem dL_law_212 : decode cL_law 212 = .ok (.iaload, 1) := by decide +kernel
theorem dL_law_213 : decode cL_law 213 = .ok (.aload_n 0, 1) := by decide +kernel
theorem dL_law_214 : decode cL_law 214 = .ok (.iload 4, 2) := by decide +kernel
theorem dL_law_216 : decode cL_law 216 = .ok (.iconst 2, 1) := by decide +kernel
theorem dL_law_217 : decode cL_law 217 = .ok (.iadd, 1) := by decide +kernel
theorem dL_law_218 : decode cL_law 218 = .ok (.iaload, 1) := by decide +kernel
theorem dL_law_219 : decode cL_law 219 = .ok (.aload_n 0, 1) := by decide +kernel
theorem dL_law_220 : decode cL_law 220 = .ok (.iload 4, 2) := by decide +kernel
theorem dL_law_222 : decode cL_law 222 = .ok (.iconst 3, 1) := by decide +kernel
theorem dL_law_223 : decode cL_law 223 = .ok (.iadd, 1) := by decide +kernel
theorem dL_law_224 : decode cL_law 224 = .ok (.iaload, 1) := by decide +kernel
theorem dL_law_225 : decode cL_law 225 = .ok (.aload_n 0, 1) := by decide +kernel
theorem dL_law_226 : decode cL_law 226 = .ok (.iload 4, 2) := by decide +kernel
theorem dL_law_228 : decode cL_law 228 = .ok (.iconst 4, 1) := by decide +kernel
theorem dL_law_229 : decode cL_law 229 = .ok (.iadd, 1) := by decide +kernel
theorem dL_law_230 : decode cL_law 230 = .ok (.iaload, 1) := by decide +kernel
theorem dL_law_231 : decode cL_law 231 = .ok (.aload_n 0, 1) := by decide +kernel
theorem dL_law_232 : decode cL_law 232 = .ok (.iload 4, 2) := by decide +kernel
theorem dL_law_234 : decode cL_law 234 = .ok (.iconst 5, 1) := by decide +kernel
theorem dL_law_235 : decode cL_law 235 = .ok (.iadd, 1) := by decide +kernel
theorem dL_law_236 : decode cL_law 236 = .ok (.iaload, 1) := by decide +kernel
theorem dL_law_237 : decode cL_law 237 = .ok (.invokevirtual 27, 3) := by decide +kernel
theorem dL_law_240 : decode cL_law 240 = .ok (.if_icmp .eq 815, 3) := by decide +kernel
theorem dL_law_243 : decode cL_law 243 = .ok (.iconst 0, 1) := by decide +kernel
theorem dL_law_244 : decode cL_law 244 = .ok (.ireturn, 1) := by decide +kernel
theorem dL_law_245 : decode cL_law 245 = .ok (.aload_n 1, 1) := by decide +kernel
theorem dL_law_246 : decode cL_law 246 = .ok (.aload_n 0, 1) := by decide +kernel
theorem dL_law_247 : decode cL_law 247 = .ok (.iload 4, 2) := by decide +kernel
theorem dL_law_249 : decode cL_law 249 = .ok (.iconst 1, 1) := by decide +kernel
theorem dL_law_250 : decode cL_law 250 = .ok (.iadd, 1) := by decide +kernel
theorem dL_law_251 : decode cL_law 251 = .ok (.iaload, 1) := by decide +kernel
theorem dL_law_252 : decode cL_law 252 = .ok (.invokevirtual 28, 3) := by decide +kernel
theorem dL_law_255 : decode cL_law 255 = .ok (.aload_n 2, 1) := by decide +kernel
theorem dL_law_256 : decode cL_law 256 = .ok (.aload_n 0, 1) := by decide +kernel
theorem dL_law_257 : decode cL_law 257 = .ok (.iload 4, 2) := by decide +kernel
theorem dL_law_259 : decode cL_law 259 = .ok (.iconst 1, 1) := by decide +kernel
theorem dL_law_260 : decode cL_law 260 = .ok (.iadd, 1) := by decide +kernel
theorem dL_law_261 : decode cL_law 261 = .ok (.iaload, 1) := by decide +kernel
theorem dL_law_262 : decode cL_law 262 = .ok (.invokevirtual 31, 3) := by decide +kernel
theorem dL_law_265 : decode cL_law 265 = .ok (.if_icmp .eq 790, 3) := by decide +kernel
theorem dL_law_268 : decode cL_law 268 = .ok (.iconst 0, 1) := by decide +kernel
theorem dL_law_269 : decode cL_law 269 = .ok (.ireturn, 1) := by decide +kernel
theorem dL_law_270 : decode cL_law 270 = .ok (.aload_n 1, 1) := by decide +kernel
theorem dL_law_271 : decode cL_law 271 = .ok (.aload_n 0, 1) := by decide +kernel
theorem dL_law_272 : decode cL_law 272 = .ok (.iload 4, 2) := by decide +kernel
theorem dL_law_274 : decode cL_law 274 = .ok (.iconst 1, 1) := by decide +kernel
theorem dL_law_275 : decode cL_law 275 = .ok (.iadd, 1) := by decide +kernel
theorem dL_law_276 : decode cL_law 276 = .ok (.iaload, 1) := by decide +kernel
theorem dL_law_277 : decode cL_law 277 = .ok (.aload_n 0, 1) := by decide +kernel
theorem dL_law_278 : decode cL_law 278 = .ok (.iload 4, 2) := by decide +kernel
theorem dL_law_280 : decode cL_law 280 = .ok (.iconst 2, 1) := by decide +kernel
theorem dL_law_281 : decode cL_law 281 = .ok (.iadd, 1) := by decide +kernel
theorem dL_law_282 : decode cL_law 282 = .ok (.iaload, 1) := by decide +kernel
theorem dL_law_283 : decode cL_law 283 = .ok (.aload_n 0, 1) := by decide +kernel
theorem dL_law_284 : decode cL_law 284 = .ok (.iload 4, 2) := by decide +kernel
theorem dL_law_286 : decode cL_law 286 = .ok (.iconst 3, 1) := by decide +kernel
theorem dL_law_287 : decode cL_law 287 = .ok (.iadd, 1) := by decide +kernel
theorem dL_law_288 : decode cL_law 288 = .ok (.iaload, 1) := by decide +kernel
theorem dL_law_289 : decode cL_law 289 = .ok (.invokevirtual 32, 3) := by decide +kernel
theorem dL_law_292 : decode cL_law 292 = .ok (.aload_n 2, 1) := by decide +kernel
theorem dL_law_293 : decode cL_law 293 = .ok (.aload_n 0, 1) := by decide +kernel
theorem dL_law_294 : decode cL_law 294 = .ok (.iload 4, 2) := by decide +kernel
theorem dL_law_296 : decode cL_law 296 = .ok (.iconst 1, 1) := by decide +kernel
theorem dL_law_297 : decode cL_law 297 = .ok (.iadd, 1) := by decide +kernel
theorem dL_law_298 : decode cL_law 298 = .ok (.iaload, 1) := by decide +kernel
theorem dL_law_299 : decode cL_law 299 = .ok (.aload_n 0, 1) := by decide +kernel
theorem dL_law_300 : decode cL_law 300 = .ok (.iload 4, 2) := by decide +kernel
theorem dL_law_302 : decode cL_law 302 = .ok (.iconst 2, 1) := by decide +kernel
theorem dL_law_303 : decode cL_law 303 = .ok (.iadd, 1) := by decide +kernel
theorem dL_law_304 : decode cL_law 304 = .ok (.iaload, 1) := by decide +kernel
theorem dL_law_305 : decode cL_law 305 = .ok (.aload_n 0, 1) := by decide +kernel
theorem dL_law_306 : decode cL_law 306 = .ok (.iload 4, 2) := by decide +kernel
theorem dL_law_308 : decode cL_law 308 = .ok (.iconst 3, 1) := by decide +kernel
theorem dL_law_309 : decode cL_law 309 = .ok (.iadd, 1) := by decide +kernel
theorem dL_law_310 : decode cL_law 310 = .ok (.iaload, 1) := by decide +kernel
theorem dL_law_311 : decode cL_law 311 = .ok (.invokevirtual 36, 3) := by decide +kernel
theorem dL_law_314 : decode cL_law 314 = .ok (.if_icmp .eq 741, 3) := by decide +kernel
theorem dL_law_317 : decode cL_law 317 = .ok (.iconst 0, 1) := by decide +kernel
theorem dL_law_318 : decode cL_law 318 = .ok (.ireturn, 1) := by decide +kernel
theorem dL_law_319 : decode cL_law 319 = .ok (.aload_n 1, 1) := by decide +kernel
theorem dL_law_320 : decode cL_law 320 = .ok (.aload_n 0, 1) := by decide +kernel
theorem dL_law_321 : decode cL_law 321 = .ok (.iload 4, 2) := by decide +kernel
theorem dL_law_323 : decode cL_law 323 = .ok (.iconst 1, 1) := by decide +kernel
theorem dL_law_324 : decode cL_law 324 = .ok (.iadd, 1) := by decide +kernel
theorem dL_law_325 : decode cL_law 325 = .ok (.iaload, 1) := by decide +kernel
theorem dL_law_326 : decode cL_law 326 = .ok (.aload_n 0, 1) := by decide +kernel
theorem dL_law_327 : decode cL_law 327 = .ok (.iload 4, 2) := by decide +kernel
theorem dL_law_329 : decode cL_law 329 = .ok (.iconst 2, 1) := by decide +kernel
theorem dL_law_330 : decode cL_law 330 = .ok (.iadd, 1) := by decide +kernel
theorem dL_law_331 : decode cL_law 331 = .ok (.iaload, 1) := by decide +kernel
theorem dL_law_332 : decode cL_law 332 = .ok (.invokevirtual 37, 3) := by decide +kernel
theorem dL_law_335 : decode cL_law 335 = .ok (.aload_n 2, 1) := by decide +kernel
theorem dL_law_336 : decode cL_law 336 = .ok (.aload_n 0, 1) := by decide +kernel
theorem dL_law_337 : decode cL_law 337 = .ok (.iload 4, 2) := by decide +kernel
theorem dL_law_339 : decode cL_law 339 = .ok (.iconst 1, 1) := by decide +kernel
theorem dL_law_340 : decode cL_law 340 = .ok (.iadd, 1) := by decide +kernel
theorem dL_law_341 : decode cL_law 341 = .ok (.iaload, 1) := by decide +kernel
theorem dL_law_342 : decode cL_law 342 = .ok (.aload_n 0, 1) := by decide +kernel
theorem dL_law_343 : decode cL_law 343 = .ok (.iload 4, 2) := by decide +kernel
theorem dL_law_345 : decode cL_law 345 = .ok (.iconst 2, 1) := by decide +kernel
theorem dL_law_346 : decode cL_law 346 = .ok (.iadd, 1) := by decide +kernel
theorem dL_law_347 : decode cL_law 347 = .ok (.iaload, 1) := by decide +kernel
theorem dL_law_348 : decode cL_law 348 = .ok (.invokevirtual 40, 3) := by decide +kernel
theorem dL_law_351 : decode cL_law 351 = .ok (.if_icmp .eq 704, 3) := by decide +kernel
theorem dL_law_354 : decode cL_law 354 = .ok (.iconst 0, 1) := by decide +kernel
theorem dL_law_355 : decode cL_law 355 = .ok (.ireturn, 1) := by decide +kernel
theorem dL_law_356 : decode cL_law 356 = .ok (.aload_n 1, 1) := by decide +kernel
theorem dL_law_357 : decode cL_law 357 = .ok (.aload_n 0, 1) := by decide +kernel
theorem dL_law_358 : decode cL_law 358 = .ok (.iload 4, 2) := by decide +kernel
theorem dL_law_360 : decode cL_law 360 = .ok (.iconst 1, 1) := by decide +kernel
theorem dL_law_361 : decode cL_law 361 = .ok (.iadd, 1) := by decide +kernel
theorem dL_law_362 : decode cL_law 362 = .ok (.iaload, 1) := by decide +kernel
theorem dL_law_363 : decode cL_law 363 = .ok (.aload_n 0, 1) := by decide +kernel
theorem dL_law_364 : decode cL_law 364 = .ok (.iload 4, 2) := by decide +kernel
theorem dL_law_366 : decode cL_law 366 = .ok (.iconst 2, 1) := by decide +kernel
theorem dL_law_367 : decode cL_law 367 = .ok (.iadd, 1) := by decide +kernel
theorem dL_law_368 : decode cL_law 368 = .ok (.iaload, 1) := by decide +kernel
theorem dL_law_369 : decode cL_law 369 = .ok (.invokevirtual 41, 3) := by decide +kernel
theorem dL_law_372 : decode cL_law 372 = .ok (.aload_n 2, 1) := by decide +kernel
theorem dL_law_373 : decode cL_law 373 = .ok (.aload_n 0, 1) := by decide +kernel
theorem dL_law_374 : decode cL_law 374 = .ok (.iload 4, 2) := by decide +kernel
theorem dL_law_376 : decode cL_law 376 = .ok (.iconst 1, 1) := by decide +kernel
theorem dL_law_377 : decode cL_law 377 = .ok (.iadd, 1) := by decide +kernel
theorem dL_law_378 : decode cL_law 378 = .ok (.iaload, 1) := by decide +kernel
theorem dL_law_379 : decode cL_law 379 = .ok (.aload_n 0, 1) := by decide +kernel
theorem dL_law_380 : decode cL_law 380 = .ok (.iload 4, 2) := by decide +kernel
theorem dL_law_382 : decode cL_law 382 = .ok (.iconst 2, 1) := by decide +kernel
theorem dL_law_383 : decode cL_law 383 = .ok (.iadd, 1) := by decide +kernel
theorem dL_law_384 : decode cL_law 384 = .ok (.iaload, 1) := by decide +kernel
theorem dL_law_385 : decode cL_law 385 = .ok (.invokevirtual 44, 3) := by decide +kernel
theorem dL_law_388 : decode cL_law 388 = .ok (.if_icmp .eq 667, 3) := by decide +kernel
theorem dL_law_391 : decode cL_law 391 = .ok (.iconst 0, 1) := by decide +kernel
theorem dL_law_392 : decode cL_law 392 = .ok (.ireturn, 1) := by decide +kernel
theorem dL_law_393 : decode cL_law 393 = .ok (.aload_n 1, 1) := by decide +kernel
theorem dL_law_394 : decode cL_law 394 = .ok (.aload_n 0, 1) := by decide +kernel
theorem dL_law_395 : decode cL_law 395 = .ok (.iload 4, 2) := by decide +kernel
theorem dL_law_397 : decode cL_law 397 = .ok (.iconst 1, 1) := by decide +kernel
theorem dL_law_398 : decode cL_law 398 = .ok (.iadd, 1) := by decide +kernel
theorem dL_law_399 : decode cL_law 399 = .ok (.iaload, 1) := by decide +kernel
theorem dL_law_400 : decode cL_law 400 = .ok (.aload_n 0, 1) := by decide +kernel
theorem dL_law_401 : decode cL_law 401 = .ok (.iload 4, 2) := by decide +kernel
theorem dL_law_403 : decode cL_law 403 = .ok (.iconst 2, 1) := by decide +kernel
theorem dL_law_404 : decode cL_law 404 = .ok (.iadd, 1) := by decide +kernel
theorem dL_law_405 : decode cL_law 405 = .ok (.iaload, 1) := by decide +kernel
theorem dL_law_406 : decode cL_law 406 = .ok (.aload_n 3, 1) := by decide +kernel
theorem dL_law_407 : decode cL_law 407 = .ok (.invokestatic 45, 3) := by decide +kernel
theorem dL_law_410 : decode cL_law 410 = .ok (.istore 5, 2) := by decide +kernel
theorem dL_law_412 : decode cL_law 412 = .ok (.aload_n 2, 1) := by decide +kernel
theorem dL_law_413 : decode cL_law 413 = .ok (.aload_n 0, 1) := by decide +kernel
theorem dL_law_414 : decode cL_law 414 = .ok (.iload 4, 2) := by decide +kernel
theorem dL_law_416 : decode cL_law 416 = .ok (.iconst 1, 1) := by decide +kernel
theorem dL_law_417 : decode cL_law 417 = .ok (.iadd, 1) := by decide +kernel
theorem dL_law_418 : decode cL_law 418 = .ok (.iaload, 1) := by decide +kernel
theorem dL_law_419 : decode cL_law 419 = .ok (.aload_n 0, 1) := by decide +kernel
theorem dL_law_420 : decode cL_law 420 = .ok (.iload 4, 2) := by decide +kernel
theorem dL_law_422 : decode cL_law 422 = .ok (.iconst 2, 1) := by decide +kernel
theorem dL_law_423 : decode cL_law 423 = .ok (.iadd, 1) := by decide +kernel
theorem dL_law_424 : decode cL_law 424 = .ok (.iaload, 1) := by decide +kernel
theorem dL_law_425 : decode cL_law 425 = .ok (.invokevirtual 50, 3) := by decide +kernel
theorem dL_law_428 : decode cL_law 428 = .ok (.istore 6, 2) := by decide +kernel
theorem dL_law_430 : decode cL_law 430 = .ok (.aload_n 2, 1) := by decide +kernel
theorem dL_law_431 : decode cL_law 431 = .ok (.invokevirtual 51, 3) := by decide +kernel
theorem dL_law_434 : decode cL_law 434 = .ok (.iload 5, 2) := by decide +kernel
theorem dL_law_436 : decode cL_law 436 = .ok (.if_icmp .eq 5, 3) := by decide +kernel
theorem dL_law_439 : decode cL_law 439 = .ok (.iconst 0, 1) := by decide +kernel
theorem dL_law_440 : decode cL_law 440 = .ok (.ireturn, 1) := by decide +kernel
theorem dL_law_441 : decode cL_law 441 = .ok (.iload 5, 2) := by decide +kernel
theorem dL_law_443 : decode cL_law 443 = .ok (.ifCond .ne 15, 3) := by decide +kernel
theorem dL_law_446 : decode cL_law 446 = .ok (.aload_n 3, 1) := by decide +kernel
theorem dL_law_447 : decode cL_law 447 = .ok (.iconst 0, 1) := by decide +kernel
theorem dL_law_448 : decode cL_law 448 = .ok (.laload, 1) := by decide +kernel
theorem dL_law_449 : decode cL_law 449 = .ok (.iload 6, 2) := by decide +kernel
theorem dL_law_451 : decode cL_law 451 = .ok (.i2l, 1) := by decide +kernel
theorem dL_law_452 : decode cL_law 452 = .ok (.lcmp, 1) := by decide +kernel
theorem dL_law_453 : decode cL_law 453 = .ok (.ifCond .eq 5, 3) := by decide +kernel
theorem dL_law_456 : decode cL_law 456 = .ok (.iconst 0, 1) := by decide +kernel
theorem dL_law_457 : decode cL_law 457 = .ok (.ireturn, 1) := by decide +kernel
theorem dL_law_458 : decode cL_law 458 = .ok (.goto 597, 3) := by decide +kernel
theorem dL_law_461 : decode cL_law 461 = .ok (.aload_n 1, 1) := by decide +kernel
theorem dL_law_462 : decode cL_law 462 = .ok (.aload_n 0, 1) := by decide +kernel
theorem dL_law_463 : decode cL_law 463 = .ok (.iload 4, 2) := by decide +kernel
theorem dL_law_465 : decode cL_law 465 = .ok (.iconst 1, 1) := by decide +kernel
theorem dL_law_466 : decode cL_law 466 = .ok (.iadd, 1) := by decide +kernel
theorem dL_law_467 : decode cL_law 467 = .ok (.iaload, 1) := by decide +kernel
theorem dL_law_468 : decode cL_law 468 = .ok (.aload_n 0, 1) := by decide +kernel
theorem dL_law_469 : decode cL_law 469 = .ok (.iload 4, 2) := by decide +kernel
theorem dL_law_471 : decode cL_law 471 = .ok (.iconst 2, 1) := by decide +kernel
theorem dL_law_472 : decode cL_law 472 = .ok (.iadd, 1) := by decide +kernel
theorem dL_law_473 : decode cL_law 473 = .ok (.iaload, 1) := by decide +kernel
theorem dL_law_474 : decode cL_law 474 = .ok (.invokevirtual 55, 3) := by decide +kernel
theorem dL_law_477 : decode cL_law 477 = .ok (.aload_n 2, 1) := by decide +kernel
theorem dL_law_478 : decode cL_law 478 = .ok (.aload_n 0, 1) := by decide +kernel
theorem dL_law_479 : decode cL_law 479 = .ok (.iload 4, 2) := by decide +kernel
theorem dL_law_481 : decode cL_law 481 = .ok (.iconst 1, 1) := by decide +kernel
theorem dL_law_482 : decode cL_law 482 = .ok (.iadd, 1) := by decide +kernel
theorem dL_law_483 : decode cL_law 483 = .ok (.iaload, 1) := by decide +kernel
theorem dL_law_484 : decode cL_law 484 = .ok (.aload_n 0, 1) := by decide +kernel
theorem dL_law_485 : decode cL_law 485 = .ok (.iload 4, 2) := by decide +kernel
theorem dL_law_487 : decode cL_law 487 = .ok (.iconst 2, 1) := by decide +kernel
theorem dL_law_488 : decode cL_law 488 = .ok (.iadd, 1) := by decide +kernel
theorem dL_law_489 : decode cL_law 489 = .ok (.iaload, 1) := by decide +kernel
theorem dL_law_490 : decode cL_law 490 = .ok (.invokevirtual 58, 3) := by decide +kernel
theorem dL_law_493 : decode cL_law 493 = .ok (.if_icmp .eq 562, 3) := by decide +kernel
theorem dL_law_496 : decode cL_law 496 = .ok (.iconst 0, 1) := by decide +kernel
theorem dL_law_497 : decode cL_law 497 = .ok (.ireturn, 1) := by decide +kernel
theorem dL_law_498 : decode cL_law 498 = .ok (.aload_n 1, 1) := by decide +kernel
theorem dL_law_499 : decode cL_law 499 = .ok (.aload_n 0, 1) := by decide +kernel
theorem dL_law_500 : decode cL_law 500 = .ok (.iload 4, 2) := by decide +kernel
theorem dL_law_502 : decode cL_law 502 = .ok (.iconst 1, 1) := by decide +kernel
theorem dL_law_503 : decode cL_law 503 = .ok (.iadd, 1) := by decide +kernel
theorem dL_law_504 : decode cL_law 504 = .ok (.iaload, 1) := by decide +kernel
theorem dL_law_505 : decode cL_law 505 = .ok (.aload_n 0, 1) := by decide +kernel
theorem dL_law_506 : decode cL_law 506 = .ok (.iload 4, 2) := by decide +kernel
theorem dL_law_508 : decode cL_law 508 = .ok (.iconst 2, 1) := by decide +kernel
theorem dL_law_509 : decode cL_law 509 = .ok (.iadd, 1) := by decide +kernel
theorem dL_law_510 : decode cL_law 510 = .ok (.iaload, 1) := by decide +kernel
theorem dL_law_511 : decode cL_law 511 = .ok (.invokevirtual 59, 3) := by decide +kernel
theorem dL_law_514 : decode cL_law 514 = .ok (.aload_n 2, 1) := by decide +kernel
theorem dL_law_515 : decode cL_law 515 = .ok (.aload_n 0, 1) := by decide +kernel
theorem dL_law_516 : decode cL_law 516 = .ok (.iload 4, 2) := by decide +kernel
theorem dL_law_518 : decode cL_law 518 = .ok (.iconst 1, 1) := by decide +kernel
theorem dL_law_519 : decode cL_law 519 = .ok (.iadd, 1) := by decide +kernel
theorem dL_law_520 : decode cL_law 520 = .ok (.iaload, 1) := by decide +kernel
theorem dL_law_521 : decode cL_law 521 = .ok (.aload_n 0, 1) := by decide +kernel
theorem dL_law_522 : decode cL_law 522 = .ok (.iload 4, 2) := by decide +kernel
theorem dL_law_524 : decode cL_law 524 = .ok (.iconst 2, 1) := by decide +kernel
theorem dL_law_525 : decode cL_law 525 = .ok (.iadd, 1) := by decide +kernel
theorem dL_law_526 : decode cL_law 526 = .ok (.iaload, 1) := by decide +kernel
theorem dL_law_527 : decode cL_law 527 = .ok (.invokevirtual 62, 3) := by decide +kernel
theorem dL_law_530 : decode cL_law 530 = .ok (.if_icmp .eq 525, 3) := by decide +kernel
theorem dL_law_533 : decode cL_law 533 = .ok (.iconst 0, 1) := by decide +kernel
theorem dL_law_534 : decode cL_law 534 = .ok (.ireturn, 1) := by decide +kernel
theorem dL_law_535 : decode cL_law 535 = .ok (.aload_n 1, 1) := by decide +kernel
theorem dL_law_536 : decode cL_law 536 = .ok (.aload_n 0, 1) := by decide +kernel
theorem dL_law_537 : decode cL_law 537 = .ok (.iload 4, 2) := by decide +kernel
theorem dL_law_539 : decode cL_law 539 = .ok (.iconst 1, 1) := by decide +kernel
theorem dL_law_540 : decode cL_law 540 = .ok (.iadd, 1) := by decide +kernel
theorem dL_law_541 : decode cL_law 541 = .ok (.iaload, 1) := by decide +kernel
theorem dL_law_542 : decode cL_law 542 = .ok (.aload_n 0, 1) := by decide +kernel
theorem dL_law_543 : decode cL_law 543 = .ok (.iload 4, 2) := by decide +kernel
theorem dL_law_545 : decode cL_law 545 = .ok (.iconst 2, 1) := by decide +kernel
theorem dL_law_546 : decode cL_law 546 = .ok (.iadd, 1) := by decide +kernel
theorem dL_law_547 : decode cL_law 547 = .ok (.iaload, 1) := by decide +kernel
theorem dL_law_548 : decode cL_law 548 = .ok (.invokevirtual 63, 3) := by decide +kernel
theorem dL_law_551 : decode cL_law 551 = .ok (.aload_n 2, 1) := by decide +kernel
theorem dL_law_552 : decode cL_law 552 = .ok (.aload_n 0, 1) := by decide +kernel
theorem dL_law_553 : decode cL_law 553 = .ok (.iload 4, 2) := by decide +kernel
theorem dL_law_555 : decode cL_law 555 = .ok (.iconst 1, 1) := by decide +kernel
theorem dL_law_556 : decode cL_law 556 = .ok (.iadd, 1) := by decide +kernel
theorem dL_law_557 : decode cL_law 557 = .ok (.iaload, 1) := by decide +kernel
theorem dL_law_558 : decode cL_law 558 = .ok (.aload_n 0, 1) := by decide +kernel
theorem dL_law_559 : decode cL_law 559 = .ok (.iload 4, 2) := by decide +kernel
theorem dL_law_561 : decode cL_law 561 = .ok (.iconst 2, 1) := by decide +kernel
theorem dL_law_562 : decode cL_law 562 = .ok (.iadd, 1) := by decide +kernel
theorem dL_law_563 : decode cL_law 563 = .ok (.iaload, 1) := by decide +kernel
theorem dL_law_564 : decode cL_law 564 = .ok (.invokevirtual 66, 3) := by decide +kernel
theorem dL_law_567 : decode cL_law 567 = .ok (.if_icmp .eq 488, 3) := by decide +kernel
theorem dL_law_570 : decode cL_law 570 = .ok (.iconst 0, 1) := by decide +kernel
theorem dL_law_571 : decode cL_law 571 = .ok (.ireturn, 1) := by decide +kernel
theorem dL_law_572 : decode cL_law 572 = .ok (.aload_n 1, 1) := by decide +kernel
theorem dL_law_573 : decode cL_law 573 = .ok (.aload_n 0, 1) := by decide +kernel
theorem dL_law_574 : decode cL_law 574 = .ok (.iload 4, 2) := by decide +kernel
theorem dL_law_576 : decode cL_law 576 = .ok (.iconst 1, 1) := by decide +kernel
theorem dL_law_577 : decode cL_law 577 = .ok (.iadd, 1) := by decide +kernel
theorem dL_law_578 : decode cL_law 578 = .ok (.iaload, 1) := by decide +kernel
theorem dL_law_579 : decode cL_law 579 = .ok (.aload_n 0, 1) := by decide +kernel
theorem dL_law_580 : decode cL_law 580 = .ok (.iload 4, 2) := by decide +kernel
theorem dL_law_582 : decode cL_law 582 = .ok (.iconst 2, 1) := by decide +kernel
theorem dL_law_583 : decode cL_law 583 = .ok (.iadd, 1) := by decide +kernel
theorem dL_law_584 : decode cL_law 584 = .ok (.iaload, 1) := by decide +kernel
theorem dL_law_585 : decode cL_law 585 = .ok (.invokevirtual 67, 3) := by decide +kernel
theorem dL_law_588 : decode cL_law 588 = .ok (.aload_n 2, 1) := by decide +kernel
theorem dL_law_589 : decode cL_law 589 = .ok (.aload_n 0, 1) := by decide +kernel
theorem dL_law_590 : decode cL_law 590 = .ok (.iload 4, 2) := by decide +kernel
theorem dL_law_592 : decode cL_law 592 = .ok (.iconst 1, 1) := by decide +kernel
theorem dL_law_593 : decode cL_law 593 = .ok (.iadd, 1) := by decide +kernel
theorem dL_law_594 : decode cL_law 594 = .ok (.iaload, 1) := by decide +kernel
theorem dL_law_595 : decode cL_law 595 = .ok (.aload_n 0, 1) := by decide +kernel
theorem dL_law_596 : decode cL_law 596 = .ok (.iload 4, 2) := by decide +kernel
theorem dL_law_598 : decode cL_law 598 = .ok (.iconst 2, 1) := by decide +kernel
theorem dL_law_599 : decode cL_law 599 = .ok (.iadd, 1) := by decide +kernel
theorem dL_law_600 : decode cL_law 600 = .ok (.iaload, 1) := by decide +kernel
theorem dL_law_601 : decode cL_law 601 = .ok (.invokevirtual 71, 3) := by decide +kernel
theorem dL_law_604 : decode cL_law 604 = .ok (.if_icmp .eq 451, 3) := by decide +kernel
theorem dL_law_607 : decode cL_law 607 = .ok (.iconst 0, 1) := by decide +kernel
theorem dL_law_608 : decode cL_law 608 = .ok (.ireturn, 1) := by decide +kernel
theorem dL_law_609 : decode cL_law 609 = .ok (.aload_n 1, 1) := by decide +kernel
theorem dL_law_610 : decode cL_law 610 = .ok (.aload_n 0, 1) := by decide +kernel
theorem dL_law_611 : decode cL_law 611 = .ok (.iload 4, 2) := by decide +kernel
theorem dL_law_613 : decode cL_law 613 = .ok (.iconst 1, 1) := by decide +kernel
theorem dL_law_614 : decode cL_law 614 = .ok (.iadd, 1) := by decide +kernel
theorem dL_law_615 : decode cL_law 615 = .ok (.iaload, 1) := by decide +kernel
theorem dL_law_616 : decode cL_law 616 = .ok (.aload_n 0, 1) := by decide +kernel
theorem dL_law_617 : decode cL_law 617 = .ok (.iload 4, 2) := by decide +kernel
theorem dL_law_619 : decode cL_law 619 = .ok (.iconst 2, 1) := by decide +kernel
theorem dL_law_620 : decode cL_law 620 = .ok (.iadd, 1) := by decide +kernel
theorem dL_law_621 : decode cL_law 621 = .ok (.iaload, 1) := by decide +kernel
theorem dL_law_622 : decode cL_law 622 = .ok (.invokevirtual 72, 3) := by decide +kernel
theorem dL_law_625 : decode cL_law 625 = .ok (.aload_n 2, 1) := by decide +kernel
theorem dL_law_626 : decode cL_law 626 = .ok (.aload_n 0, 1) := by decide +kernel
theorem dL_law_627 : decode cL_law 627 = .ok (.iload 4, 2) := by decide +kernel
theorem dL_law_629 : decode cL_law 629 = .ok (.iconst 1, 1) := by decide +kernel
theorem dL_law_630 : decode cL_law 630 = .ok (.iadd, 1) := by decide +kernel
theorem dL_law_631 : decode cL_law 631 = .ok (.iaload, 1) := by decide +kernel
theorem dL_law_632 : decode cL_law 632 = .ok (.aload_n 0, 1) := by decide +kernel
theorem dL_law_633 : decode cL_law 633 = .ok (.iload 4, 2) := by decide +kernel
theorem dL_law_635 : decode cL_law 635 = .ok (.iconst 2, 1) := by decide +kernel
theorem dL_law_636 : decode cL_law 636 = .ok (.iadd, 1) := by decide +kernel
theorem dL_law_637 : decode cL_law 637 = .ok (.iaload, 1) := by decide +kernel
theorem dL_law_638 : decode cL_law 638 = .ok (.invokevirtual 75, 3) := by decide +kernel
theorem dL_law_641 : decode cL_law 641 = .ok (.if_icmp .eq 414, 3) := by decide +kernel
theorem dL_law_644 : decode cL_law 644 = .ok (.iconst 0, 1) := by decide +kernel
theorem dL_law_645 : decode cL_law 645 = .ok (.ireturn, 1) := by decide +kernel
theorem dL_law_646 : decode cL_law 646 = .ok (.aload_n 1, 1) := by decide +kernel
theorem dL_law_647 : decode cL_law 647 = .ok (.aload_n 0, 1) := by decide +kernel
theorem dL_law_648 : decode cL_law 648 = .ok (.iload 4, 2) := by decide +kernel
theorem dL_law_650 : decode cL_law 650 = .ok (.iconst 1, 1) := by decide +kernel
theorem dL_law_651 : decode cL_law 651 = .ok (.iadd, 1) := by decide +kernel
theorem dL_law_652 : decode cL_law 652 = .ok (.iaload, 1) := by decide +kernel
theorem dL_law_653 : decode cL_law 653 = .ok (.aload_n 0, 1) := by decide +kernel
theorem dL_law_654 : decode cL_law 654 = .ok (.iload 4, 2) := by decide +kernel
theorem dL_law_656 : decode cL_law 656 = .ok (.iconst 2, 1) := by decide +kernel
theorem dL_law_657 : decode cL_law 657 = .ok (.iadd, 1) := by decide +kernel
theorem dL_law_658 : decode cL_law 658 = .ok (.iaload, 1) := by decide +kernel
theorem dL_law_659 : decode cL_law 659 = .ok (.invokevirtual 76, 3) := by decide +kernel
theorem dL_law_662 : decode cL_law 662 = .ok (.aload_n 2, 1) := by decide +kernel
theorem dL_law_663 : decode cL_law 663 = .ok (.aload_n 0, 1) := by decide +kernel
theorem dL_law_664 : decode cL_law 664 = .ok (.iload 4, 2) := by decide +kernel
theorem dL_law_666 : decode cL_law 666 = .ok (.iconst 1, 1) := by decide +kernel
theorem dL_law_667 : decode cL_law 667 = .ok (.iadd, 1) := by decide +kernel
theorem dL_law_668 : decode cL_law 668 = .ok (.iaload, 1) := by decide +kernel
theorem dL_law_669 : decode cL_law 669 = .ok (.aload_n 0, 1) := by decide +kernel
theorem dL_law_670 : decode cL_law 670 = .ok (.iload 4, 2) := by decide +kernel
theorem dL_law_672 : decode cL_law 672 = .ok (.iconst 2, 1) := by decide +kernel
theorem dL_law_673 : decode cL_law 673 = .ok (.iadd, 1) := by decide +kernel
theorem dL_law_674 : decode cL_law 674 = .ok (.iaload, 1) := by decide +kernel
theorem dL_law_675 : decode cL_law 675 = .ok (.invokevirtual 79, 3) := by decide +kernel
theorem dL_law_678 : decode cL_law 678 = .ok (.if_icmp .eq 377, 3) := by decide +kernel
theorem dL_law_681 : decode cL_law 681 = .ok (.iconst 0, 1) := by decide +kernel
theorem dL_law_682 : decode cL_law 682 = .ok (.ireturn, 1) := by decide +kernel
theorem dL_law_683 : decode cL_law 683 = .ok (.aload_n 1, 1) := by decide +kernel
theorem dL_law_684 : decode cL_law 684 = .ok (.aload_n 0, 1) := by decide +kernel
theorem dL_law_685 : decode cL_law 685 = .ok (.iload 4, 2) := by decide +kernel
theorem dL_law_687 : decode cL_law 687 = .ok (.iconst 1, 1) := by decide +kernel
theorem dL_law_688 : decode cL_law 688 = .ok (.iadd, 1) := by decide +kernel
theorem dL_law_689 : decode cL_law 689 = .ok (.iaload, 1) := by decide +kernel
theorem dL_law_690 : decode cL_law 690 = .ok (.aload_n 0, 1) := by decide +kernel
theorem dL_law_691 : decode cL_law 691 = .ok (.iload 4, 2) := by decide +kernel
theorem dL_law_693 : decode cL_law 693 = .ok (.iconst 2, 1) := by decide +kernel
theorem dL_law_694 : decode cL_law 694 = .ok (.iadd, 1) := by decide +kernel
theorem dL_law_695 : decode cL_law 695 = .ok (.iaload, 1) := by decide +kernel
theorem dL_law_696 : decode cL_law 696 = .ok (.invokevirtual 80, 3) := by decide +kernel
theorem dL_law_699 : decode cL_law 699 = .ok (.aload_n 2, 1) := by decide +kernel
theorem dL_law_700 : decode cL_law 700 = .ok (.aload_n 0, 1) := by decide +kernel
theorem dL_law_701 : decode cL_law 701 = .ok (.iload 4, 2) := by decide +kernel
theorem dL_law_703 : decode cL_law 703 = .ok (.iconst 1, 1) := by decide +kernel
theorem dL_law_704 : decode cL_law 704 = .ok (.iadd, 1) := by decide +kernel
theorem dL_law_705 : decode cL_law 705 = .ok (.iaload, 1) := by decide +kernel
theorem dL_law_706 : decode cL_law 706 = .ok (.aload_n 0, 1) := by decide +kernel
theorem dL_law_707 : decode cL_law 707 = .ok (.iload 4, 2) := by decide +kernel
theorem dL_law_709 : decode cL_law 709 = .ok (.iconst 2, 1) := by decide +kernel
theorem dL_law_710 : decode cL_law 710 = .ok (.iadd, 1) := by decide +kernel
theorem dL_law_711 : decode cL_law 711 = .ok (.iaload, 1) := by decide +kernel
theorem dL_law_712 : decode cL_law 712 = .ok (.invokevirtual 83, 3) := by decide +kernel
theorem dL_law_715 : decode cL_law 715 = .ok (.if_icmp .eq 340, 3) := by decide +kernel
theorem dL_law_718 : decode cL_law 718 = .ok (.iconst 0, 1) := by decide +kernel
theorem dL_law_719 : decode cL_law 719 = .ok (.ireturn, 1) := by decide +kernel
theorem dL_law_720 : decode cL_law 720 = .ok (.aload_n 1, 1) := by decide +kernel
theorem dL_law_721 : decode cL_law 721 = .ok (.aload_n 0, 1) := by decide +kernel
theorem dL_law_722 : decode cL_law 722 = .ok (.iload 4, 2) := by decide +kernel
theorem dL_law_724 : decode cL_law 724 = .ok (.iconst 1, 1) := by decide +kernel
theorem dL_law_725 : decode cL_law 725 = .ok (.iadd, 1) := by decide +kernel
theorem dL_law_726 : decode cL_law 726 = .ok (.iaload, 1) := by decide +kernel
theorem dL_law_727 : decode cL_law 727 = .ok (.invokevirtual 84, 3) := by decide +kernel
theorem dL_law_730 : decode cL_law 730 = .ok (.aload_n 2, 1) := by decide +kernel
theorem dL_law_731 : decode cL_law 731 = .ok (.aload_n 0, 1) := by decide +kernel
theorem dL_law_732 : decode cL_law 732 = .ok (.iload 4, 2) := by decide +kernel
theorem dL_law_734 : decode cL_law 734 = .ok (.iconst 1, 1) := by decide +kernel
theorem dL_law_735 : decode cL_law 735 = .ok (.iadd, 1) := by decide +kernel
theorem dL_law_736 : decode cL_law 736 = .ok (.iaload, 1) := by decide +kernel
theorem dL_law_737 : decode cL_law 737 = .ok (.invokevirtual 87, 3) := by decide +kernel
theorem dL_law_740 : decode cL_law 740 = .ok (.if_icmp .eq 315, 3) := by decide +kernel
theorem dL_law_743 : decode cL_law 743 = .ok (.iconst 0, 1) := by decide +kernel
theorem dL_law_744 : decode cL_law 744 = .ok (.ireturn, 1) := by decide +kernel
theorem dL_law_745 : decode cL_law 745 = .ok (.aload_n 1, 1) := by decide +kernel
theorem dL_law_746 : decode cL_law 746 = .ok (.aload_n 0, 1) := by decide +kernel
theorem dL_law_747 : decode cL_law 747 = .ok (.iload 4, 2) := by decide +kernel
theorem dL_law_749 : decode cL_law 749 = .ok (.iconst 1, 1) := by decide +kernel
theorem dL_law_750 : decode cL_law 750 = .ok (.iadd, 1) := by decide +kernel
theorem dL_law_751 : decode cL_law 751 = .ok (.iaload, 1) := by decide +kernel
theorem dL_law_752 : decode cL_law 752 = .ok (.invokevirtual 88, 3) := by decide +kernel
theorem dL_law_755 : decode cL_law 755 = .ok (.aload_n 2, 1) := by decide +kernel
theorem dL_law_756 : decode cL_law 756 = .ok (.aload_n 0, 1) := by decide +kernel
theorem dL_law_757 : decode cL_law 757 = .ok (.iload 4, 2) := by decide +kernel
theorem dL_law_759 : decode cL_law 759 = .ok (.iconst 1, 1) := by decide +kernel
theorem dL_law_760 : decode cL_law 760 = .ok (.iadd, 1) := by decide +kernel
theorem dL_law_761 : decode cL_law 761 = .ok (.iaload, 1) := by decide +kernel
theorem dL_law_762 : decode cL_law 762 = .ok (.invokevirtual 91, 3) := by decide +kernel
theorem dL_law_765 : decode cL_law 765 = .ok (.if_icmp .eq 290, 3) := by decide +kernel
theorem dL_law_768 : decode cL_law 768 = .ok (.iconst 0, 1) := by decide +kernel
theorem dL_law_769 : decode cL_law 769 = .ok (.ireturn, 1) := by decide +kernel
theorem dL_law_770 : decode cL_law 770 = .ok (.aload_n 1, 1) := by decide +kernel
theorem dL_law_771 : decode cL_law 771 = .ok (.aload_n 0, 1) := by decide +kernel
theorem dL_law_772 : decode cL_law 772 = .ok (.iload 4, 2) := by decide +kernel
theorem dL_law_774 : decode cL_law 774 = .ok (.iconst 1, 1) := by decide +kernel
theorem dL_law_775 : decode cL_law 775 = .ok (.iadd, 1) := by decide +kernel
theorem dL_law_776 : decode cL_law 776 = .ok (.iaload, 1) := by decide +kernel
theorem dL_law_777 : decode cL_law 777 = .ok (.invokevirtual 92, 3) := by decide +kernel
theorem dL_law_780 : decode cL_law 780 = .ok (.aload_n 2, 1) := by decide +kernel
theorem dL_law_781 : decode cL_law 781 = .ok (.aload_n 0, 1) := by decide +kernel
theorem dL_law_782 : decode cL_law 782 = .ok (.iload 4, 2) := by decide +kernel
theorem dL_law_784 : decode cL_law 784 = .ok (.iconst 1, 1) := by decide +kernel
theorem dL_law_785 : decode cL_law 785 = .ok (.iadd, 1) := by decide +kernel
theorem dL_law_786 : decode cL_law 786 = .ok (.iaload, 1) := by decide +kernel
theorem dL_law_787 : decode cL_law 787 = .ok (.invokevirtual 95, 3) := by decide +kernel
theorem dL_law_790 : decode cL_law 790 = .ok (.if_icmp .eq 265, 3) := by decide +kernel
theorem dL_law_793 : decode cL_law 793 = .ok (.iconst 0, 1) := by decide +kernel
theorem dL_law_794 : decode cL_law 794 = .ok (.ireturn, 1) := by decide +kernel
theorem dL_law_795 : decode cL_law 795 = .ok (.aload_n 1, 1) := by decide +kernel
theorem dL_law_796 : decode cL_law 796 = .ok (.invokevirtual 96, 3) := by decide +kernel
theorem dL_law_799 : decode cL_law 799 = .ok (.aload_n 2, 1) := by decide +kernel
theorem dL_law_800 : decode cL_law 800 = .ok (.invokevirtual 99, 3) := by decide +kernel
theorem dL_law_803 : decode cL_law 803 = .ok (.if_icmp .eq 252, 3) := by decide +kernel
theorem dL_law_806 : decode cL_law 806 = .ok (.iconst 0, 1) := by decide +kernel
theorem dL_law_807 : decode cL_law 807 = .ok (.ireturn, 1) := by decide +kernel
theorem dL_law_808 : decode cL_law 808 = .ok (.aload_n 1, 1) := by decide +kernel
theorem dL_law_809 : decode cL_law 809 = .ok (.invokevirtual 100, 3) := by decide +kernel
theorem dL_law_812 : decode cL_law 812 = .ok (.aload_n 2, 1) := by decide +kernel
theorem dL_law_813 : decode cL_law 813 = .ok (.invokevirtual 103, 3) := by decide +kernel
theorem dL_law_816 : decode cL_law 816 = .ok (.if_icmp .eq 239, 3) := by decide +kernel
theorem dL_law_819 : decode cL_law 819 = .ok (.iconst 0, 1) := by decide +kernel
theorem dL_law_820 : decode cL_law 820 = .ok (.ireturn, 1) := by decide +kernel
theorem dL_law_821 : decode cL_law 821 = .ok (.aload_n 1, 1) := by decide +kernel
theorem dL_law_822 : decode cL_law 822 = .ok (.aload_n 0, 1) := by decide +kernel
theorem dL_law_823 : decode cL_law 823 = .ok (.iload 4, 2) := by decide +kernel
theorem dL_law_825 : decode cL_law 825 = .ok (.iconst 1, 1) := by decide +kernel
theorem dL_law_826 : decode cL_law 826 = .ok (.iadd, 1) := by decide +kernel
theorem dL_law_827 : decode cL_law 827 = .ok (.iaload, 1) := by decide +kernel
theorem dL_law_828 : decode cL_law 828 = .ok (.invokevirtual 104, 3) := by decide +kernel
theorem dL_law_831 : decode cL_law 831 = .ok (.aload_n 2, 1) := by decide +kernel
theorem dL_law_832 : decode cL_law 832 = .ok (.aload_n 0, 1) := by decide +kernel
theorem dL_law_833 : decode cL_law 833 = .ok (.iload 4, 2) := by decide +kernel
theorem dL_law_835 : decode cL_law 835 = .ok (.iconst 1, 1) := by decide +kernel
theorem dL_law_836 : decode cL_law 836 = .ok (.iadd, 1) := by decide +kernel
theorem dL_law_837 : decode cL_law 837 = .ok (.iaload, 1) := by decide +kernel
theorem dL_law_838 : decode cL_law 838 = .ok (.invokevirtual 107, 3) := by decide +kernel
theorem dL_law_841 : decode cL_law 841 = .ok (.if_icmp .eq 214, 3) := by decide +kernel
theorem dL_law_844 : decode cL_law 844 = .ok (.iconst 0, 1) := by decide +kernel
theorem dL_law_845 : decode cL_law 845 = .ok (.ireturn, 1) := by decide +kernel
theorem dL_law_846 : decode cL_law 846 = .ok (.aload_n 1, 1) := by decide +kernel
theorem dL_law_847 : decode cL_law 847 = .ok (.aload_n 0, 1) := by decide +kernel
theorem dL_law_848 : decode cL_law 848 = .ok (.iload 4, 2) := by decide +kernel
theorem dL_law_850 : decode cL_law 850 = .ok (.iconst 1, 1) := by decide +kernel
theorem dL_law_851 : decode cL_law 851 = .ok (.iadd, 1) := by decide +kernel
theorem dL_law_852 : decode cL_law 852 = .ok (.iaload, 1) := by decide +kernel
theorem dL_law_853 : decode cL_law 853 = .ok (.aload_n 3, 1) := by decide +kernel
theorem dL_law_854 : decode cL_law 854 = .ok (.invokestatic 108, 3) := by decide +kernel
theorem dL_law_857 : decode cL_law 857 = .ok (.istore 5, 2) := by decide +kernel
theorem dL_law_859 : decode cL_law 859 = .ok (.aload_n 2, 1) := by decide +kernel
theorem dL_law_860 : decode cL_law 860 = .ok (.aload_n 0, 1) := by decide +kernel
theorem dL_law_861 : decode cL_law 861 = .ok (.iload 4, 2) := by decide +kernel
theorem dL_law_863 : decode cL_law 863 = .ok (.iconst 1, 1) := by decide +kernel
theorem dL_law_864 : decode cL_law 864 = .ok (.iadd, 1) := by decide +kernel
theorem dL_law_865 : decode cL_law 865 = .ok (.iaload, 1) := by decide +kernel
theorem dL_law_866 : decode cL_law 866 = .ok (.invokevirtual 111, 3) := by decide +kernel
theorem dL_law_869 : decode cL_law 869 = .ok (.istore 6, 2) := by decide +kernel
theorem dL_law_871 : decode cL_law 871 = .ok (.aload_n 2, 1) := by decide +kernel
theorem dL_law_872 : decode cL_law 872 = .ok (.invokevirtual 51, 3) := by decide +kernel
theorem dL_law_875 : decode cL_law 875 = .ok (.iload 5, 2) := by decide +kernel
theorem dL_law_877 : decode cL_law 877 = .ok (.if_icmp .eq 5, 3) := by decide +kernel
theorem dL_law_880 : decode cL_law 880 = .ok (.iconst 0, 1) := by decide +kernel
theorem dL_law_881 : decode cL_law 881 = .ok (.ireturn, 1) := by decide +kernel
theorem dL_law_882 : decode cL_law 882 = .ok (.iload 5, 2) := by decide +kernel
theorem dL_law_884 : decode cL_law 884 = .ok (.ifCond .ne 15, 3) := by decide +kernel
theorem dL_law_887 : decode cL_law 887 = .ok (.aload_n 3, 1) := by decide +kernel
theorem dL_law_888 : decode cL_law 888 = .ok (.iconst 0, 1) := by decide +kernel
theorem dL_law_889 : decode cL_law 889 = .ok (.laload, 1) := by decide +kernel
theorem dL_law_890 : decode cL_law 890 = .ok (.iload 6, 2) := by decide +kernel
theorem dL_law_892 : decode cL_law 892 = .ok (.i2l, 1) := by decide +kernel
theorem dL_law_893 : decode cL_law 893 = .ok (.lcmp, 1) := by decide +kernel
theorem dL_law_894 : decode cL_law 894 = .ok (.ifCond .eq 5, 3) := by decide +kernel
theorem dL_law_897 : decode cL_law 897 = .ok (.iconst 0, 1) := by decide +kernel
theorem dL_law_898 : decode cL_law 898 = .ok (.ireturn, 1) := by decide +kernel
theorem dL_law_899 : decode cL_law 899 = .ok (.goto 156, 3) := by decide +kernel
theorem dL_law_902 : decode cL_law 902 = .ok (.aload_n 1, 1) := by decide +kernel
theorem dL_law_903 : decode cL_law 903 = .ok (.aload_n 0, 1) := by decide +kernel
theorem dL_law_904 : decode cL_law 904 = .ok (.iload 4, 2) := by decide +kernel
theorem dL_law_906 : decode cL_law 906 = .ok (.iconst 1, 1) := by decide +kernel
theorem dL_law_907 : decode cL_law 907 = .ok (.iadd, 1) := by decide +kernel
theorem dL_law_908 : decode cL_law 908 = .ok (.iaload, 1) := by decide +kernel
theorem dL_law_909 : decode cL_law 909 = .ok (.aload_n 0, 1) := by decide +kernel
theorem dL_law_910 : decode cL_law 910 = .ok (.iload 4, 2) := by decide +kernel
theorem dL_law_912 : decode cL_law 912 = .ok (.iconst 2, 1) := by decide +kernel
theorem dL_law_913 : decode cL_law 913 = .ok (.iadd, 1) := by decide +kernel
theorem dL_law_914 : decode cL_law 914 = .ok (.iaload, 1) := by decide +kernel
theorem dL_law_915 : decode cL_law 915 = .ok (.invokevirtual 112, 3) := by decide +kernel
theorem dL_law_918 : decode cL_law 918 = .ok (.aload_n 2, 1) := by decide +kernel
theorem dL_law_919 : decode cL_law 919 = .ok (.aload_n 0, 1) := by decide +kernel
theorem dL_law_920 : decode cL_law 920 = .ok (.iload 4, 2) := by decide +kernel
theorem dL_law_922 : decode cL_law 922 = .ok (.iconst 1, 1) := by decide +kernel
theorem dL_law_923 : decode cL_law 923 = .ok (.iadd, 1) := by decide +kernel
theorem dL_law_924 : decode cL_law 924 = .ok (.iaload, 1) := by decide +kernel
theorem dL_law_925 : decode cL_law 925 = .ok (.aload_n 0, 1) := by decide +kernel
theorem dL_law_926 : decode cL_law 926 = .ok (.iload 4, 2) := by decide +kernel
theorem dL_law_928 : decode cL_law 928 = .ok (.iconst 2, 1) := by decide +kernel
theorem dL_law_929 : decode cL_law 929 = .ok (.iadd, 1) := by decide +kernel
theorem dL_law_930 : decode cL_law 930 = .ok (.iaload, 1) := by decide +kernel
theorem dL_law_931 : decode cL_law 931 = .ok (.invokevirtual 115, 3) := by decide +kernel
theorem dL_law_934 : decode cL_law 934 = .ok (.if_icmp .eq 121, 3) := by decide +kernel
theorem dL_law_937 : decode cL_law 937 = .ok (.iconst 0, 1) := by decide +kernel
theorem dL_law_938 : decode cL_law 938 = .ok (.ireturn, 1) := by decide +kernel
theorem dL_law_939 : decode cL_law 939 = .ok (.aload_n 1, 1) := by decide +kernel
theorem dL_law_940 : decode cL_law 940 = .ok (.invokevirtual 116, 3) := by decide +kernel
theorem dL_law_943 : decode cL_law 943 = .ok (.aload_n 2, 1) := by decide +kernel
theorem dL_law_944 : decode cL_law 944 = .ok (.invokevirtual 119, 3) := by decide +kernel
theorem dL_law_947 : decode cL_law 947 = .ok (.if_icmp .eq 108, 3) := by decide +kernel
theorem dL_law_950 : decode cL_law 950 = .ok (.iconst 0, 1) := by decide +kernel
theorem dL_law_951 : decode cL_law 951 = .ok (.ireturn, 1) := by decide +kernel
theorem dL_law_952 : decode cL_law 952 = .ok (.aload_n 1, 1) := by decide +kernel
theorem dL_law_953 : decode cL_law 953 = .ok (.invokevirtual 120, 3) := by decide +kernel
theorem dL_law_956 : decode cL_law 956 = .ok (.aload_n 2, 1) := by decide +kernel
theorem dL_law_957 : decode cL_law 957 = .ok (.invokevirtual 123, 3) := by decide +kernel
theorem dL_law_960 : decode cL_law 960 = .ok (.if_icmp .eq 95, 3) := by decide +kernel
theorem dL_law_963 : decode cL_law 963 = .ok (.iconst 0, 1) := by decide +kernel
theorem dL_law_964 : decode cL_law 964 = .ok (.ireturn, 1) := by decide +kernel
theorem dL_law_965 : decode cL_law 965 = .ok (.aload_n 1, 1) := by decide +kernel
theorem dL_law_966 : decode cL_law 966 = .ok (.invokevirtual 124, 3) := by decide +kernel
theorem dL_law_969 : decode cL_law 969 = .ok (.aload_n 2, 1) := by decide +kernel
theorem dL_law_970 : decode cL_law 970 = .ok (.invokevirtual 127, 3) := by decide +kernel
theorem dL_law_973 : decode cL_law 973 = .ok (.if_icmp .eq 82, 3) := by decide +kernel
theorem dL_law_976 : decode cL_law 976 = .ok (.iconst 0, 1) := by decide +kernel
theorem dL_law_977 : decode cL_law 977 = .ok (.ireturn, 1) := by decide +kernel
theorem dL_law_978 : decode cL_law 978 = .ok (.aload_n 1, 1) := by decide +kernel
theorem dL_law_979 : decode cL_law 979 = .ok (.invokevirtual 128, 3) := by decide +kernel
theorem dL_law_982 : decode cL_law 982 = .ok (.aload_n 2, 1) := by decide +kernel
theorem dL_law_983 : decode cL_law 983 = .ok (.invokevirtual 131, 3) := by decide +kernel
theorem dL_law_986 : decode cL_law 986 = .ok (.if_icmp .eq 69, 3) := by decide +kernel
theorem dL_law_989 : decode cL_law 989 = .ok (.iconst 0, 1) := by decide +kernel
theorem dL_law_990 : decode cL_law 990 = .ok (.ireturn, 1) := by decide +kernel
theorem dL_law_991 : decode cL_law 991 = .ok (.aload_n 1, 1) := by decide +kernel
theorem dL_law_992 : decode cL_law 992 = .ok (.invokevirtual 132, 3) := by decide +kernel
theorem dL_law_995 : decode cL_law 995 = .ok (.aload_n 2, 1) := by decide +kernel
theorem dL_law_996 : decode cL_law 996 = .ok (.invokevirtual 135, 3) := by decide +kernel
theorem dL_law_999 : decode cL_law 999 = .ok (.if_icmp .eq 56, 3) := by decide +kernel
theorem dL_law_1002 : decode cL_law 1002 = .ok (.iconst 0, 1) := by decide +kernel
theorem dL_law_1003 : decode cL_law 1003 = .ok (.ireturn, 1) := by decide +kernel
theorem dL_law_1004 : decode cL_law 1004 = .ok (.aload_n 1, 1) := by decide +kernel
theorem dL_law_1005 : decode cL_law 1005 = .ok (.invokevirtual 136, 3) := by decide +kernel
theorem dL_law_1008 : decode cL_law 1008 = .ok (.aload_n 2, 1) := by decide +kernel
theorem dL_law_1009 : decode cL_law 1009 = .ok (.invokevirtual 139, 3) := by decide +kernel
theorem dL_law_1012 : decode cL_law 1012 = .ok (.if_icmp .eq 43, 3) := by decide +kernel
theorem dL_law_1015 : decode cL_law 1015 = .ok (.iconst 0, 1) := by decide +kernel
theorem dL_law_1016 : decode cL_law 1016 = .ok (.ireturn, 1) := by decide +kernel
theorem dL_law_1017 : decode cL_law 1017 = .ok (.aload_n 1, 1) := by decide +kernel
theorem dL_law_1018 : decode cL_law 1018 = .ok (.aload_n 0, 1) := by decide +kernel
theorem dL_law_1019 : decode cL_law 1019 = .ok (.iload 4, 2) := by decide +kernel
theorem dL_law_1021 : decode cL_law 1021 = .ok (.iconst 1, 1) := by decide +kernel
theorem dL_law_1022 : decode cL_law 1022 = .ok (.iadd, 1) := by decide +kernel
theorem dL_law_1023 : decode cL_law 1023 = .ok (.iaload, 1) := by decide +kernel
theorem dL_law_1024 : decode cL_law 1024 = .ok (.invokevirtual 140, 3) := by decide +kernel
theorem dL_law_1027 : decode cL_law 1027 = .ok (.aload_n 2, 1) := by decide +kernel
theorem dL_law_1028 : decode cL_law 1028 = .ok (.aload_n 0, 1) := by decide +kernel
theorem dL_law_1029 : decode cL_law 1029 = .ok (.iload 4, 2) := by decide +kernel
theorem dL_law_1031 : decode cL_law 1031 = .ok (.iconst 1, 1) := by decide +kernel
theorem dL_law_1032 : decode cL_law 1032 = .ok (.iadd, 1) := by decide +kernel
theorem dL_law_1033 : decode cL_law 1033 = .ok (.iaload, 1) := by decide +kernel
theorem dL_law_1034 : decode cL_law 1034 = .ok (.invokevirtual 143, 3) := by decide +kernel
theorem dL_law_1037 : decode cL_law 1037 = .ok (.if_icmp .eq 18, 3) := by decide +kernel
theorem dL_law_1040 : decode cL_law 1040 = .ok (.iconst 0, 1) := by decide +kernel
theorem dL_law_1041 : decode cL_law 1041 = .ok (.ireturn, 1) := by decide +kernel
theorem dL_law_1042 : decode cL_law 1042 = .ok (.aload_n 1, 1) := by decide +kernel
theorem dL_law_1043 : decode cL_law 1043 = .ok (.invokevirtual 144, 3) := by decide +kernel
theorem dL_law_1046 : decode cL_law 1046 = .ok (.aload_n 2, 1) := by decide +kernel
theorem dL_law_1047 : decode cL_law 1047 = .ok (.invokevirtual 147, 3) := by decide +kernel
theorem dL_law_1050 : decode cL_law 1050 = .ok (.if_icmp .eq 5, 3) := by decide +kernel
theorem dL_law_1053 : decode cL_law 1053 = .ok (.iconst 0, 1) := by decide +kernel
theorem dL_law_1054 : decode cL_law 1054 = .ok (.ireturn, 1) := by decide +kernel
theorem dL_law_1055 : decode cL_law 1055 = .ok (.iinc 4 6, 3) := by decide +kernel
theorem dL_law_1058 : decode cL_law 1058 = .ok (.goto (-1035), 3) := by decide +kernel
theorem dL_law_1061 : decode cL_law 1061 = .ok (.iconst 1, 1) := by decide +kernel
theorem dL_law_1062 : decode cL_law 1062 = .ok (.ireturn, 1) := by decide +kernel
end
section
/-! THE MACHINE OVER A FIXED LAYOUT: the class, the reference and the law's own row lie at known places behind b; what moves is numbers (S). -/
def dv_T : List Cond := lw_tbl.filter goodWord
theorem dv_T_in {w : Cond} {i : Nat} (h : lw_tbl[i]? = some w) (hg : goodWord w = true) : w ∈ dv_T := List.mem_filter.mpr ⟨List.mem_of_getElem? h, hg⟩
abbrev dv_S : Type := (Nat → Nat → Int32) × (Nat → Nat → Int32) × (Nat → Nat → Int64)
def dv_u {α : Type} (f : Nat → Nat → α) (a k : Nat) (v : α) : Nat → Nat → α := fun x y => if x = a ∧ y = k then v else f x y
theorem dv_u_eq {α : Type} (f : Nat → Nat → α) (a k : Nat) (v : α) : dv_u f a k v a k = v := by simp [dv_u]
theorem dv_u_ne {α : Type} (f : Nat → Nat → α) {a k x y : Nat} (v : α) (h : ¬ (x = a ∧ y = k)) : dv_u f a k v x y = f x y := by simp only [dv_u, if_neg h]
theorem dv_u_row {α : Type} (f : Nat → Nat → α) {a k x : Nat} (v : α) (h : x ≠ a) : dv_u f a k v x = f x := by funext y; simp [dv_u, h]
def dv_kd (a : Nat) : Nat :=
  if a < 25 then [7, 4, 10, 4, 10, 4, 10, 4, 10, 1, 10, 10, 10, 0, 11, 10, 10, 10, 10, 3, 10, 5, 10, 10, 13].getD a 99
  else if a < 185 then (if a % 2 = 1 then 4 else 10)
  else if a < 191 then [6, 10, 10, 2, 12, 13].getD (a - 185) 99
  else if a < 351 then (if a % 2 = 1 then 4 else 10)
  else if a < 354 then [2, 12, 13].getD (a - 351) 99
  else if a < 514 then (if a % 2 = 0 then 4 else 10)
  else [12, 10, 8, 9, 10, 10, 10, 10, 10, 10, 9, 10, 10, 9, 10, 10, 10, 10, 10, 9, 9, 12, 12, 9, 9, 9, 10, 10, 10, 11].getD (a - 514) 99
def dv_ln (a : Nat) : Nat :=
  if a < 25 then [0, 0, 200, 0, 24, 0, 24, 0, 24, 0, 24, 24, 24, 0, 60, 60, 60, 60, 60, 0, 20, 0, 80, 80, 80].getD a 0
  else if a < 185 then 24
  else if a < 191 then [0, 150, 150, 0, 80, 80].getD (a - 185) 0
  else if a < 351 then 24
  else if a < 354 then [0, 80, 80].getD (a - 351) 0
  else if a < 514 then 24
  else [80, 80, 0, 200, 20, 80, 80, 80, 150, 150, 1920, 24, 24, 720, 60, 60, 60, 60, 60, 24, 312, 80, 80, 1920, 1920, 1920, 80, 80, 80, 1].getD (a - 514) 0
def dv_nf (ci : Nat) : Nat := [6, 4, 3, 2, 3, 4, 3, 15, 38].getD ci 0
def dv_rf (a k : Nat) : Option Nat :=
  if dv_kd a = 4 then (if k = 0 then some (a + 1) else none)
  else if dv_kd a = 7 then ([1, 3, 5, 7, 9, 13, 19, 21, 185, 188, 351, 514, 515] : List Nat)[k]?
  else if dv_kd a = 8 then (if k = 2 then some 517 else if 7 ≤ k ∧ k < 16 then some (511 + k) else if 18 ≤ k ∧ k < 26 then some (509 + k) else if 28 ≤ k ∧ k < 36 then some (507 + k) else none)
  else if dv_kd a = 1 then (if k < 3 then some (10 + k) else none)
  else if dv_kd a = 0 then (if k < 5 then some (14 + k) else none)
  else if dv_kd a = 3 then (if k = 0 then some 20 else none)
  else if dv_kd a = 5 then (if k < 3 then some (22 + k) else none)
  else if dv_kd a = 6 then (if k < 2 then some (186 + k) else none)
  else if dv_kd a = 2 then (if k < 2 then some (a + 1 + k) else none)
  else none
def dv_ra (a j : Nat) : Nat := a + 1 + 2 * j
/-- a value's place is told from b on; 100000 is the script -/
def dv_tr (scr b : Nat) : Value → Value
  | .ref a => .ref (if a = 100000 then scr else b + a)
  | v => v
theorem dv_tr_cat (scr b : Nat) (v : Value) : (dv_tr scr b v).category = v.category := by cases v <;> rfl
def dv_fv (b : Nat) (S : dv_S) (a k : Nat) : Value := match dv_rf a k with
  | some t => .ref (b + t)
  | none => .int (S.1 a k)
def dv_fl (b : Nat) (S : dv_S) (a : Nat) : List Value := (List.range (dv_nf (dv_kd a))).map (dv_fv b S a)
def dv_cell (dA : Nat → ClassId) (b : Nat) (S : dv_S) (a : Nat) : va_E :=
  if dv_kd a < 9 then .inr (dv_kd a, dv_fl b S a)
  else if dv_kd a = 13 then .inl (dA 13, dv_ln a, .inr (.inr (.inr (.inr (fun j => some (b + dv_ra a j))))))
  else if dv_kd a = 11 then .inl (dA 11, dv_ln a, .inr (.inl (S.2.2 a)))
  else .inl (dA (dv_kd a), dv_ln a, .inl (S.2.1 a))
def dv_ad (b : Nat) : List Nat := (List.range 544).map (fun i => b + i)
def dv_ws (dA : Nat → ClassId) (b : Nat) (S : dv_S) : va_W := [] ++ va_pl (dv_ad b) (fun q => dv_cell dA b S (q - b))
def dv_tys (dA : Nat → ClassId) : List (ClassId × FieldType) := [(dA 9, .byte), (dA 10, .int), (dA 11, .long), (dA 12, .boolean), (dA 13, .object "NameHouse$Text")]
theorem dv_get (dA : Nat → ClassId) (b : Nat) (S : dv_S) {a : Nat} (h : a < 544) : ∃ k : Nat, (dv_ws dA b S)[k]? = some (b + a, dv_cell dA b S a) := by
  obtain ⟨k, hk⟩ := va_pl_get (X := []) (L := dv_ad b) (f := fun q => dv_cell dA b S (q - b)) (a := b + a) (List.mem_map.mpr ⟨a, List.mem_range.mpr h, rfl⟩)
  exact ⟨k, by rw [Nat.add_sub_cancel_left] at hk; exact hk⟩
theorem dv_D (dA : Nat → ClassId) (b : Nat) (S : dv_S) : va_D (fun q => b ≤ q) (dv_ws dA b S) := by
  have key : ∀ (i : Nat) (q : Nat × va_E), (dv_ws dA b S)[i]? = some q → q.1 = b + i := by
    intro i q h
    simp only [dv_ws, va_pl, dv_ad, List.nil_append, List.map_map, List.getElem?_map, Option.map_eq_some_iff] at h
    obtain ⟨j, hj, rfl⟩ := h
    rw [List.getElem?_eq_some_iff] at hj
    obtain ⟨hlt, hj⟩ := hj
    simp at hj
    simp [hj]
  refine ⟨fun i j p q hi hj h => ?_, fun k q hk => ?_⟩
  · have h1 := key i p hi
    have h2 := key j q hj
    omega
  · have h1 := key k q hk
    show b ≤ q.1
    omega
theorem dv_set {dA : Nat → ClassId} {b : Nat} {S S' : dv_S} {a k : Nat} {e : va_E} (h : a < 544) (hk : (dv_ws dA b S)[k]? = some (b + a, dv_cell dA b S a)) (he : dv_cell dA b S' a = e) (ho : ∀ x, x ≠ a → dv_cell dA b S' x = dv_cell dA b S x) : (dv_ws dA b S).set k (b + a, e) = dv_ws dA b S' := by
  have hk' : ([] ++ va_pl (dv_ad b) (fun q => dv_cell dA b S (q - b)))[k]? = some (b + a, (fun q => dv_cell dA b S (q - b)) (b + a)) := by
    show (dv_ws dA b S)[k]? = some (b + a, dv_cell dA b S (b + a - b))
    rw [Nat.add_sub_cancel_left]; exact hk
  have h1 := va_pl_set (e := e) (dv_D dA b S) (a := b + a) (List.mem_map.mpr ⟨a, List.mem_range.mpr h, rfl⟩) hk'
  show (dv_ws dA b S).set k (b + a, e) = _
  refine h1.trans ?_
  show [] ++ va_pl (dv_ad b) _ = [] ++ va_pl (dv_ad b) _
  simp only [List.nil_append, va_pl]
  refine List.map_congr_left fun q hq => ?_
  obtain ⟨i, -, rfl⟩ := List.mem_map.mp hq
  by_cases hi : i = a
  · subst hi
    rw [va_up_self, Nat.add_sub_cancel_left, he]
  · rw [va_up_ne _ _ (by omega), Nat.add_sub_cancel_left, ho i hi]
theorem dv_cell_o {dA : Nat → ClassId} {b : Nat} {S : dv_S} {a ci : Nat} (h : dv_kd a = ci) (h9 : ci < 9) : dv_cell dA b S a = .inr (ci, dv_fl b S a) := by
  subst h; simp only [dv_cell, if_pos h9]
theorem dv_cell_q {dA : Nat → ClassId} {b : Nat} {S : dv_S} {a : Nat} (h : dv_kd a = 13) : dv_cell dA b S a = .inl (dA 13, dv_ln a, .inr (.inr (.inr (.inr (fun j => some (b + dv_ra a j)))))) := by
  simp [dv_cell, h]
theorem dv_cell_l {dA : Nat → ClassId} {b : Nat} {S : dv_S} {a : Nat} (h : dv_kd a = 11) : dv_cell dA b S a = .inl (dA 11, dv_ln a, .inr (.inl (S.2.2 a))) := by
  simp [dv_cell, h]
theorem dv_cell_i {dA : Nat → ClassId} {b : Nat} {S : dv_S} {a t : Nat} (h : dv_kd a = t) (ht : t = 9 ∨ t = 10 ∨ t = 12) : dv_cell dA b S a = .inl (dA t, dv_ln a, .inl (S.2.1 a)) := by
  rcases ht with rfl | rfl | rfl <;> simp [dv_cell, h]
theorem dv_fl_at {b : Nat} {S : dv_S} {a k ci : Nat} (h : dv_kd a = ci) (hk : k < dv_nf ci) : (dv_fl b S a)[k]? = some (dv_fv b S a k) := by
  subst h; simp [dv_fl, hk]
theorem dv_fl_len {b : Nat} {S : dv_S} {a ci : Nat} (h : dv_kd a = ci) : (dv_fl b S a).length = dv_nf ci := by
  subst h; simp [dv_fl]
theorem dv_fl_set {b : Nat} {S : dv_S} {a k : Nat} {v : Int32} (hr : dv_rf a k = none) : (dv_fl b S a).set k (.int v) = dv_fl b (dv_u S.1 a k v, S.2) a := by
  apply List.ext_getElem?
  intro j
  by_cases hj : j = k
  · subst hj
    by_cases hl : j < dv_nf (dv_kd a)
    · rw [List.getElem?_set_self (by rw [dv_fl_len rfl]; exact hl), dv_fl_at rfl hl]
      simp [dv_fv, hr, dv_u]
    · rw [List.getElem?_eq_none (by simp [dv_fl]; omega), List.getElem?_eq_none (by simp [dv_fl]; omega)]
  · rw [List.getElem?_set_ne (Ne.symm hj)]
    by_cases hl : j < dv_nf (dv_kd a)
    · rw [dv_fl_at rfl hl, dv_fl_at rfl hl]
      simp [dv_fv, dv_u, hj]
    · rw [List.getElem?_eq_none (by simp [dv_fl]; omega), List.getElem?_eq_none (by simp [dv_fl]; omega)]
theorem dv_cell_F {dA : Nat → ClassId} {b : Nat} {S S' : dv_S} {x : Nat} (h1 : S'.1 x = S.1 x) (h2 : S'.2.1 x = S.2.1 x) (h3 : S'.2.2 x = S.2.2 x) : dv_cell dA b S' x = dv_cell dA b S x := by
  simp only [dv_cell, dv_fl, h2, h3]
  have : dv_fv b S' x = dv_fv b S x := by funext k; simp [dv_fv, h1]
  rw [this]
theorem dv_ln_lt (a : Nat) : dv_ln a < 2 ^ 31 := by
  have key : ∀ (l : List Nat) (i : Nat), (∀ x ∈ l, x ≤ 1920) → l.getD i 0 ≤ 1920 := by
    intro l i h
    rw [List.getD_eq_getElem?_getD]
    cases hq : l[i]? with
    | none => simp
    | some x => exact h x (List.mem_of_getElem? hq)
  have : dv_ln a ≤ 1920 := by
    unfold dv_ln
    split
    · exact key _ _ (by decide)
    · split
      · decide
      · split
        · exact key _ _ (by decide)
        · split
          · decide
          · split
            · exact key _ _ (by decide)
            · split
              · decide
              · exact key _ _ (by decide)
  omega
/-- locals: by their places; what isn't known or is a second half is none -/
def dv_pr (scr b : Nat) : Nat → List (Option Value) → List (Nat × Value)
  | _, [] => []
  | i, none :: l => dv_pr scr b (i + 1) l
  | i, some v :: l => (i, dv_tr scr b v) :: dv_pr scr b (i + 1) l
theorem dv_pr_in {scr b : Nat} : ∀ (l : List (Option Value)) (j i : Nat) (v : Value), l[i]? = some (some v) → (j + i, dv_tr scr b v) ∈ dv_pr scr b j l
  | [], j, i, v, h => by simp at h
  | x :: l, j, 0, v, h => by
    have hx : x = some v := by simpa using h
    subst hx
    simp [dv_pr]
  | x :: l, j, i + 1, v, h => by
    have h1 : l[i]? = some (some v) := by simpa using h
    have h2 := dv_pr_in (scr := scr) (b := b) l (j + 1) i v h1
    rw [show j + 1 + i = j + (i + 1) by omega] at h2
    cases x with
    | none => exact h2
    | some w => exact List.mem_cons_of_mem _ h2
theorem dv_pr_of {scr b : Nat} : ∀ (l : List (Option Value)) (j : Nat) (q : Nat × Value), q ∈ dv_pr scr b j l → ∃ (i : Nat) (v : Value), q = (j + i, dv_tr scr b v) ∧ l[i]? = some (some v)
  | [], j, q, h => by simp [dv_pr] at h
  | none :: l, j, q, h => by
    obtain ⟨i, v, h1, h2⟩ := dv_pr_of l (j + 1) q h
    exact ⟨i + 1, v, by rw [h1, show j + 1 + i = j + (i + 1) by omega], by simpa using h2⟩
  | some w :: l, j, q, h => by
    rcases List.mem_cons.mp h with h | h
    · exact ⟨0, w, h, by simp⟩
    · obtain ⟨i, v, h1, h2⟩ := dv_pr_of l (j + 1) q h
      exact ⟨i + 1, v, by rw [h1, show j + 1 + i = j + (i + 1) by omega], by simpa using h2⟩
def dv_lr (scr b : Nat) (ls : Array Slot) (n : Nat) (l : List (Option Value)) : Prop := lv_has ls n (dv_pr scr b 0 l)
/-- no long stands just ahead of place i -/
def dv_ok (l : List (Option Value)) (i : Nat) : Bool := match i with
  | 0 => true
  | j + 1 => match l[j]? with
    | some (some (.long _)) => false
    | some (some (.double _)) => false
    | _ => true
theorem dv_ok_spec {l : List (Option Value)} {j : Nat} {v : Value} (h : dv_ok l (j + 1) = true) (hj : l[j]? = some (some v)) : v.category = 1 := by
  simp only [dv_ok, hj] at h
  cases v <;> first | rfl | cases h
theorem dv_lr_at {scr b n i : Nat} {ls : Array Slot} {l : List (Option Value)} {v : Value} (h : dv_lr scr b ls n l) (hv : l[i]? = some (some v)) : ls[i]? = some (.val (dv_tr scr b v)) := by
  have h1 := h.2.2 _ (dv_pr_in l 0 i v hv)
  simpa using h1
theorem dv_lr_set {scr b n i : Nat} {ls' : Array Slot} {l : List (Option Value)} {v : Value} (h : lv_has ls' n ((i, dv_tr scr b v) :: (dv_pr scr b 0 l).filter (fun q => !(q.1 == i) && !(q.1 + 1 == i && q.2.category == 2)))) (hok : dv_ok l i = true) : dv_lr scr b ls' n (l.set i (some v)) := by
  refine ⟨h.1, h.2.1, fun q hq => h.2.2 q ?_⟩
  obtain ⟨j, w, rfl, hj⟩ := dv_pr_of _ _ _ hq
  rw [Nat.zero_add] at *
  by_cases hji : j = i
  · subst hji
    rw [List.getElem?_set_self (by have := (List.getElem?_eq_some_iff.mp hj).1; simpa using this)] at hj
    cases hj
    exact List.mem_cons_self
  · rw [List.getElem?_set_ne (Ne.symm hji)] at hj
    refine List.mem_cons_of_mem _ (List.mem_filter.mpr ⟨?_, ?_⟩)
    · have := dv_pr_in (scr := scr) (b := b) l 0 j w hj
      rwa [Nat.zero_add] at this
    · by_cases hj1 : j + 1 = i
      · subst hj1
        have := dv_ok_spec hok hj
        simp [dv_tr_cat, this]
      · simp [hji, hj1]
theorem dv_lr_set2 {scr b n i : Nat} {ls' : Array Slot} {l : List (Option Value)} {v : Value} (h : lv_has ls' n ((i, dv_tr scr b v) :: (dv_pr scr b 0 l).filter (fun q => !(q.1 == i) && (!(q.1 == i + 1) && !(q.1 + 1 == i && q.2.category == 2))))) (hok : dv_ok l i = true) : dv_lr scr b ls' n ((l.set i (some v)).set (i + 1) none) := by
  refine ⟨h.1, h.2.1, fun q hq => h.2.2 q ?_⟩
  obtain ⟨j, w, rfl, hj⟩ := dv_pr_of _ _ _ hq
  rw [Nat.zero_add] at *
  by_cases hj2 : j = i + 1
  · subst hj2
    rw [List.getElem?_set_self (by have := (List.getElem?_eq_some_iff.mp hj).1; simpa using this)] at hj
    cases hj
  rw [List.getElem?_set_ne (Ne.symm hj2)] at hj
  by_cases hji : j = i
  · subst hji
    rw [List.getElem?_set_self (by have := (List.getElem?_eq_some_iff.mp hj).1; simpa using this)] at hj
    cases hj
    exact List.mem_cons_self
  · rw [List.getElem?_set_ne (Ne.symm hji)] at hj
    refine List.mem_cons_of_mem _ (List.mem_filter.mpr ⟨?_, ?_⟩)
    · have := dv_pr_in (scr := scr) (b := b) l 0 j w hj
      rwa [Nat.zero_add] at this
    · by_cases hj1 : j + 1 = i
      · subst hj1
        have := dv_ok_spec hok hj
        simp [dv_tr_cat, this]; omega
      · simp [hji, hj1, hj2]
/-- the links between the class and its nested ones -/
def dv_NL : List (String × Nat × MethodName) := [(RX4, 34, yX7_isDigit), (RX4, 37, yX7_isLetter), (RX4, 40, yX7_isSmall), (RX4, 43, yX7_isGreat), (RX1, 57, yX7_smallOf), (RX1, 37, yX7_isDigit), (RX1, 68, yX7_isGreat), (RX1, 71, yX7_isSmall)]
def dv_nw (U : State) : Prop := ∀ q ∈ dv_NL, va_Nw (.methodLinkNest q.1 q.2.1 q.2.2 "NameHouse") U
theorem dv_nw.warm {s U : State} (hW : s.WarmedH U.vm) (h : dv_nw s) : dv_nw U := fun q hq => va_Nw.warmM hW (h q hq)
theorem dv_nw.same {s U : State} (hv : s.vm = U.vm) (h : dv_nw s) : dv_nw U := fun q hq => va_Nw.same rfl hv (h q hq)
def dv_L (S : dv_S) : Nat := (S.1 100000 0).toNatClampNeg
def dv_cx (y : MethodName) (cc : ByteArray) (n : Nat) (ret : Option FieldType) (scr b : Nat) (dC : Nat → ClassId) (dI : Nat → Nat → Nat) (dA : Nat → ClassId) (p : Program) (s : State) (m : MethodId) (args : Array Value) (meth : Method) (c : Code) : Prop :=
  p.tables.exec = Jvm.exec ∧ c.code = cc ∧ c.maxLocals = n ∧ meth.sig.returnType = ret ∧ meth.locks = false ∧ s.vm.findClass y.cls = some m.cls ∧ (∀ w ∈ dv_T, w.before args s = true) ∧ va_K (dC, dI) vwCl (dv_tys dA) s ∧ scr < b ∧ b ≤ s.heap.size ∧ dv_nw s
def dv_Q (dC : Nat → ClassId) (dI : Nat → Nat → Nat) (dA : Nat → ClassId) (scr b : Nat) (Q : Option Value → dv_S → Prop) : Array Value → State → Outcome → State → Prop := fun _ st oc t =>
  ∃ (r : Option Value) (S' : dv_S), oc = .returned (r.map (dv_tr scr b)) ∧ Q r S' ∧ va_P (dC, dI) vwCl (dv_ws dA b S') t.heap ∧ va_X scr (dv_L S') (S'.2.1 100000) t t.heap ∧ va_F (fun q => b ≤ q) st t
/-- from here on the method comes to its end with Q -/
def dv_J (y : MethodName) (cc : ByteArray) (n : Nat) (ret : Option FieldType) (R : Room) (cs ss pc : Nat) (l : List (Option Value)) (st : List Value) (S : dv_S) (Q : Option Value → dv_S → Prop) : Prop :=
  ∀ (la : Launch) (b scr : Nat) (dC : Nat → ClassId) (dI : Nat → Nat → Nat) (dA : Nat → ClassId) (p : Program) (e : Env) (s : State) (m : MethodId) (args : Array Value) (below : List Frame) (meth : Method) (c : Code) (H : Heap) (locs : List Loc) (ls : Array Slot),
    dv_cx y cc n ret scr b dC dI dA p s m args meth c → dv_lr scr b ls n l → va_P (dC, dI) vwCl (dv_ws dA b S) H → va_S (fun q => b ≤ q) s.heap H locs → va_X scr (dv_L S) (S.2.1 100000) s s.heap →
    W p la e R s m args below meth c H locs cs ss (MQ below (dv_Q dC dI dA scr b Q) args s R.cells R.slots (fun q => b ≤ q)) (F0 m pc ls (st.map (dv_tr scr b)))
abbrev dv_wm (y : MethodName) (cc : ByteArray) (n : Nat) (ret : Option FieldType) : List Cond := .code y cc n ret :: dv_T
/-- the method, called with av where S stands, returns with Q -/
def dv_M (y : MethodName) (cc : ByteArray) (n : Nat) (ret : Option FieldType) (R : Room) (av : List Value) (S : dv_S) (Q : Option Value → dv_S → Prop) : Prop :=
  ∀ (la : Launch) (b scr : Nat) (dC : Nat → ClassId) (dI : Nat → Nat → Nat) (dA : Nat → ClassId), scr < b →
    Met la y (dv_wm y cc n ret) R (va_Pc (av.map (dv_tr scr b)) (fun U => b ≤ U.heap.size ∧ va_K (dC, dI) vwCl (dv_tys dA) U ∧ va_P (dC, dI) vwCl (dv_ws dA b S) U.heap ∧ va_X scr (dv_L S) (S.2.1 100000) U U.heap ∧ dv_nw U)) (dv_Q dC dI dA scr b Q) R.cells R.slots (fun q => b ≤ q)
theorem dv_M_of {y : MethodName} {cc : ByteArray} {n : Nat} {ret : Option FieldType} {R : Room} {av : List Value} {S : dv_S} {Q : Option Value → dv_S → Prop} (l0 : List (Option Value)) (hy : plainName y.cls = true) (hn : ∀ scr b, (lg_sl (av.map (dv_tr scr b))).length ≤ n) (hl0 : ∀ scr b, lv_args 0 (av.map (dv_tr scr b)) = dv_pr scr b 0 l0)
    (k : dv_J y cc n ret R 0 0 0 l0 [] S Q) : dv_M y cc n ret R av S Q := by
  intro la b scr dC dI dA hsb
  refine Met.ofW (cc := cc) (maxL := n) (ret := ret) hy rfl ?_
  intro p e s m args below meth c s₁ B hml hv
  obtain ⟨rfl, hbs, hK, hP, hX, hnw⟩ := hv
  have hts := atoms_spec (ws := dv_wm y cc n ret) B.pre
  have hown : s.vm.findClass y.cls = some m.cls := findClass_of_methodNamed B.named
  have hl := lv_entry (av.map (dv_tr scr b)) (n := n) (hn scr b)
  rw [hl0 scr b] at hl
  rw [lg_entry_eq]
  exact k la b scr dC dI dA p e s m _ below meth c s.heap [] _ ⟨B.exec, B.bytes, hml, B.returns, B.notSynchronized, hown, fun w hw => hts w (List.mem_cons_of_mem _ hw), hK, hsb, hbs, hnw⟩ hl hP va_S.rf hX
end
section
section
variable {y : MethodName} {cc : ByteArray} {n : Nat} {ret : Option FieldType} {R : Room} {cs ss pc pc' : Nat} {l l' : List (Option Value)} {st : List Value} {S : dv_S} {Q : Option Value → dv_S → Prop}

theorem J_iconst {i : Int} {v : Int32} (hd : decode cc pc = .ok (.iconst i, 1)) (hp : pc + 1 = pc') (hv : Int32.ofInt i = v) (k : dv_J y cc n ret R cs ss pc' l (.int v :: st) S Q) : dv_J y cc n ret R cs ss pc l st S Q := by
  intro la b scr dC dI dA p e s m args below meth c H locs ls hc hl hP hS hX
  subst hp
  exact lv_iconst hc.1 hc.2.1 hd hv (k la b scr dC dI dA p e s m args below meth c H locs ls hc hl hP hS hX)

theorem J_bipush {i : Int} {v : Int32} (hd : decode cc pc = .ok (.bipush i, 2)) (hp : pc + 2 = pc') (hv : (Int8.ofInt i).toInt32 = v) (k : dv_J y cc n ret R cs ss pc' l (.int v :: st) S Q) : dv_J y cc n ret R cs ss pc l st S Q := by
  intro la b scr dC dI dA p e s m args below meth c H locs ls hc hl hP hS hX
  subst hp
  exact lv_bipush hc.1 hc.2.1 hd hv (k la b scr dC dI dA p e s m args below meth c H locs ls hc hl hP hS hX)

theorem J_sipush {i : Int} {v : Int32} (hd : decode cc pc = .ok (.sipush i, 3)) (hp : pc + 3 = pc') (hv : (Int16.ofInt i).toInt32 = v) (k : dv_J y cc n ret R cs ss pc' l (.int v :: st) S Q) : dv_J y cc n ret R cs ss pc l st S Q := by
  intro la b scr dC dI dA p e s m args below meth c H locs ls hc hl hP hS hX
  subst hp
  exact lv_sipush hc.1 hc.2.1 hd hv (k la b scr dC dI dA p e s m args below meth c H locs ls hc hl hP hS hX)

theorem J_lconst {i : Fin 2} {v : Int64} (hd : decode cc pc = .ok (.lconst i, 1)) (hp : pc + 1 = pc') (hv : Int64.ofNat (i : Nat) = v) (k : dv_J y cc n ret R cs ss pc' l (.long v :: st) S Q) : dv_J y cc n ret R cs ss pc l st S Q := by
  intro la b scr dC dI dA p e s m args below meth c H locs ls hc hl hP hS hX
  subst hp
  exact lv_lconst hc.1 hc.2.1 hd hv (k la b scr dC dI dA p e s m args below meth c H locs ls hc hl hP hS hX)

theorem J_iadd {x z : Int32} (hd : decode cc pc = .ok (.iadd, 1)) (hp : pc + 1 = pc') (k : dv_J y cc n ret R cs ss pc' l (.int (x + z) :: st) S Q) : dv_J y cc n ret R cs ss pc l (.int z :: .int x :: st) S Q := by
  intro la b scr dC dI dA p e s m args below meth c H locs ls hc hl hP hS hX
  subst hp
  exact lv_iadd hc.1 hc.2.1 hd (k la b scr dC dI dA p e s m args below meth c H locs ls hc hl hP hS hX)

theorem J_isub {x z : Int32} (hd : decode cc pc = .ok (.isub, 1)) (hp : pc + 1 = pc') (k : dv_J y cc n ret R cs ss pc' l (.int (x - z) :: st) S Q) : dv_J y cc n ret R cs ss pc l (.int z :: .int x :: st) S Q := by
  intro la b scr dC dI dA p e s m args below meth c H locs ls hc hl hP hS hX
  subst hp
  exact lv_isub hc.1 hc.2.1 hd (k la b scr dC dI dA p e s m args below meth c H locs ls hc hl hP hS hX)

theorem J_imul {x z : Int32} (hd : decode cc pc = .ok (.imul, 1)) (hp : pc + 1 = pc') (k : dv_J y cc n ret R cs ss pc' l (.int (x * z) :: st) S Q) : dv_J y cc n ret R cs ss pc l (.int z :: .int x :: st) S Q := by
  intro la b scr dC dI dA p e s m args below meth c H locs ls hc hl hP hS hX
  subst hp
  exact lv_imul hc.1 hc.2.1 hd (k la b scr dC dI dA p e s m args below meth c H locs ls hc hl hP hS hX)

theorem J_iand {x z : Int32} (hd : decode cc pc = .ok (.iand, 1)) (hp : pc + 1 = pc') (k : dv_J y cc n ret R cs ss pc' l (.int (x &&& z) :: st) S Q) : dv_J y cc n ret R cs ss pc l (.int z :: .int x :: st) S Q := by
  intro la b scr dC dI dA p e s m args below meth c H locs ls hc hl hP hS hX
  subst hp
  exact lv_iand hc.1 hc.2.1 hd (k la b scr dC dI dA p e s m args below meth c H locs ls hc hl hP hS hX)

theorem J_ior {x z : Int32} (hd : decode cc pc = .ok (.ior, 1)) (hp : pc + 1 = pc') (k : dv_J y cc n ret R cs ss pc' l (.int (x ||| z) :: st) S Q) : dv_J y cc n ret R cs ss pc l (.int z :: .int x :: st) S Q := by
  intro la b scr dC dI dA p e s m args below meth c H locs ls hc hl hP hS hX
  subst hp
  exact lv_ior hc.1 hc.2.1 hd (k la b scr dC dI dA p e s m args below meth c H locs ls hc hl hP hS hX)

theorem J_ishr {x z : Int32} (hd : decode cc pc = .ok (.ishr, 1)) (hp : pc + 1 = pc') (k : dv_J y cc n ret R cs ss pc' l (.int (x >>> (z &&& 31)) :: st) S Q) : dv_J y cc n ret R cs ss pc l (.int z :: .int x :: st) S Q := by
  intro la b scr dC dI dA p e s m args below meth c H locs ls hc hl hP hS hX
  subst hp
  exact lv_ishr hc.1 hc.2.1 hd (k la b scr dC dI dA p e s m args below meth c H locs ls hc hl hP hS hX)

theorem J_ishl {x z : Int32} (hd : decode cc pc = .ok (.ishl, 1)) (hp : pc + 1 = pc') (k : dv_J y cc n ret R cs ss pc' l (.int (x <<< (z &&& 31)) :: st) S Q) : dv_J y cc n ret R cs ss pc l (.int z :: .int x :: st) S Q := by
  intro la b scr dC dI dA p e s m args below meth c H locs ls hc hl hP hS hX
  subst hp
  exact lv_ishl hc.1 hc.2.1 hd (k la b scr dC dI dA p e s m args below meth c H locs ls hc hl hP hS hX)

theorem J_irem {x z : Int32} (hd : decode cc pc = .ok (.irem, 1)) (hp : pc + 1 = pc') (hne : ¬ z = 0) (k : dv_J y cc n ret R cs ss pc' l (.int (x - x / z * z) :: st) S Q) : dv_J y cc n ret R cs ss pc l (.int z :: .int x :: st) S Q := by
  intro la b scr dC dI dA p e s m args below meth c H locs ls hc hl hP hS hX
  subst hp
  exact lv_irem hc.1 hc.2.1 hd hne (k la b scr dC dI dA p e s m args below meth c H locs ls hc hl hP hS hX)

theorem J_ineg {x : Int32} (hd : decode cc pc = .ok (.ineg, 1)) (hp : pc + 1 = pc') (k : dv_J y cc n ret R cs ss pc' l (.int (-x) :: st) S Q) : dv_J y cc n ret R cs ss pc l (.int x :: st) S Q := by
  intro la b scr dC dI dA p e s m args below meth c H locs ls hc hl hP hS hX
  subst hp
  exact lv_ineg hc.1 hc.2.1 hd (k la b scr dC dI dA p e s m args below meth c H locs ls hc hl hP hS hX)

theorem J_ladd {x z : Int64} (hd : decode cc pc = .ok (.ladd, 1)) (hp : pc + 1 = pc') (k : dv_J y cc n ret R cs ss pc' l (.long (x + z) :: st) S Q) : dv_J y cc n ret R cs ss pc l (.long z :: .long x :: st) S Q := by
  intro la b scr dC dI dA p e s m args below meth c H locs ls hc hl hP hS hX
  subst hp
  exact lv_ladd hc.1 hc.2.1 hd (k la b scr dC dI dA p e s m args below meth c H locs ls hc hl hP hS hX)

theorem J_lmul {x z : Int64} (hd : decode cc pc = .ok (.lmul, 1)) (hp : pc + 1 = pc') (k : dv_J y cc n ret R cs ss pc' l (.long (x * z) :: st) S Q) : dv_J y cc n ret R cs ss pc l (.long z :: .long x :: st) S Q := by
  intro la b scr dC dI dA p e s m args below meth c H locs ls hc hl hP hS hX
  subst hp
  exact lv_lmul hc.1 hc.2.1 hd (k la b scr dC dI dA p e s m args below meth c H locs ls hc hl hP hS hX)

theorem J_land {x z : Int64} (hd : decode cc pc = .ok (.land, 1)) (hp : pc + 1 = pc') (k : dv_J y cc n ret R cs ss pc' l (.long (x &&& z) :: st) S Q) : dv_J y cc n ret R cs ss pc l (.long z :: .long x :: st) S Q := by
  intro la b scr dC dI dA p e s m args below meth c H locs ls hc hl hP hS hX
  subst hp
  exact lv_land hc.1 hc.2.1 hd (k la b scr dC dI dA p e s m args below meth c H locs ls hc hl hP hS hX)

theorem J_lshr {x : Int64} {z : Int32} (hd : decode cc pc = .ok (.lshr, 1)) (hp : pc + 1 = pc') (k : dv_J y cc n ret R cs ss pc' l (.long (x >>> (z.toInt64 &&& 63)) :: st) S Q) : dv_J y cc n ret R cs ss pc l (.int z :: .long x :: st) S Q := by
  intro la b scr dC dI dA p e s m args below meth c H locs ls hc hl hP hS hX
  subst hp
  exact lv_lshr hc.1 hc.2.1 hd rfl (k la b scr dC dI dA p e s m args below meth c H locs ls hc hl hP hS hX)

theorem J_i2l {x : Int32} (hd : decode cc pc = .ok (.i2l, 1)) (hp : pc + 1 = pc') (k : dv_J y cc n ret R cs ss pc' l (.long x.toInt64 :: st) S Q) : dv_J y cc n ret R cs ss pc l (.int x :: st) S Q := by
  intro la b scr dC dI dA p e s m args below meth c H locs ls hc hl hP hS hX
  subst hp
  exact lv_i2l hc.1 hc.2.1 hd rfl (k la b scr dC dI dA p e s m args below meth c H locs ls hc hl hP hS hX)

theorem J_l2i {x : Int64} (hd : decode cc pc = .ok (.l2i, 1)) (hp : pc + 1 = pc') (k : dv_J y cc n ret R cs ss pc' l (.int x.toInt32 :: st) S Q) : dv_J y cc n ret R cs ss pc l (.long x :: st) S Q := by
  intro la b scr dC dI dA p e s m args below meth c H locs ls hc hl hP hS hX
  subst hp
  exact lv_l2i hc.1 hc.2.1 hd rfl (k la b scr dC dI dA p e s m args below meth c H locs ls hc hl hP hS hX)

theorem J_i2b {x : Int32} (hd : decode cc pc = .ok (.i2b, 1)) (hp : pc + 1 = pc') (k : dv_J y cc n ret R cs ss pc' l (.int x.toInt8.toInt32 :: st) S Q) : dv_J y cc n ret R cs ss pc l (.int x :: st) S Q := by
  intro la b scr dC dI dA p e s m args below meth c H locs ls hc hl hP hS hX
  subst hp
  exact lv_i2b hc.1 hc.2.1 hd rfl (k la b scr dC dI dA p e s m args below meth c H locs ls hc hl hP hS hX)

theorem J_iload_n {x : Int32} {j : Fin 4} (hd : decode cc pc = .ok (.iload_n j, 1)) (hp : pc + 1 = pc') (hv : l[(j : Nat)]? = some (some (.int x))) (k : dv_J y cc n ret R cs ss pc' l (.int x :: st) S Q) : dv_J y cc n ret R cs ss pc l st S Q := by
  intro la b scr dC dI dA p e s m args below meth c H locs ls hc hl hP hS hX
  subst hp
  exact lv_iload_n hc.1 hc.2.1 hd rfl (dv_lr_at hl hv) (k la b scr dC dI dA p e s m args below meth c H locs ls hc hl hP hS hX)

theorem J_iload {x : Int32} {j : Nat} (hd : decode cc pc = .ok (.iload j, 2)) (hp : pc + 2 = pc') (hv : l[(j : Nat)]? = some (some (.int x))) (k : dv_J y cc n ret R cs ss pc' l (.int x :: st) S Q) : dv_J y cc n ret R cs ss pc l st S Q := by
  intro la b scr dC dI dA p e s m args below meth c H locs ls hc hl hP hS hX
  subst hp
  exact lv_iload hc.1 hc.2.1 hd (dv_lr_at hl hv) (k la b scr dC dI dA p e s m args below meth c H locs ls hc hl hP hS hX)

theorem J_lload_n {x : Int64} {j : Fin 4} (hd : decode cc pc = .ok (.lload_n j, 1)) (hp : pc + 1 = pc') (hv : l[(j : Nat)]? = some (some (.long x))) (k : dv_J y cc n ret R cs ss pc' l (.long x :: st) S Q) : dv_J y cc n ret R cs ss pc l st S Q := by
  intro la b scr dC dI dA p e s m args below meth c H locs ls hc hl hP hS hX
  subst hp
  exact lv_lload_n hc.1 hc.2.1 hd rfl (dv_lr_at hl hv) (k la b scr dC dI dA p e s m args below meth c H locs ls hc hl hP hS hX)

theorem J_lload {x : Int64} {j : Nat} (hd : decode cc pc = .ok (.lload j, 2)) (hp : pc + 2 = pc') (hv : l[(j : Nat)]? = some (some (.long x))) (k : dv_J y cc n ret R cs ss pc' l (.long x :: st) S Q) : dv_J y cc n ret R cs ss pc l st S Q := by
  intro la b scr dC dI dA p e s m args below meth c H locs ls hc hl hP hS hX
  subst hp
  exact lv_lload hc.1 hc.2.1 hd (dv_lr_at hl hv) (k la b scr dC dI dA p e s m args below meth c H locs ls hc hl hP hS hX)

theorem J_aload_n {a : Nat} {j : Fin 4} (hd : decode cc pc = .ok (.aload_n j, 1)) (hp : pc + 1 = pc') (hv : l[(j : Nat)]? = some (some (.ref a))) (k : dv_J y cc n ret R cs ss pc' l (.ref a :: st) S Q) : dv_J y cc n ret R cs ss pc l st S Q := by
  intro la b scr dC dI dA p e s m args below meth c H locs ls hc hl hP hS hX
  subst hp
  exact lv_aload_n hc.1 hc.2.1 hd rfl (dv_lr_at hl hv) (k la b scr dC dI dA p e s m args below meth c H locs ls hc hl hP hS hX)

theorem J_aload {a : Nat} {j : Nat} (hd : decode cc pc = .ok (.aload j, 2)) (hp : pc + 2 = pc') (hv : l[(j : Nat)]? = some (some (.ref a))) (k : dv_J y cc n ret R cs ss pc' l (.ref a :: st) S Q) : dv_J y cc n ret R cs ss pc l st S Q := by
  intro la b scr dC dI dA p e s m args below meth c H locs ls hc hl hP hS hX
  subst hp
  exact lv_aload hc.1 hc.2.1 hd (dv_lr_at hl hv) (k la b scr dC dI dA p e s m args below meth c H locs ls hc hl hP hS hX)

theorem J_istore_n {x : Int32} {i : Fin 4} {j : Nat} (hd : decode cc pc = .ok (.istore_n i, 1)) (hp : pc + 1 = pc') (hi : (i : Nat) = j) (hj : j < n) (hok : dv_ok l j = true) (hs : l.set j (some (.int x)) = l') (k : dv_J y cc n ret R cs ss pc' l' st S Q) : dv_J y cc n ret R cs ss pc l (.int x :: st) S Q := by
  intro la b scr dC dI dA p e s m args below meth c H locs ls hc hl hP hS hX
  subst hp
  subst hs
  exact lv_istore_n hc.1 hc.2.1 hd hi hl hj rfl (fun ls' hl' => k la b scr dC dI dA p e s m args below meth c H locs ls' hc (dv_lr_set (v := .int x) hl' hok) hP hS hX)

theorem J_istore {x : Int32} {j : Nat} (hd : decode cc pc = .ok (.istore j, 2)) (hp : pc + 2 = pc') (hj : j < n) (hok : dv_ok l j = true) (hs : l.set j (some (.int x)) = l') (k : dv_J y cc n ret R cs ss pc' l' st S Q) : dv_J y cc n ret R cs ss pc l (.int x :: st) S Q := by
  intro la b scr dC dI dA p e s m args below meth c H locs ls hc hl hP hS hX
  subst hp
  subst hs
  exact lv_istore hc.1 hc.2.1 hd hl hj rfl (fun ls' hl' => k la b scr dC dI dA p e s m args below meth c H locs ls' hc (dv_lr_set (v := .int x) hl' hok) hP hS hX)

theorem J_astore_n {a : Nat} {i : Fin 4} {j : Nat} (hd : decode cc pc = .ok (.astore_n i, 1)) (hp : pc + 1 = pc') (hi : (i : Nat) = j) (hj : j < n) (hok : dv_ok l j = true) (hs : l.set j (some (.ref a)) = l') (k : dv_J y cc n ret R cs ss pc' l' st S Q) : dv_J y cc n ret R cs ss pc l (.ref a :: st) S Q := by
  intro la b scr dC dI dA p e s m args below meth c H locs ls hc hl hP hS hX
  subst hp
  subst hs
  exact lv_astore_n hc.1 hc.2.1 hd hi hl hj rfl (fun ls' hl' => k la b scr dC dI dA p e s m args below meth c H locs ls' hc (dv_lr_set (v := .ref a) hl' hok) hP hS hX)

theorem J_astore {a : Nat} {j : Nat} (hd : decode cc pc = .ok (.astore j, 2)) (hp : pc + 2 = pc') (hj : j < n) (hok : dv_ok l j = true) (hs : l.set j (some (.ref a)) = l') (k : dv_J y cc n ret R cs ss pc' l' st S Q) : dv_J y cc n ret R cs ss pc l (.ref a :: st) S Q := by
  intro la b scr dC dI dA p e s m args below meth c H locs ls hc hl hP hS hX
  subst hp
  subst hs
  exact lv_astore hc.1 hc.2.1 hd hl hj rfl (fun ls' hl' => k la b scr dC dI dA p e s m args below meth c H locs ls' hc (dv_lr_set (v := .ref a) hl' hok) hP hS hX)

theorem J_lstore_n {x : Int64} {i : Fin 4} {j : Nat} (hd : decode cc pc = .ok (.lstore_n i, 1)) (hp : pc + 1 = pc') (hi : (i : Nat) = j) (hj : j + 1 < n) (hok : dv_ok l j = true) (hs : (l.set j (some (.long x))).set (j + 1) none = l') (k : dv_J y cc n ret R cs ss pc' l' st S Q) : dv_J y cc n ret R cs ss pc l (.long x :: st) S Q := by
  intro la b scr dC dI dA p e s m args below meth c H locs ls hc hl hP hS hX
  subst hp
  subst hs
  exact lv_lstore_n hc.1 hc.2.1 hd hi hl hj rfl (fun ls' hl' => k la b scr dC dI dA p e s m args below meth c H locs ls' hc (dv_lr_set2 (v := .long x) hl' hok) hP hS hX)

theorem J_lstore {x : Int64} {j : Nat} (hd : decode cc pc = .ok (.lstore j, 2)) (hp : pc + 2 = pc') (hj : j + 1 < n) (hok : dv_ok l j = true) (hs : (l.set j (some (.long x))).set (j + 1) none = l') (k : dv_J y cc n ret R cs ss pc' l' st S Q) : dv_J y cc n ret R cs ss pc l (.long x :: st) S Q := by
  intro la b scr dC dI dA p e s m args below meth c H locs ls hc hl hP hS hX
  subst hp
  subst hs
  exact lv_lstore hc.1 hc.2.1 hd hl hj rfl (fun ls' hl' => k la b scr dC dI dA p e s m args below meth c H locs ls' hc (dv_lr_set2 (v := .long x) hl' hok) hP hS hX)

theorem J_iinc {x v : Int32} {j : Nat} {i : Int} (hd : decode cc pc = .ok (.iinc j i, 3)) (hp : pc + 3 = pc') (hx : l[j]? = some (some (.int x))) (hv : x + Int32.ofInt i = v) (hj : j < n) (hok : dv_ok l j = true) (hs : l.set j (some (.int v)) = l') (k : dv_J y cc n ret R cs ss pc' l' st S Q) : dv_J y cc n ret R cs ss pc l st S Q := by
  intro la b scr dC dI dA p e s m args below meth c H locs ls hc hl hP hS hX
  subst hp
  subst hs
  obtain ⟨q, hq⟩ := List.getElem?_of_mem (dv_pr_in (scr := scr) (b := b) l 0 j (.int x) hx)
  rw [Nat.zero_add] at hq
  exact lv_iinc hc.1 hc.2.1 hd hl hq hv hj rfl (fun ls' hl' => k la b scr dC dI dA p e s m args below meth c H locs ls' hc (dv_lr_set (v := .int v) hl' hok) hP hS hX)

theorem J_dup {v : Value} (hd : decode cc pc = .ok (.dup, 1)) (hp : pc + 1 = pc') (hv : v.category = 1) (k : dv_J y cc n ret R cs ss pc' l (v :: v :: st) S Q) : dv_J y cc n ret R cs ss pc l (v :: st) S Q := by
  intro la b scr dC dI dA p e s m args below meth c H locs ls hc hl hP hS hX
  subst hp
  exact lv_dup hc.1 hc.2.1 hd (by rw [dv_tr_cat]; exact hv) (k la b scr dC dI dA p e s m args below meth c H locs ls hc hl hP hS hX)
theorem J_dup2 {v w : Value} (hd : decode cc pc = .ok (.dup2, 1)) (hp : pc + 1 = pc') (hv : v.category = 1) (hw : w.category = 1) (k : dv_J y cc n ret R cs ss pc' l (v :: w :: v :: w :: st) S Q) : dv_J y cc n ret R cs ss pc l (v :: w :: st) S Q := by
  intro la b scr dC dI dA p e s m args below meth c H locs ls hc hl hP hS hX
  subst hp
  exact lv_dup2_11 hc.1 hc.2.1 hd (by rw [dv_tr_cat]; exact hv) (by rw [dv_tr_cat]; exact hw) (k la b scr dC dI dA p e s m args below meth c H locs ls hc hl hP hS hX)
theorem J_top {v w : Value} (h : v = w) (k : dv_J y cc n ret R cs ss pc l (w :: st) S Q) : dv_J y cc n ret R cs ss pc l (v :: st) S Q := h ▸ k
theorem J_topi {x z : Int32} (h : x = z) (k : dv_J y cc n ret R cs ss pc l (.int z :: st) S Q) : dv_J y cc n ret R cs ss pc l (.int x :: st) S Q := h ▸ k
theorem J_loc (h : l = l') (k : dv_J y cc n ret R cs ss pc l' st S Q) : dv_J y cc n ret R cs ss pc l st S Q := h ▸ k
theorem J_sto {S' : dv_S} (h : S = S') (k : dv_J y cc n ret R cs ss pc l st S' Q) : dv_J y cc n ret R cs ss pc l st S Q := h ▸ k
theorem J_pop {v : Value} (hd : decode cc pc = .ok (.pop, 1)) (hp : pc + 1 = pc') (hv : v.category = 1) (k : dv_J y cc n ret R cs ss pc' l st S Q) : dv_J y cc n ret R cs ss pc l (v :: st) S Q := by
  intro la b scr dC dI dA p e s m args below meth c H locs ls hc hl hP hS hX
  subst hp
  exact lv_pop hc.1 hc.2.1 hd (by rw [dv_tr_cat]; exact hv) (k la b scr dC dI dA p e s m args below meth c H locs ls hc hl hP hS hX)
theorem J_goto {o : Int} (hd : decode cc pc = .ok (.goto o, 3)) (ht : (pc : Int) + o = (pc' : Int)) (k : dv_J y cc n ret R cs ss pc' l st S Q) : dv_J y cc n ret R cs ss pc l st S Q := by
  intro la b scr dC dI dA p e s m args below meth c H locs ls hc hl hP hS hX
  exact lv_goto hc.1 hc.2.1 hd ht (k la b scr dC dI dA p e s m args below meth c H locs ls hc hl hP hS hX)

theorem J_if_eq {x : Int32} {o : Int} {pt : Nat} (hd : decode cc pc = .ok (.ifCond .eq o, 3)) (ht : (pc : Int) + o = (pt : Int)) (hp : pc + 3 = pc') (kt : x = 0 → dv_J y cc n ret R cs ss pt l st S Q) (kf : ¬ x = 0 → dv_J y cc n ret R cs ss pc' l st S Q) : dv_J y cc n ret R cs ss pc l (.int x :: st) S Q := by
  intro la b scr dC dI dA p e s m args below meth c H locs ls hc hl hP hS hX
  subst hp
  exact lv_if_eq hc.1 hc.2.1 hd ht (fun q => kt q la b scr dC dI dA p e s m args below meth c H locs ls hc hl hP hS hX) (fun q => kf q la b scr dC dI dA p e s m args below meth c H locs ls hc hl hP hS hX)
theorem J_icmp_eq {x z : Int32} {o : Int} {pt : Nat} (hd : decode cc pc = .ok (.if_icmp .eq o, 3)) (ht : (pc : Int) + o = (pt : Int)) (hp : pc + 3 = pc') (kt : x = z → dv_J y cc n ret R cs ss pt l st S Q) (kf : ¬ x = z → dv_J y cc n ret R cs ss pc' l st S Q) : dv_J y cc n ret R cs ss pc l (.int z :: .int x :: st) S Q := by
  intro la b scr dC dI dA p e s m args below meth c H locs ls hc hl hP hS hX
  subst hp
  exact lv_icmp_eq hc.1 hc.2.1 hd ht (fun q => kt q la b scr dC dI dA p e s m args below meth c H locs ls hc hl hP hS hX) (fun q => kf q la b scr dC dI dA p e s m args below meth c H locs ls hc hl hP hS hX)

theorem J_if_ne {x : Int32} {o : Int} {pt : Nat} (hd : decode cc pc = .ok (.ifCond .ne o, 3)) (ht : (pc : Int) + o = (pt : Int)) (hp : pc + 3 = pc') (kt : ¬ x = 0 → dv_J y cc n ret R cs ss pt l st S Q) (kf : x = 0 → dv_J y cc n ret R cs ss pc' l st S Q) : dv_J y cc n ret R cs ss pc l (.int x :: st) S Q := by
  intro la b scr dC dI dA p e s m args below meth c H locs ls hc hl hP hS hX
  subst hp
  exact lv_if_ne hc.1 hc.2.1 hd ht (fun q => kt q la b scr dC dI dA p e s m args below meth c H locs ls hc hl hP hS hX) (fun q => kf q la b scr dC dI dA p e s m args below meth c H locs ls hc hl hP hS hX)
theorem J_icmp_ne {x z : Int32} {o : Int} {pt : Nat} (hd : decode cc pc = .ok (.if_icmp .ne o, 3)) (ht : (pc : Int) + o = (pt : Int)) (hp : pc + 3 = pc') (kt : ¬ x = z → dv_J y cc n ret R cs ss pt l st S Q) (kf : x = z → dv_J y cc n ret R cs ss pc' l st S Q) : dv_J y cc n ret R cs ss pc l (.int z :: .int x :: st) S Q := by
  intro la b scr dC dI dA p e s m args below meth c H locs ls hc hl hP hS hX
  subst hp
  exact lv_icmp_ne hc.1 hc.2.1 hd ht (fun q => kt q la b scr dC dI dA p e s m args below meth c H locs ls hc hl hP hS hX) (fun q => kf q la b scr dC dI dA p e s m args below meth c H locs ls hc hl hP hS hX)

theorem J_if_lt {x : Int32} {o : Int} {pt : Nat} (hd : decode cc pc = .ok (.ifCond .lt o, 3)) (ht : (pc : Int) + o = (pt : Int)) (hp : pc + 3 = pc') (kt : x < 0 → dv_J y cc n ret R cs ss pt l st S Q) (kf : ¬ x < 0 → dv_J y cc n ret R cs ss pc' l st S Q) : dv_J y cc n ret R cs ss pc l (.int x :: st) S Q := by
  intro la b scr dC dI dA p e s m args below meth c H locs ls hc hl hP hS hX
  subst hp
  exact lv_if_lt hc.1 hc.2.1 hd ht (fun q => kt q la b scr dC dI dA p e s m args below meth c H locs ls hc hl hP hS hX) (fun q => kf q la b scr dC dI dA p e s m args below meth c H locs ls hc hl hP hS hX)
theorem J_icmp_lt {x z : Int32} {o : Int} {pt : Nat} (hd : decode cc pc = .ok (.if_icmp .lt o, 3)) (ht : (pc : Int) + o = (pt : Int)) (hp : pc + 3 = pc') (kt : x < z → dv_J y cc n ret R cs ss pt l st S Q) (kf : ¬ x < z → dv_J y cc n ret R cs ss pc' l st S Q) : dv_J y cc n ret R cs ss pc l (.int z :: .int x :: st) S Q := by
  intro la b scr dC dI dA p e s m args below meth c H locs ls hc hl hP hS hX
  subst hp
  exact lv_icmp_lt hc.1 hc.2.1 hd ht (fun q => kt q la b scr dC dI dA p e s m args below meth c H locs ls hc hl hP hS hX) (fun q => kf q la b scr dC dI dA p e s m args below meth c H locs ls hc hl hP hS hX)

theorem J_if_ge {x : Int32} {o : Int} {pt : Nat} (hd : decode cc pc = .ok (.ifCond .ge o, 3)) (ht : (pc : Int) + o = (pt : Int)) (hp : pc + 3 = pc') (kt : 0 ≤ x → dv_J y cc n ret R cs ss pt l st S Q) (kf : ¬ 0 ≤ x → dv_J y cc n ret R cs ss pc' l st S Q) : dv_J y cc n ret R cs ss pc l (.int x :: st) S Q := by
  intro la b scr dC dI dA p e s m args below meth c H locs ls hc hl hP hS hX
  subst hp
  exact lv_if_ge hc.1 hc.2.1 hd ht (fun q => kt q la b scr dC dI dA p e s m args below meth c H locs ls hc hl hP hS hX) (fun q => kf q la b scr dC dI dA p e s m args below meth c H locs ls hc hl hP hS hX)
theorem J_icmp_ge {x z : Int32} {o : Int} {pt : Nat} (hd : decode cc pc = .ok (.if_icmp .ge o, 3)) (ht : (pc : Int) + o = (pt : Int)) (hp : pc + 3 = pc') (kt : z ≤ x → dv_J y cc n ret R cs ss pt l st S Q) (kf : ¬ z ≤ x → dv_J y cc n ret R cs ss pc' l st S Q) : dv_J y cc n ret R cs ss pc l (.int z :: .int x :: st) S Q := by
  intro la b scr dC dI dA p e s m args below meth c H locs ls hc hl hP hS hX
  subst hp
  exact lv_icmp_ge hc.1 hc.2.1 hd ht (fun q => kt q la b scr dC dI dA p e s m args below meth c H locs ls hc hl hP hS hX) (fun q => kf q la b scr dC dI dA p e s m args below meth c H locs ls hc hl hP hS hX)

theorem J_if_gt {x : Int32} {o : Int} {pt : Nat} (hd : decode cc pc = .ok (.ifCond .gt o, 3)) (ht : (pc : Int) + o = (pt : Int)) (hp : pc + 3 = pc') (kt : 0 < x → dv_J y cc n ret R cs ss pt l st S Q) (kf : ¬ 0 < x → dv_J y cc n ret R cs ss pc' l st S Q) : dv_J y cc n ret R cs ss pc l (.int x :: st) S Q := by
  intro la b scr dC dI dA p e s m args below meth c H locs ls hc hl hP hS hX
  subst hp
  exact lv_if_gt hc.1 hc.2.1 hd ht (fun q => kt q la b scr dC dI dA p e s m args below meth c H locs ls hc hl hP hS hX) (fun q => kf q la b scr dC dI dA p e s m args below meth c H locs ls hc hl hP hS hX)
theorem J_icmp_gt {x z : Int32} {o : Int} {pt : Nat} (hd : decode cc pc = .ok (.if_icmp .gt o, 3)) (ht : (pc : Int) + o = (pt : Int)) (hp : pc + 3 = pc') (kt : z < x → dv_J y cc n ret R cs ss pt l st S Q) (kf : ¬ z < x → dv_J y cc n ret R cs ss pc' l st S Q) : dv_J y cc n ret R cs ss pc l (.int z :: .int x :: st) S Q := by
  intro la b scr dC dI dA p e s m args below meth c H locs ls hc hl hP hS hX
  subst hp
  exact lv_icmp_gt hc.1 hc.2.1 hd ht (fun q => kt q la b scr dC dI dA p e s m args below meth c H locs ls hc hl hP hS hX) (fun q => kf q la b scr dC dI dA p e s m args below meth c H locs ls hc hl hP hS hX)

theorem J_if_le {x : Int32} {o : Int} {pt : Nat} (hd : decode cc pc = .ok (.ifCond .le o, 3)) (ht : (pc : Int) + o = (pt : Int)) (hp : pc + 3 = pc') (kt : x ≤ 0 → dv_J y cc n ret R cs ss pt l st S Q) (kf : ¬ x ≤ 0 → dv_J y cc n ret R cs ss pc' l st S Q) : dv_J y cc n ret R cs ss pc l (.int x :: st) S Q := by
  intro la b scr dC dI dA p e s m args below meth c H locs ls hc hl hP hS hX
  subst hp
  exact lv_if_le hc.1 hc.2.1 hd ht (fun q => kt q la b scr dC dI dA p e s m args below meth c H locs ls hc hl hP hS hX) (fun q => kf q la b scr dC dI dA p e s m args below meth c H locs ls hc hl hP hS hX)
theorem J_icmp_le {x z : Int32} {o : Int} {pt : Nat} (hd : decode cc pc = .ok (.if_icmp .le o, 3)) (ht : (pc : Int) + o = (pt : Int)) (hp : pc + 3 = pc') (kt : x ≤ z → dv_J y cc n ret R cs ss pt l st S Q) (kf : ¬ x ≤ z → dv_J y cc n ret R cs ss pc' l st S Q) : dv_J y cc n ret R cs ss pc l (.int z :: .int x :: st) S Q := by
  intro la b scr dC dI dA p e s m args below meth c H locs ls hc hl hP hS hX
  subst hp
  exact lv_icmp_le hc.1 hc.2.1 hd ht (fun q => kt q la b scr dC dI dA p e s m args below meth c H locs ls hc hl hP hS hX) (fun q => kf q la b scr dC dI dA p e s m args below meth c H locs ls hc hl hP hS hX)

/-- a truth as a number -/
def dv_b (c : Bool) : Int32 := if c then 1 else 0
theorem dv_b_0 {c : Bool} : dv_b c = 0 ↔ c = false := by cases c <;> decide
theorem dv_b_01 (c : Bool) : dv_b c = 0 ∨ dv_b c = 1 := by cases c <;> decide
theorem dv_b_t : dv_b true = 1 := rfl
theorem dv_b_f : dv_b false = 0 := rfl
theorem J_beq {q : Bool} {o : Int} {pt : Nat} (hd : decode cc pc = .ok (.ifCond .eq o, 3)) (ht : (pc : Int) + o = (pt : Int)) (hp : pc + 3 = pc') (kt : q = false → dv_J y cc n ret R cs ss pt l st S Q) (kf : q = true → dv_J y cc n ret R cs ss pc' l st S Q) : dv_J y cc n ret R cs ss pc l (.int (dv_b q) :: st) S Q := by
  refine J_if_eq hd ht hp (fun h => kt (dv_b_0.mp h)) (fun h => kf ?_)
  cases q with
  | false => exact absurd rfl h
  | true => rfl
theorem J_bne {q : Bool} {o : Int} {pt : Nat} (hd : decode cc pc = .ok (.ifCond .ne o, 3)) (ht : (pc : Int) + o = (pt : Int)) (hp : pc + 3 = pc') (kt : q = true → dv_J y cc n ret R cs ss pt l st S Q) (kf : q = false → dv_J y cc n ret R cs ss pc' l st S Q) : dv_J y cc n ret R cs ss pc l (.int (dv_b q) :: st) S Q := by
  refine J_if_ne hd ht hp (fun h => kt ?_) (fun h => kf ?_)
  · cases q with
    | false => exact absurd rfl h
    | true => rfl
  · cases q with
    | false => rfl
    | true => exact absurd h (by decide)

end
end
section
theorem dv_lt {a : Nat} (h : dv_kd a ≠ 99) : a < 544 := by
  refine Nat.lt_of_not_le fun q => h ?_
  unfold dv_kd
  rw [if_neg (by omega), if_neg (by omega), if_neg (by omega), if_neg (by omega), if_neg (by omega), if_neg (by omega)]
  rw [List.getD_eq_getElem?_getD, List.getElem?_eq_none (by simp; omega)]
  rfl
def dv_cl (ci : Nat) (C : String) (T : u_T) (N : Nat) : Prop := vwCl[ci]? = some (C, T, N) ∧ ci < 9 ∧ N = dv_nf ci ∧ (∀ w ∈ u_ws C T N, w ∈ dv_T) ∧ ∃ ty0 : Nat → FieldType, (∀ k, k < N → parseFieldDescriptor (T k).2.2.1 = some (ty0 k)) ∧ (∀ a, a < N → ∀ b, b < N → a ≠ b → (T a).2.1 ≠ (T b).2.1)
/-- entry idx of own's table is field k of class ci, of type ty -/
def dv_F (own : String) (idx ci k : Nat) (fin : Bool) (ty : FieldType) : Prop := ∃ (C : String) (T : u_T) (N : Nat), dv_cl ci C T N ∧ k < N ∧ Cond.fieldLink own idx (T k).1 (T k).2.1 (T k).2.2.1 ∈ dv_T ∧ (T k).2.2.2 = fin ∧ parseFieldDescriptor (T k).2.2.1 = some ty
theorem dv_tr_ref {scr b a : Nat} (h : a < 544) : dv_tr scr b (.ref a) = .ref (b + a) := by
  show Value.ref (if a = 100000 then scr else b + a) = _
  rw [if_neg (by omega)]
theorem dv_tr_scr {scr b : Nat} : dv_tr scr b (.ref 100000) = .ref scr := by
  show Value.ref (if 100000 = 100000 then scr else b + 100000) = _
  rw [if_pos rfl]
theorem dv_rf_lt {a k t : Nat} (h : dv_rf a k = some t) : t < 544 := by
  unfold dv_rf at h
  split at h
  · rename_i h4
    split at h
    · cases h
      have h1 := dv_lt (a := a) (by rw [h4]; decide)
      have : ¬ a = 543 := fun q => by subst q; exact absurd h4 (by decide)
      omega
    · cases h
  · split at h
    · have := List.mem_of_getElem? h
      revert this
      simp only [List.mem_cons, List.not_mem_nil, or_false]
      omega
    · repeat' split at h
      all_goals first
        | (cases h; omega)
        | (cases h; rename_i h2 _; have h1 := dv_lt (a := a) (by rw [h2]; decide)
           have q1 : ¬ a = 543 := fun q => by subst q; exact absurd h2 (by decide)
           have q2 : ¬ a = 542 := fun q => by subst q; exact absurd h2 (by decide)
           omega)
        | cases h
section
variable {y : MethodName} {cc : ByteArray} {n : Nat} {ret : Option FieldType} {R : Room} {cs ss pc pc' : Nat} {l l' : List (Option Value)} {st : List Value} {S : dv_S} {Q : Option Value → dv_S → Prop}
theorem J_geti {a idx ci k : Nat} {fin : Bool} {ty : FieldType} (hF : dv_F y.cls idx ci k fin ty) (ha : dv_kd a = ci) (hr : dv_rf a k = none) (hd : decode cc pc = .ok (.getfield idx, 3)) (hp : pc + 3 = pc') (kk : dv_J y cc n ret R cs ss pc' l (.int (S.1 a k) :: st) S Q) : dv_J y cc n ret R cs ss pc l (.ref a :: st) S Q := by
  intro la b scr dC dI dA p e s m args below meth c H locs ls hc hl hP hS hX
  subst hp
  obtain ⟨C, T, N, ⟨h1, h9, hN, hin, ty0, hty, hnm⟩, hk, hlk, -, -⟩ := hF
  have h544 := dv_lt (a := a) (by omega)
  obtain ⟨q0, hq⟩ := dv_get dA b S h544
  rw [dv_cell_o ha h9] at hq
  show W _ _ _ _ _ _ _ _ _ _ _ _ _ _ _ (F0 m pc ls (dv_tr scr b (.ref a) :: st.map (dv_tr scr b)))
  rw [dv_tr_ref h544]
  refine va_get hc.1 hc.2.1 hc.2.2.2.2.2.2.1 hin hc.2.2.2.2.2.1 hc.2.2.2.2.2.2.2.1 hP q0 hq h1 k hk (hc.2.2.2.2.2.2.1 _ hlk) (fun _ h => h) (v := .int (S.1 a k)) ?_ hd (kk la b scr dC dI dA p e s m args below meth c H locs ls hc hl hP hS hX)
  rw [dv_fl_at ha (hN ▸ hk)]
  simp [dv_fv, hr]
theorem J_getr {a idx ci k t : Nat} {fin : Bool} {ty : FieldType} (hF : dv_F y.cls idx ci k fin ty) (ha : dv_kd a = ci) (hr : dv_rf a k = some t) (hd : decode cc pc = .ok (.getfield idx, 3)) (hp : pc + 3 = pc') (kk : dv_J y cc n ret R cs ss pc' l (.ref t :: st) S Q) : dv_J y cc n ret R cs ss pc l (.ref a :: st) S Q := by
  intro la b scr dC dI dA p e s m args below meth c H locs ls hc hl hP hS hX
  subst hp
  obtain ⟨C, T, N, ⟨h1, h9, hN, hin, ty0, hty, hnm⟩, hk, hlk, -, -⟩ := hF
  have h544 := dv_lt (a := a) (by omega)
  obtain ⟨q0, hq⟩ := dv_get dA b S h544
  rw [dv_cell_o ha h9] at hq
  show W _ _ _ _ _ _ _ _ _ _ _ _ _ _ _ (F0 m pc ls (dv_tr scr b (.ref a) :: st.map (dv_tr scr b)))
  rw [dv_tr_ref h544]
  refine va_get hc.1 hc.2.1 hc.2.2.2.2.2.2.1 hin hc.2.2.2.2.2.1 hc.2.2.2.2.2.2.2.1 hP q0 hq h1 k hk (hc.2.2.2.2.2.2.1 _ hlk) (fun _ h => h) (v := dv_tr scr b (.ref t)) ?_ hd (kk la b scr dC dI dA p e s m args below meth c H locs ls hc hl hP hS hX)
  rw [dv_fl_at ha (hN ▸ hk), dv_tr_ref (dv_rf_lt hr)]
  simp [dv_fv, hr]
theorem dv_kd_scr : dv_kd 100000 = 99 := by decide
theorem J_put0 {a idx ci k : Nat} {ty : FieldType} {v : Int32} (hF : dv_F y.cls idx ci k false ty) (ha : dv_kd a = ci) (hr : dv_rf a k = none) (hn : narrow ty (.int v) = .int v) (hfit : fits ty (.int v) = true) (hd : decode cc pc = .ok (.putfield idx, 3)) (hp : pc + 3 = pc') (kk : dv_J y cc n ret R cs ss pc' l st (dv_u S.1 a k v, S.2) Q) : dv_J y cc n ret R cs ss pc l (.int v :: .ref a :: st) S Q := by
  intro la b scr dC dI dA p e s m args below meth c H locs ls hc hl hP hS hX
  subst hp
  obtain ⟨C, T, N, ⟨h1, h9, hN, hin, ty0, hty, hnm⟩, hk, hlk, hfin, hdy⟩ := hF
  have h544 := dv_lt (a := a) (by omega)
  obtain ⟨q0, hq⟩ := dv_get dA b S h544
  have hq' := hq
  rw [dv_cell_o ha h9] at hq
  show W _ _ _ _ _ _ _ _ _ _ _ _ _ _ _ (F0 m pc ls (.int v :: dv_tr scr b (.ref a) :: st.map (dv_tr scr b)))
  rw [dv_tr_ref h544]
  refine va_put hc.1 hc.2.1 hc.2.2.2.2.2.2.1 hin ty0 hty hnm hc.2.2.2.2.2.1 hc.2.2.2.2.2.2.2.1 hP (dv_D dA b S) hS q0 hq h1 k hk (hc.2.2.2.2.2.2.1 _ hlk) (fun _ h => h) hfin hdy hn hfit (by rw [dv_fl_len ha]; exact hN ▸ hk) hd (fun H1 locs1 hP1 _ hS1 => ?_)
  rw [dv_set (S' := (dv_u S.1 a k v, S.2)) h544 hq' (by rw [dv_cell_o ha h9, dv_fl_set hr]) (fun x hx => dv_cell_F (dv_u_row _ _ hx) rfl rfl)] at hP1
  refine kk la b scr dC dI dA p e s m args below meth c H1 locs1 ls hc hl hP1 hS1 ?_
  have h0 : dv_L (dv_u S.1 a k v, S.2) = dv_L S := by
    show (dv_u S.1 a k v 100000 0).toNatClampNeg = _
    rw [dv_u_ne _ _ (by rintro ⟨q, -⟩; omega)]; rfl
  rw [h0]; exact hX
theorem J_puti {a idx ci k : Nat} {v : Int32} (hF : dv_F y.cls idx ci k false .int) (ha : dv_kd a = ci) (hr : dv_rf a k = none) (hd : decode cc pc = .ok (.putfield idx, 3)) (hp : pc + 3 = pc') (kk : dv_J y cc n ret R cs ss pc' l st (dv_u S.1 a k v, S.2) Q) : dv_J y cc n ret R cs ss pc l (.int v :: .ref a :: st) S Q :=
  J_put0 hF ha hr rfl rfl hd hp kk
theorem J_putz {a idx ci k : Nat} {v : Int32} (hF : dv_F y.cls idx ci k false .boolean) (ha : dv_kd a = ci) (hr : dv_rf a k = none) (hv : v = 0 ∨ v = 1) (hd : decode cc pc = .ok (.putfield idx, 3)) (hp : pc + 3 = pc') (kk : dv_J y cc n ret R cs ss pc' l st (dv_u S.1 a k v, S.2) Q) : dv_J y cc n ret R cs ss pc l (.int v :: .ref a :: st) S Q := by
  rcases hv with rfl | rfl
  · exact J_put0 hF ha hr (by decide) (by decide) hd hp kk
  · exact J_put0 hF ha hr (by decide) (by decide) hd hp kk
theorem dv_j {i : Int32} {j N : Nat} (hi : i = nI j) (hj : j < N) (hN : N < 2 ^ 31) : vp_in i N ∧ i.toNatClampNeg = j := by
  subst hi; exact ⟨vp_in_nI hj hN, nI_clamp (by omega)⟩
theorem J_iald {a j : Nat} {i : Int32} (ha : dv_kd a = 10) (hi : i = nI j) (hj : j < dv_ln a) (hd : decode cc pc = .ok (.iaload, 1)) (hp : pc + 1 = pc') (kk : dv_J y cc n ret R cs ss pc' l (.int (S.2.1 a j) :: st) S Q) : dv_J y cc n ret R cs ss pc l (.int i :: .ref a :: st) S Q := by
  intro la b scr dC dI dA p e s m args below meth c H locs ls hc hl hP hS hX
  subst hp
  have h544 := dv_lt (a := a) (by omega)
  obtain ⟨h1, h2⟩ := dv_j hi hj (dv_ln_lt a)
  obtain ⟨q0, hq⟩ := dv_get dA b S h544
  rw [dv_cell_i ha (by decide)] at hq
  show W _ _ _ _ _ _ _ _ _ _ _ _ _ _ _ (F0 m pc ls (.int i :: dv_tr scr b (.ref a) :: st.map (dv_tr scr b)))
  rw [dv_tr_ref h544]
  refine va_iald hc.1 hc.2.1 hc.2.2.2.2.2.2.2.1 hP q0 1 hq rfl h1 hd ?_
  rw [h2]
  exact kk la b scr dC dI dA p e s m args below meth c H locs ls hc hl hP hS hX
theorem J_bald {a j : Nat} {i : Int32} (ha : dv_kd a = 9) (hi : i = nI j) (hj : j < dv_ln a) (hd : decode cc pc = .ok (.baload, 1)) (hp : pc + 1 = pc') (kk : dv_J y cc n ret R cs ss pc' l (.int (S.2.1 a j) :: st) S Q) : dv_J y cc n ret R cs ss pc l (.int i :: .ref a :: st) S Q := by
  intro la b scr dC dI dA p e s m args below meth c H locs ls hc hl hP hS hX
  subst hp
  have h544 := dv_lt (a := a) (by omega)
  obtain ⟨h1, h2⟩ := dv_j hi hj (dv_ln_lt a)
  obtain ⟨q0, hq⟩ := dv_get dA b S h544
  rw [dv_cell_i ha (by decide)] at hq
  show W _ _ _ _ _ _ _ _ _ _ _ _ _ _ _ (F0 m pc ls (.int i :: dv_tr scr b (.ref a) :: st.map (dv_tr scr b)))
  rw [dv_tr_ref h544]
  refine va_bald hc.1 hc.2.1 hc.2.2.2.2.2.2.2.1 hP q0 0 hq rfl h1 hd ?_
  rw [h2]
  exact kk la b scr dC dI dA p e s m args below meth c H locs ls hc hl hP hS hX
theorem J_zald {a j : Nat} {i : Int32} (ha : dv_kd a = 12) (hi : i = nI j) (hj : j < dv_ln a) (hd : decode cc pc = .ok (.baload, 1)) (hp : pc + 1 = pc') (kk : dv_J y cc n ret R cs ss pc' l (.int (S.2.1 a j) :: st) S Q) : dv_J y cc n ret R cs ss pc l (.int i :: .ref a :: st) S Q := by
  intro la b scr dC dI dA p e s m args below meth c H locs ls hc hl hP hS hX
  subst hp
  have h544 := dv_lt (a := a) (by omega)
  obtain ⟨h1, h2⟩ := dv_j hi hj (dv_ln_lt a)
  obtain ⟨q0, hq⟩ := dv_get dA b S h544
  rw [dv_cell_i ha (by decide)] at hq
  show W _ _ _ _ _ _ _ _ _ _ _ _ _ _ _ (F0 m pc ls (.int i :: dv_tr scr b (.ref a) :: st.map (dv_tr scr b)))
  rw [dv_tr_ref h544]
  refine va_zald hc.1 hc.2.1 hc.2.2.2.2.2.2.2.1 hP q0 3 hq rfl h1 hd ?_
  rw [h2]
  exact kk la b scr dC dI dA p e s m args below meth c H locs ls hc hl hP hS hX
theorem J_lald {a j : Nat} {i : Int32} (ha : dv_kd a = 11) (hi : i = nI j) (hj : j < dv_ln a) (hd : decode cc pc = .ok (.laload, 1)) (hp : pc + 1 = pc') (kk : dv_J y cc n ret R cs ss pc' l (.long (S.2.2 a j) :: st) S Q) : dv_J y cc n ret R cs ss pc l (.int i :: .ref a :: st) S Q := by
  intro la b scr dC dI dA p e s m args below meth c H locs ls hc hl hP hS hX
  subst hp
  have h544 := dv_lt (a := a) (by omega)
  obtain ⟨h1, h2⟩ := dv_j hi hj (dv_ln_lt a)
  obtain ⟨q0, hq⟩ := dv_get dA b S h544
  rw [dv_cell_l ha] at hq
  show W _ _ _ _ _ _ _ _ _ _ _ _ _ _ _ (F0 m pc ls (.int i :: dv_tr scr b (.ref a) :: st.map (dv_tr scr b)))
  rw [dv_tr_ref h544]
  refine va_lald hc.1 hc.2.1 hc.2.2.2.2.2.2.2.1 hP q0 2 hq rfl h1 hd ?_
  rw [h2]
  exact kk la b scr dC dI dA p e s m args below meth c H locs ls hc hl hP hS hX
theorem J_aald {a j : Nat} {i : Int32} (ha : dv_kd a = 13) (hi : i = nI j) (hj : j < dv_ln a) (hd : decode cc pc = .ok (.aaload, 1)) (hp : pc + 1 = pc') (kk : dv_J y cc n ret R cs ss pc' l (.ref (dv_ra a j) :: st) S Q) : dv_J y cc n ret R cs ss pc l (.int i :: .ref a :: st) S Q := by
  intro la b scr dC dI dA p e s m args below meth c H locs ls hc hl hP hS hX
  subst hp
  have h544 := dv_lt (a := a) (by omega)
  obtain ⟨h1, h2⟩ := dv_j hi hj (dv_ln_lt a)
  obtain ⟨q0, hq⟩ := dv_get dA b S h544
  rw [dv_cell_q ha] at hq
  show W _ _ _ _ _ _ _ _ _ _ _ _ _ _ _ (F0 m pc ls (.int i :: dv_tr scr b (.ref a) :: st.map (dv_tr scr b)))
  rw [dv_tr_ref h544]
  refine va_aldq hc.1 hc.2.1 hc.2.2.2.2.2.2.2.1 hP q0 4 hq rfl h1 hd ?_
  rw [h2]
  have h3 : dv_ra a j ≠ 100000 := by
    have : dv_ln a < 2000 := by
      have h13 : ∀ x, x < 544 → dv_kd x = 13 → dv_ln x < 2000 := by decide +kernel
      exact h13 a h544 ha
    unfold dv_ra; omega
  have h4 := kk la b scr dC dI dA p e s m args below meth c H locs ls hc hl hP hS hX
  have h5 : dv_tr scr b (.ref (dv_ra a j)) = .ref (b + dv_ra a j) := by
    show Value.ref (if dv_ra a j = 100000 then scr else b + dv_ra a j) = _
    rw [if_neg h3]
  rw [List.map_cons, h5] at h4
  exact h4
theorem dv_u_upd (f : Nat → Nat → Int32) (a k : Nat) (v : Int32) : dv_u f a k v a = upd (f a) k v := by
  funext x; simp [dv_u, upd]
theorem dv_u_updL (f : Nat → Nat → Int64) (a k : Nat) (v : Int64) : dv_u f a k v a = vp_updL (f a) k v := by
  funext x; simp [dv_u, vp_updL]
theorem J_iast {a j : Nat} {i v : Int32} (ha : dv_kd a = 10) (hi : i = nI j) (hj : j < dv_ln a) (hd : decode cc pc = .ok (.iastore, 1)) (hp : pc + 1 = pc') (kk : dv_J y cc n ret R cs ss pc' l st (S.1, dv_u S.2.1 a j v, S.2.2) Q) : dv_J y cc n ret R cs ss pc l (.int v :: .int i :: .ref a :: st) S Q := by
  intro la b scr dC dI dA p e s m args below meth c H locs ls hc hl hP hS hX
  subst hp
  have h544 := dv_lt (a := a) (by omega)
  obtain ⟨h1, h2⟩ := dv_j hi hj (dv_ln_lt a)
  obtain ⟨q0, hq⟩ := dv_get dA b S h544
  have hq' := hq
  rw [dv_cell_i ha (by decide)] at hq
  show W _ _ _ _ _ _ _ _ _ _ _ _ _ _ _ (F0 m pc ls (.int v :: .int i :: dv_tr scr b (.ref a) :: st.map (dv_tr scr b)))
  rw [dv_tr_ref h544]
  refine va_iast hc.1 hc.2.1 hc.2.2.2.2.2.2.2.1 hP (dv_D dA b S) hS q0 1 hq rfl h1 hd (fun H1 locs1 hP1 _ hS1 => ?_)
  rw [h2] at hP1
  rw [dv_set (S' := (S.1, dv_u S.2.1 a j v, S.2.2)) h544 hq' (by rw [dv_cell_i ha (by decide)]; simp only [dv_u_upd]) (fun x hx => dv_cell_F rfl (dv_u_row _ _ hx) rfl)] at hP1
  refine kk la b scr dC dI dA p e s m args below meth c H1 locs1 ls hc hl hP1 hS1 ?_
  show va_X scr (dv_L S) (dv_u S.2.1 a j v 100000) s s.heap
  rw [dv_u_row _ _ (by omega)]; exact hX
theorem J_bast {a j : Nat} {i v : Int32} (ha : dv_kd a = 9) (hi : i = nI j) (hj : j < dv_ln a) (hd : decode cc pc = .ok (.bastore, 1)) (hp : pc + 1 = pc') (kk : dv_J y cc n ret R cs ss pc' l st (S.1, dv_u S.2.1 a j v.toInt8.toInt32, S.2.2) Q) : dv_J y cc n ret R cs ss pc l (.int v :: .int i :: .ref a :: st) S Q := by
  intro la b scr dC dI dA p e s m args below meth c H locs ls hc hl hP hS hX
  subst hp
  have h544 := dv_lt (a := a) (by omega)
  obtain ⟨h1, h2⟩ := dv_j hi hj (dv_ln_lt a)
  obtain ⟨q0, hq⟩ := dv_get dA b S h544
  have hq' := hq
  rw [dv_cell_i ha (by decide)] at hq
  show W _ _ _ _ _ _ _ _ _ _ _ _ _ _ _ (F0 m pc ls (.int v :: .int i :: dv_tr scr b (.ref a) :: st.map (dv_tr scr b)))
  rw [dv_tr_ref h544]
  refine va_bast hc.1 hc.2.1 hc.2.2.2.2.2.2.2.1 hP (dv_D dA b S) hS q0 0 hq rfl h1 hd (fun H1 locs1 hP1 _ hS1 => ?_)
  rw [h2, vp_nar_byte] at hP1
  rw [dv_set (S' := (S.1, dv_u S.2.1 a j v.toInt8.toInt32, S.2.2)) h544 hq' (by rw [dv_cell_i ha (by decide)]; simp only [dv_u_upd]) (fun x hx => dv_cell_F rfl (dv_u_row _ _ hx) rfl)] at hP1
  refine kk la b scr dC dI dA p e s m args below meth c H1 locs1 ls hc hl hP1 hS1 ?_
  show va_X scr (dv_L S) (dv_u S.2.1 a j v.toInt8.toInt32 100000) s s.heap
  rw [dv_u_row _ _ (by omega)]; exact hX
theorem J_zast {a j : Nat} {i v : Int32} (ha : dv_kd a = 12) (hi : i = nI j) (hj : j < dv_ln a) (hv : v = 0 ∨ v = 1) (hd : decode cc pc = .ok (.bastore, 1)) (hp : pc + 1 = pc') (kk : dv_J y cc n ret R cs ss pc' l st (S.1, dv_u S.2.1 a j v, S.2.2) Q) : dv_J y cc n ret R cs ss pc l (.int v :: .int i :: .ref a :: st) S Q := by
  intro la b scr dC dI dA p e s m args below meth c H locs ls hc hl hP hS hX
  subst hp
  have h544 := dv_lt (a := a) (by omega)
  obtain ⟨h1, h2⟩ := dv_j hi hj (dv_ln_lt a)
  obtain ⟨q0, hq⟩ := dv_get dA b S h544
  have hq' := hq
  rw [dv_cell_i ha (by decide)] at hq
  show W _ _ _ _ _ _ _ _ _ _ _ _ _ _ _ (F0 m pc ls (.int v :: .int i :: dv_tr scr b (.ref a) :: st.map (dv_tr scr b)))
  rw [dv_tr_ref h544]
  have hnv : vp_nar .boolean v = v := by rcases hv with rfl | rfl <;> decide
  refine va_zast hc.1 hc.2.1 hc.2.2.2.2.2.2.2.1 hP (dv_D dA b S) hS q0 3 hq rfl h1 hd (fun H1 locs1 hP1 _ hS1 => ?_)
  rw [h2, hnv] at hP1
  rw [dv_set (S' := (S.1, dv_u S.2.1 a j v, S.2.2)) h544 hq' (by rw [dv_cell_i ha (by decide)]; simp only [dv_u_upd]) (fun x hx => dv_cell_F rfl (dv_u_row _ _ hx) rfl)] at hP1
  refine kk la b scr dC dI dA p e s m args below meth c H1 locs1 ls hc hl hP1 hS1 ?_
  show va_X scr (dv_L S) (dv_u S.2.1 a j v 100000) s s.heap
  rw [dv_u_row _ _ (by omega)]; exact hX
theorem J_last {a j : Nat} {i : Int32} {v : Int64} (ha : dv_kd a = 11) (hi : i = nI j) (hj : j < dv_ln a) (hd : decode cc pc = .ok (.lastore, 1)) (hp : pc + 1 = pc') (kk : dv_J y cc n ret R cs ss pc' l st (S.1, S.2.1, dv_u S.2.2 a j v) Q) : dv_J y cc n ret R cs ss pc l (.long v :: .int i :: .ref a :: st) S Q := by
  intro la b scr dC dI dA p e s m args below meth c H locs ls hc hl hP hS hX
  subst hp
  have h544 := dv_lt (a := a) (by omega)
  obtain ⟨h1, h2⟩ := dv_j hi hj (dv_ln_lt a)
  obtain ⟨q0, hq⟩ := dv_get dA b S h544
  have hq' := hq
  rw [dv_cell_l ha] at hq
  show W _ _ _ _ _ _ _ _ _ _ _ _ _ _ _ (F0 m pc ls (.long v :: .int i :: dv_tr scr b (.ref a) :: st.map (dv_tr scr b)))
  rw [dv_tr_ref h544]
  refine va_last hc.1 hc.2.1 hc.2.2.2.2.2.2.2.1 hP (dv_D dA b S) hS q0 2 hq rfl h1 hd (fun H1 locs1 hP1 _ hS1 => ?_)
  rw [h2] at hP1
  rw [dv_set (S' := (S.1, S.2.1, dv_u S.2.2 a j v)) h544 hq' (by rw [dv_cell_l ha]; simp only [dv_u_updL]) (fun x hx => dv_cell_F rfl rfl (dv_u_row _ _ hx))] at hP1
  exact kk la b scr dC dI dA p e s m args below meth c H1 locs1 ls hc hl hP1 hS1 hX
theorem J_alen {a : Nat} (ha : dv_kd a = 10) (hd : decode cc pc = .ok (.arraylength, 1)) (hp : pc + 1 = pc') (kk : dv_J y cc n ret R cs ss pc' l (.int (nI (dv_ln a)) :: st) S Q) : dv_J y cc n ret R cs ss pc l (.ref a :: st) S Q := by
  intro la b scr dC dI dA p e s m args below meth c H locs ls hc hl hP hS hX
  subst hp
  have h544 := dv_lt (a := a) (by omega)
  obtain ⟨q0, hq⟩ := dv_get dA b S h544
  rw [dv_cell_i ha (by decide)] at hq
  show W _ _ _ _ _ _ _ _ _ _ _ _ _ _ _ (F0 m pc ls (dv_tr scr b (.ref a) :: st.map (dv_tr scr b)))
  rw [dv_tr_ref h544]
  exact va_alen hc.1 hc.2.1 hc.2.2.2.2.2.2.2.1 hP q0 1 hq (ty := .int) rfl (v := nI (dv_ln a)) rfl hd (kk la b scr dC dI dA p e s m args below meth c H locs ls hc hl hP hS hX)
/-- the script -/
theorem J_slen (hd : decode cc pc = .ok (.arraylength, 1)) (hp : pc + 1 = pc') (kk : dv_J y cc n ret R cs ss pc' l (.int (nI (dv_L S)) :: st) S Q) : dv_J y cc n ret R cs ss pc l (.ref 100000 :: st) S Q := by
  intro la b scr dC dI dA p e s m args below meth c H locs ls hc hl hP hS hX
  subst hp
  have hsb := hc.2.2.2.2.2.2.2.2.1
  have hbs := hc.2.2.2.2.2.2.2.2.2.1
  show W _ _ _ _ _ _ _ _ _ _ _ _ _ _ _ (F0 m pc ls (dv_tr scr b (.ref 100000) :: st.map (dv_tr scr b)))
  rw [dv_tr_scr]
  exact va_slen hc.1 hc.2.1 hX (by omega) (A := fun q => b ≤ q) (by simp only [Nat.not_le]; exact hsb) hS hd (kk la b scr dC dI dA p e s m args below meth c H locs ls hc hl hP hS hX)
theorem J_sld {j : Nat} {i : Int32} (hi : i = nI j) (hj : j < dv_L S) (hL : dv_L S < 2 ^ 31) (hd : decode cc pc = .ok (.iaload, 1)) (hp : pc + 1 = pc') (kk : dv_J y cc n ret R cs ss pc' l (.int (S.2.1 100000 j) :: st) S Q) : dv_J y cc n ret R cs ss pc l (.int i :: .ref 100000 :: st) S Q := by
  intro la b scr dC dI dA p e s m args below meth c H locs ls hc hl hP hS hX
  subst hp
  have hsb := hc.2.2.2.2.2.2.2.2.1
  have hbs := hc.2.2.2.2.2.2.2.2.2.1
  obtain ⟨h1, h2⟩ := dv_j hi hj hL
  show W _ _ _ _ _ _ _ _ _ _ _ _ _ _ _ (F0 m pc ls (.int i :: dv_tr scr b (.ref 100000) :: st.map (dv_tr scr b)))
  rw [dv_tr_scr]
  refine va_sld hc.1 hc.2.1 hX (by omega) (A := fun q => b ≤ q) (by simp only [Nat.not_le]; exact hsb) hS h1 hd ?_
  rw [h2]
  exact kk la b scr dC dI dA p e s m args below meth c H locs ls hc hl hP hS hX
/-- the ends -/
theorem dv_end {scr b : Nat} {dC : Nat → ClassId} {dI : Nat → Nat → Nat} {dA : Nat → ClassId} {p : Program} {s : State} {m : MethodId} {args : Array Value} {meth : Method} {c : Code} {H : Heap} {locs : List Loc} {r : Option Value} (hc : dv_cx y cc n ret scr b dC dI dA p s m args meth c) (hP : va_P (dC, dI) vwCl (dv_ws dA b S) H) (hS : va_S (fun q => b ≤ q) s.heap H locs) (hX : va_X scr (dv_L S) (S.2.1 100000) s s.heap) (hq : Q r S) (t : State) (ht : t.heap = H) (hw : s.WarmedH t.vm) : dv_Q dC dI dA scr b Q args s (.returned (r.map (dv_tr scr b))) t := by
  have hsb := hc.2.2.2.2.2.2.2.2.1
  have hbs := hc.2.2.2.2.2.2.2.2.2.1
  refine ⟨r, S, rfl, hq, by rw [ht]; exact hP, ?_, hS.F ht⟩
  rw [ht]
  exact va_X.moved hw.alike (va_X.kept hX (hS.2.1 scr (by omega) (by simp only [Nat.not_le]; exact hsb)))
theorem J_iret {v : Int32} (hd : decode cc pc = .ok (.ireturn, 1)) (hr : ret = some .int) (hcs : cs ≤ R.cells ∧ ss ≤ R.slots) (hq : Q (some (.int v)) S) : dv_J y cc n ret R cs ss pc l [.int v] S Q := by
  intro la b scr dC dI dA p e s m args below meth c H locs ls hc hl hP hS hX
  refine W.widen hcs.1 hcs.2 ?_
  exact W.iret hc.1 hc.2.1 (hc.2.2.2.1.trans hr) (dv_end (r := some (.int v)) hc hP hS hX hq) hS.2.2 hd hc.2.2.2.2.1
theorem J_zret {v : Int32} (hd : decode cc pc = .ok (.ireturn, 1)) (hr : ret = some .boolean) (hv : v = 0 ∨ v = 1) (hcs : cs ≤ R.cells ∧ ss ≤ R.slots) (hq : Q (some (.int v)) S) : dv_J y cc n ret R cs ss pc l [.int v] S Q := by
  intro la b scr dC dI dA p e s m args below meth c H locs ls hc hl hP hS hX
  refine W.widen hcs.1 hcs.2 ?_
  exact W.zret hc.1 hc.2.1 (hc.2.2.2.1.trans hr) (by rcases hv with rfl | rfl <;> decide) (dv_end (r := some (.int v)) hc hP hS hX hq) hS.2.2 hd hc.2.2.2.2.1
theorem J_vret (hd : decode cc pc = .ok (.return_, 1)) (hr : ret = none) (hcs : cs ≤ R.cells ∧ ss ≤ R.slots) (hq : Q none S) : dv_J y cc n ret R cs ss pc l [] S Q := by
  intro la b scr dC dI dA p e s m args below meth c H locs ls hc hl hP hS hX
  refine W.widen hcs.1 hcs.2 ?_
  exact W.vret hc.1 hc.2.1 (hc.2.2.2.1.trans hr) (dv_end (r := none) hc hP hS hX hq) hS.2.2 hd hc.2.2.2.2.1
theorem J_lret {v : Int64} (hd : decode cc pc = .ok (.lreturn, 1)) (hr : ret = some .long) (hcs : cs ≤ R.cells ∧ ss ≤ R.slots) (hq : Q (some (.long v)) S) : dv_J y cc n ret R cs ss pc l [.long v] S Q := by
  intro la b scr dC dI dA p e s m args below meth c H locs ls hc hl hP hS hX
  refine W.widen hcs.1 hcs.2 ?_
  exact W.lret hc.1 hc.2.1 (hc.2.2.2.1.trans hr) (dv_end (r := some (.long v)) hc hP hS hX hq) hS.2.2 hd hc.2.2.2.2.1
theorem J_aret {a : Nat} {C : String} (hd : decode cc pc = .ok (.areturn, 1)) (hr : ret = some (.object C)) (hcs : cs ≤ R.cells ∧ ss ≤ R.slots) (hq : Q (some (.ref a)) S) : dv_J y cc n ret R cs ss pc l [.ref a] S Q := by
  intro la b scr dC dI dA p e s m args below meth c H locs ls hc hl hP hS hX
  refine W.widen hcs.1 hcs.2 ?_
  exact W.aret hc.1 hc.2.1 (hc.2.2.2.1.trans hr) (Or.inl ⟨C, rfl⟩) (Or.inr ⟨_, rfl⟩) (dv_end (r := some (.ref a)) hc hP hS hX hq) hS.2.2 hd hc.2.2.2.2.1
/-- behind a call -/
theorem dv_after {scr b : Nat} {dC : Nat → ClassId} {dI : Nat → Nat → Nat} {dA : Nat → ClassId} {p : Program} {la : Launch} {e : Env} {s : State} {m : MethodId} {args a : Array Value} {below : List Frame} {meth : Method} {c : Code} {H : Heap} {locs : List Loc} {ls : Array Slot} {mc ms : Nat} {rest st0 : List Value} {Qc : Option Value → dv_S → Prop} {Qw : State → Prop}
    (hr : va_Run p la e R s m args below meth c H locs cs ss mc ms (F0 m pc ls st0) rest (dv_Q dC dI dA scr b Qc a) (fun q => b ≤ q)) (hS : va_S (fun q => b ≤ q) s.heap H locs) (hsb : scr < b) (hbs : b ≤ s.heap.size)
    (kk : ∀ (r : Option Value) (S' : dv_S) (H1 : Heap) (locs1 : List Loc), Qc r S' → va_P (dC, dI) vwCl (dv_ws dA b S') H1 → va_X scr (dv_L S') (S'.2.1 100000) s s.heap → va_S (fun q => b ≤ q) s.heap H1 locs1 → W p la e R s m args below meth c H1 locs1 (cs + mc) (ss + ms) Qw (F0 m (pc + 3) ls ((r.map (dv_tr scr b)).toList ++ rest))) : W p la e R s m args below meth c H locs cs ss Qw (F0 m pc ls st0) := by
  intro T hT X
  obtain ⟨v, st₀, t, T', L, h0, X', hL, e1, e2, ⟨r, S', hv, hq, hP1, hX1, hz, hk⟩, sg⟩ := hr T hT X
  cases hv
  rw [h0] at hz hk
  have hS1 : va_S (fun q => b ≤ q) s.heap T'.heap (locs ++ L) := by
    refine ⟨Nat.le_trans hS.1 (by rw [e1]; exact hz), fun q h1 h2 => ?_, fun q hq => ?_⟩
    · rw [e1, hk q (Nat.lt_of_lt_of_le h1 hS.1) h2]; exact hS.2.1 q h1 h2
    · rcases List.mem_append.mp hq with h | h
      · exact hS.2.2 q h
      · exact hL q h
  have hX2 : va_X scr (dv_L S') (S'.2.1 100000) s s.heap := by
    have h3 : va_X scr (dv_L S') (S'.2.1 100000) s t.heap := va_X.moved (Vm.Alike.symm (by rw [← e2]; exact X'.warmed.alike)) hX1
    refine va_X.kept h3 ?_
    have h4 := hS1.2.1 scr (by omega) (by simp only [Nat.not_le]; exact hsb)
    rw [e1] at h4
    exact h4.symm
  obtain ⟨t2, a1, b1⟩ := kk r S' T'.heap (locs ++ L) hq (by rw [e1]; exact hP1) hX2 hS1 T' rfl X'
  exact ⟨t2, sg t2 a1, b1⟩
def dv_mf (y : MethodName) (cc : ByteArray) (n : Nat) (ret : Option FieldType) (np : Nat) : Prop := Cond.code y cc n ret ∈ dv_T ∧ Cond.initialized y.cls ∈ dv_T ∧ (y.cls ≠ "java/lang/invoke/MethodHandle" ∧ y.cls ≠ "java/lang/invoke/VarHandle") ∧ (parseMethodDescriptor y.desc).map (fun d => d.parameters.length) = some np
def dv_mv (y : MethodName) (cc : ByteArray) (n : Nat) (ret : Option FieldType) (np ci : Nat) : Prop := dv_mf y cc n ret np ∧ Cond.instanceMethod y ∈ dv_T ∧ Cond.selects y.cls y y ∈ dv_T ∧ ∃ T N, dv_cl ci y.cls T N
def dv_ms (y : MethodName) (cc : ByteArray) (n : Nat) (ret : Option FieldType) (np : Nat) : Prop := dv_mf y cc n ret np ∧ Cond.static y ∈ dv_T
theorem dv_good {y' : MethodName} {cc' : ByteArray} {n' : Nat} {ret' : Option FieldType} (h : Cond.code y' cc' n' ret' ∈ dv_T) : GoodIn dv_T (dv_wm y' cc' n' ret') := by
  intro w hw
  have h1 : w ∈ dv_T := by
    rcases List.mem_cons.mp hw with rfl | h2
    · exact h
    · exact h2
  exact ⟨h1, good_of_word (List.mem_filter.mp h1).2⟩
theorem dv_blind {av : List Value} {scr b : Nat} {dC : Nat → ClassId} {dI : Nat → Nat → Nat} {dA : Nat → ClassId} : FrameBlind (va_Pc (av.map (dv_tr scr b)) (fun U => b ≤ U.heap.size ∧ va_K (dC, dI) vwCl (dv_tys dA) U ∧ va_P (dC, dI) vwCl (dv_ws dA b S) U.heap ∧ va_X scr (dv_L S) (S.2.1 100000) U U.heap ∧ dv_nw U)) := by
  intro a U g mk q
  obtain ⟨q0, q1, q2, q3, q4, q5⟩ := q
  exact ⟨q0, q1, va_K.moved (u := U) (U := U.calling g mk a) (Vm.Alike.refl U.vm) q2, q3, va_X.moved (u := U) (U := U.calling g mk a) (Vm.Alike.refl U.vm) q4, dv_nw.same (s := U) (U := U.calling g mk a) rfl q5⟩
theorem J_callv {y' : MethodName} {cc' : ByteArray} {n' : Nat} {ret' : Option FieldType} {R' : Room} {Qc : Option Value → dv_S → Prop} {a ci idx : Nat} (As : List Value) {rest : List Value} (hM : dv_M y' cc' n' ret' R' (.ref a :: As) S Qc) (hf : dv_mv y' cc' n' ret' As.length ci) (hlk : Cond.methodLink y.cls idx y' ∈ dv_T) (ha : dv_kd a = ci) (hd : decode cc pc = .ok (.invokevirtual idx, 3)) (hp : pc + 3 = pc') (hst : st = As.reverse ++ .ref a :: rest) (hrm : (rest.map fun v => v.category).sum ≤ 8) (hR : R'.frames + 1 ≤ R.frames ∧ 8 + (n' + 11) + R'.locals ≤ R.locals) (hcs : cs + R'.cells ≤ R.cells ∧ ss + R'.slots ≤ R.slots)
    (kk : ∀ (r : Option Value) (S' : dv_S), Qc r S' → dv_J y cc n ret R (cs + R'.cells) (ss + R'.slots) pc' l (r.toList ++ rest) S' Q) : dv_J y cc n ret R cs ss pc l st S Q := by
  intro la b scr dC dI dA p e s m args below meth c H locs ls hc hl hP hS hX
  subst hp
  subst hst
  obtain ⟨⟨f1, f2, f3, f4⟩, f5, f6, T, N, f7, f8, f9, -⟩ := hf
  have hsb := hc.2.2.2.2.2.2.2.2.1
  have hbs := hc.2.2.2.2.2.2.2.2.2.1
  have hts := hc.2.2.2.2.2.2.1
  have h544 := dv_lt (a := a) (by omega)
  obtain ⟨q0, hq⟩ := dv_get dA b S h544
  rw [dv_cell_o ha f8] at hq
  have hK := hc.2.2.2.2.2.2.2.1
  refine dv_after (va_runV (b := b + a) (As := As.map (dv_tr scr b)) (rest := rest.map (dv_tr scr b)) (C := y'.cls) ⟨hc.1, hc.2.1, hc.2.2.1, hc.2.2.2.2.2.1, hts⟩ (hM la b scr dC dI dA hsb) (n := As.length) (mc := R'.cells) (ms := R'.slots)
    ⟨callB_of As.length hts (dv_good f1) rfl rfl rfl (hts _ f2) (hts _ hlk) ⟨f3.1, f3.2, f4⟩ hR, hts _ f5, hts _ f6⟩
    ⟨dv_blind, va_recv hK hP f7 hq, fun U hU hW => ⟨?_, ?_, va_K.moved hW.alike hK, ?_, ?_, hc.2.2.2.2.2.2.2.2.2.2.warm hW⟩⟩ rfl (List.length_map _) hl.1 ?_ ?_ hd hcs) hS hsb hbs (fun r S' H1 locs1 hqc hP1 hX1 hS1 => ?_)
  · rw [List.map_cons, dv_tr_ref h544]
  · rw [hU]; exact Nat.le_trans hbs hS.1
  · rw [hU]; exact hP
  · rw [hU]; exact va_X.moved hW.alike (va_X.kept hX (hS.2.1 scr (by omega) (by simp only [Nat.not_le]; exact hsb)))
  · show (As.reverse ++ Value.ref a :: rest).map (dv_tr scr b) = _
    rw [List.map_append, List.map_reverse, List.map_cons, dv_tr_ref h544]
  · show 2 * 0 + _ ≤ 8
    rw [List.map_map]
    have : ((fun v : Value => v.category) ∘ dv_tr scr b) = fun v => v.category := by funext v; exact dv_tr_cat scr b v
    rw [this]; omega
  · have h := kk r S' hqc la b scr dC dI dA p e s m args below meth c H1 locs1 ls hc hl hP1 hS1 hX1
    have h5 : (r.toList ++ rest).map (dv_tr scr b) = (r.map (dv_tr scr b)).toList ++ rest.map (dv_tr scr b) := by
      cases r <;> simp
    rw [h5] at h
    exact h
theorem J_calls {y' : MethodName} {cc' : ByteArray} {n' : Nat} {ret' : Option FieldType} {R' : Room} {Qc : Option Value → dv_S → Prop} {idx : Nat} (As : List Value) {rest : List Value} (hM : dv_M y' cc' n' ret' R' As S Qc) (hf : dv_ms y' cc' n' ret' As.length) (hlk : Cond.methodLink y.cls idx y' ∈ dv_T) (hd : decode cc pc = .ok (.invokestatic idx, 3)) (hp : pc + 3 = pc') (hst : st = As.reverse ++ rest) (hrm : (rest.map fun v => v.category).sum ≤ 8) (hR : R'.frames + 1 ≤ R.frames ∧ 8 + (n' + 11) + R'.locals ≤ R.locals) (hcs : cs + R'.cells ≤ R.cells ∧ ss + R'.slots ≤ R.slots)
    (kk : ∀ (r : Option Value) (S' : dv_S), Qc r S' → dv_J y cc n ret R (cs + R'.cells) (ss + R'.slots) pc' l (r.toList ++ rest) S' Q) : dv_J y cc n ret R cs ss pc l st S Q := by
  intro la b scr dC dI dA p e s m args below meth c H locs ls hc hl hP hS hX
  subst hp
  subst hst
  obtain ⟨⟨f1, f2, f3, f4⟩, f5⟩ := hf
  have hsb := hc.2.2.2.2.2.2.2.2.1
  have hbs := hc.2.2.2.2.2.2.2.2.2.1
  have hts := hc.2.2.2.2.2.2.1
  have hK := hc.2.2.2.2.2.2.2.1
  refine dv_after (va_runS (As := As.map (dv_tr scr b)) (rest := rest.map (dv_tr scr b)) ⟨hc.1, hc.2.1, hc.2.2.1, hc.2.2.2.2.2.1, hts⟩ (hM la b scr dC dI dA hsb) (n := As.length) (mc := R'.cells) (ms := R'.slots)
    ⟨callB_of As.length hts (dv_good f1) rfl rfl rfl (hts _ f2) (hts _ hlk) ⟨f3.1, f3.2, f4⟩ hR, hts _ f5⟩
    ⟨dv_blind, fun U hU hW => ⟨rfl, ?_, va_K.moved hW.alike hK, ?_, ?_, hc.2.2.2.2.2.2.2.2.2.2.warm hW⟩⟩ rfl (List.length_map _) hl.1 ?_ ?_ hd hcs) hS hsb hbs (fun r S' H1 locs1 hqc hP1 hX1 hS1 => ?_)
  · rw [hU]; exact Nat.le_trans hbs hS.1
  · rw [hU]; exact hP
  · rw [hU]; exact va_X.moved hW.alike (va_X.kept hX (hS.2.1 scr (by omega) (by simp only [Nat.not_le]; exact hsb)))
  · show (As.reverse ++ rest).map (dv_tr scr b) = _
    rw [List.map_append, List.map_reverse]
  · show 2 * 0 + _ ≤ 8
    rw [List.map_map]
    have : ((fun v : Value => v.category) ∘ dv_tr scr b) = fun v => v.category := by funext v; exact dv_tr_cat scr b v
    rw [this]; omega
  · have h := kk r S' hqc la b scr dC dI dA p e s m args below meth c H1 locs1 ls hc hl hP1 hS1 hX1
    have h5 : (r.toList ++ rest).map (dv_tr scr b) = (r.map (dv_tr scr b)).toList ++ rest.map (dv_tr scr b) := by
      cases r <;> simp
    rw [h5] at h
    exact h
theorem J_calln {y' : MethodName} {cc' : ByteArray} {n' : Nat} {ret' : Option FieldType} {R' : Room} {Qc : Option Value → dv_S → Prop} {idx : Nat} (As : List Value) {rest : List Value} (hM : dv_M y' cc' n' ret' R' As S Qc) (hf : dv_ms y' cc' n' ret' As.length) (hlk : (y.cls, idx, y') ∈ dv_NL) (hd : decode cc pc = .ok (.invokestatic idx, 3)) (hp : pc + 3 = pc') (hst : st = As.reverse ++ rest) (hrm : (rest.map fun v => v.category).sum ≤ 8) (hR : R'.frames + 1 ≤ R.frames ∧ 8 + (n' + 11) + R'.locals ≤ R.locals) (hcs : cs + R'.cells ≤ R.cells ∧ ss + R'.slots ≤ R.slots)
    (kk : ∀ (r : Option Value) (S' : dv_S), Qc r S' → dv_J y cc n ret R (cs + R'.cells) (ss + R'.slots) pc' l (r.toList ++ rest) S' Q) : dv_J y cc n ret R cs ss pc l st S Q := by
  intro la b scr dC dI dA p e s m args below meth c H locs ls hc hl hP hS hX
  subst hp
  subst hst
  obtain ⟨⟨f1, f2, f3, f4⟩, f5⟩ := hf
  have hsb := hc.2.2.2.2.2.2.2.2.1
  have hbs := hc.2.2.2.2.2.2.2.2.2.1
  have hts := hc.2.2.2.2.2.2.1
  have hK := hc.2.2.2.2.2.2.2.1
  refine dv_after (va_runSN (host := "NameHouse") (As := As.map (dv_tr scr b)) (rest := rest.map (dv_tr scr b)) ⟨hc.1, hc.2.1, hc.2.2.1, hc.2.2.2.2.2.1, hts⟩ (hM la b scr dC dI dA hsb) (n := As.length) (mc := R'.cells) (ms := R'.slots)
    ⟨va_cnB As.length hts (dv_good f1) rfl rfl rfl (hc.2.2.2.2.2.2.2.2.2.2 _ hlk) (hts _ f2) ⟨f3.1, f3.2, f4⟩ hR, hts _ f5, trivial⟩
    ⟨dv_blind, fun U hU hW => ⟨rfl, ?_, va_K.moved hW.alike hK, ?_, ?_, hc.2.2.2.2.2.2.2.2.2.2.warm hW⟩⟩ rfl (List.length_map _) hl.1 ?_ ?_ hd hcs) hS hsb hbs (fun r S' H1 locs1 hqc hP1 hX1 hS1 => ?_)
  · rw [hU]; exact Nat.le_trans hbs hS.1
  · rw [hU]; exact hP
  · rw [hU]; exact va_X.moved hW.alike (va_X.kept hX (hS.2.1 scr (by omega) (by simp only [Nat.not_le]; exact hsb)))
  · show (As.reverse ++ rest).map (dv_tr scr b) = _
    rw [List.map_append, List.map_reverse]
  · show 2 * 0 + _ ≤ 8
    rw [List.map_map]
    have : ((fun v : Value => v.category) ∘ dv_tr scr b) = fun v => v.category := by funext v; exact dv_tr_cat scr b v
    rw [this]; omega
  · have h := kk r S' hqc la b scr dC dI dA p e s m args below meth c H1 locs1 ls hc hl hP1 hS1 hX1
    have h5 : (r.toList ++ rest).map (dv_tr scr b) = (r.map (dv_tr scr b)).toList ++ rest.map (dv_tr scr b) := by
      cases r <;> simp
    rw [h5] at h
    exact h
theorem J_ldc2 {idx : Nat} {v : Int64} (hk : Cond.constantLong y.cls idx v ∈ dv_T) (hd : decode cc pc = .ok (.ldc2_w idx, 3)) (hp : pc + 3 = pc') (k : dv_J y cc n ret R cs ss pc' l (.long v :: st) S Q) : dv_J y cc n ret R cs ss pc l st S Q := by
  intro la b scr dC dI dA p e s m args below meth c H locs ls hc hl hP hS hX
  subst hp
  exact lv_ldc2 hc.1 hc.2.1 hc.2.2.2.2.2.1 (hc.2.2.2.2.2.2.1 _ hk) hd (k la b scr dC dI dA p e s m args below meth c H locs ls hc hl hP hS hX)
end
end
section
section
variable {y : MethodName} {cc : ByteArray} {n : Nat} {ret : Option FieldType} {R : Room} {cs ss pc pc' : Nat} {l l' : List (Option Value)} {st : List Value} {S : dv_S} {Q : Option Value → dv_S → Prop}
theorem J_lcmp {x z : Int64} (hd : decode cc pc = .ok (.lcmp, 1)) (hp : pc + 1 = pc') (k : dv_J y cc n ret R cs ss pc' l (.int (lg_cmp x z) :: st) S Q) : dv_J y cc n ret R cs ss pc l (.long z :: .long x :: st) S Q := by
  intro la b scr dC dI dA p e s m args below meth c H locs ls hc hl hP hS hX
  subst hp
  exact W.lcmp hc.1 hc.2.1 hd (k la b scr dC dI dA p e s m args below meth c H locs ls hc hl hP hS hX)
theorem dv_cmp0 {x z : Int64} : lg_cmp x z = 0 ↔ x = z := by
  unfold lg_cmp
  constructor
  · intro h
    repeat' split at h
    all_goals first | exact absurd h (by decide) | assumption
  · rintro rfl
    simp
theorem J_tswi {dflt lo hi off : Int} {offs : Array Int} {len pt : Nat} {x : Int32} (hd : decode cc pc = .ok (.tableswitch dflt lo hi offs, len)) (h1 : ¬ x.toInt < lo) (h2 : ¬ hi < x.toInt) (ho : offs[(x.toInt - lo).toNat]? = some off) (ht : (pc : Int) + off = (pt : Int)) (k : dv_J y cc n ret R cs ss pt l st S Q) : dv_J y cc n ret R cs ss pc l (.int x :: st) S Q := by
  intro la b scr dC dI dA p e s m args below meth c H locs ls hc hl hP hS hX
  exact lv_tableIn hc.1 hc.2.1 hd h1 h2 ho ht (k la b scr dC dI dA p e s m args below meth c H locs ls hc hl hP hS hX)
theorem J_tswo {dflt lo hi : Int} {offs : Array Int} {len pt : Nat} {x : Int32} (hd : decode cc pc = .ok (.tableswitch dflt lo hi offs, len)) (h : x.toInt < lo ∨ hi < x.toInt) (ht : (pc : Int) + dflt = (pt : Int)) (k : dv_J y cc n ret R cs ss pt l st S Q) : dv_J y cc n ret R cs ss pc l (.int x :: st) S Q := by
  intro la b scr dC dI dA p e s m args below meth c H locs ls hc hl hP hS hX
  exact lv_tableOut hc.1 hc.2.1 hd h ht (k la b scr dC dI dA p e s m args below meth c H locs ls hc hl hP hS hX)
theorem dv_sw (x : Int32) {k : Nat} (hk : k < 2 ^ 31) : (∃ j : Nat, j < k ∧ x = nI j) ∨ (x.toInt < 0 ∨ (k : Int) ≤ x.toInt) := by
  rcases pk_ix x hk with h | h | h
  · exact Or.inr (Or.inl (by simpa [Int32.lt_iff_toInt_lt] using h))
  · refine Or.inr (Or.inr ?_)
    rw [Int32.le_iff_toInt_le, nI_toInt hk] at h
    exact h
  · exact Or.inl h
end
/-- the room of a method d calls deep, that makes nothing -/
def dv_rm (d : Nat) : Room := { frames := d, cells := 0, slots := 0, locals := 32 * d }
theorem dv_rR (d : Nat) {n' : Nat} (h : n' ≤ 13) : (dv_rm d).frames + 1 ≤ (dv_rm (d + 1)).frames ∧ 8 + (n' + 11) + (dv_rm d).locals ≤ (dv_rm (d + 1)).locals := ⟨Nat.le_refl _, by show 8 + (n' + 11) + 32 * d ≤ 32 * (d + 1); omega⟩
theorem dv_r0 (d d' : Nat) : 0 + (dv_rm d').cells ≤ (dv_rm d).cells ∧ 0 + (dv_rm d').slots ≤ (dv_rm d).slots := ⟨Nat.le_refl _, Nat.le_refl _⟩
theorem dv_r1 (d : Nat) : 0 ≤ (dv_rm d).cells ∧ 0 ≤ (dv_rm d).slots := ⟨Nat.le_refl _, Nat.le_refl _⟩
end
section
theorem kX0 : dv_cl 0 RX0 TX0 6 := ⟨rfl, by decide, rfl, fun w hw => by
  have h : (u_ws RX0 TX0 6).all (fun w => decide (w ∈ lw_tbl) && goodWord w) = true := by decide +kernel
  have h1 := List.all_eq_true.mp h w hw
  simp only [Bool.and_eq_true, decide_eq_true_eq] at h1
  exact List.mem_filter.mpr h1, tyX0, tyX0_ok, nmX0⟩
theorem kX1 : dv_cl 1 RX1 TX1 4 := ⟨rfl, by decide, rfl, fun w hw => by
  have h : (u_ws RX1 TX1 4).all (fun w => decide (w ∈ lw_tbl) && goodWord w) = true := by decide +kernel
  have h1 := List.all_eq_true.mp h w hw
  simp only [Bool.and_eq_true, decide_eq_true_eq] at h1
  exact List.mem_filter.mpr h1, tyX1, tyX1_ok, nmX1⟩
theorem kX2 : dv_cl 2 RX2 TX2 3 := ⟨rfl, by decide, rfl, fun w hw => by
  have h : (u_ws RX2 TX2 3).all (fun w => decide (w ∈ lw_tbl) && goodWord w) = true := by decide +kernel
  have h1 := List.all_eq_true.mp h w hw
  simp only [Bool.and_eq_true, decide_eq_true_eq] at h1
  exact List.mem_filter.mpr h1, tyX2, tyX2_ok, nmX2⟩
theorem kX3 : dv_cl 3 RX3 TX3 2 := ⟨rfl, by decide, rfl, fun w hw => by
  have h : (u_ws RX3 TX3 2).all (fun w => decide (w ∈ lw_tbl) && goodWord w) = true := by decide +kernel
  have h1 := List.all_eq_true.mp h w hw
  simp only [Bool.and_eq_true, decide_eq_true_eq] at h1
  exact List.mem_filter.mpr h1, tyX3, tyX3_ok, nmX3⟩
theorem kX4 : dv_cl 4 RX4 TX4 3 := ⟨rfl, by decide, rfl, fun w hw => by
  have h : (u_ws RX4 TX4 3).all (fun w => decide (w ∈ lw_tbl) && goodWord w) = true := by decide +kernel
  have h1 := List.all_eq_true.mp h w hw
  simp only [Bool.and_eq_true, decide_eq_true_eq] at h1
  exact List.mem_filter.mpr h1, tyX4, tyX4_ok, nmX4⟩
theorem kX5 : dv_cl 5 RX5 TX5 4 := ⟨rfl, by decide, rfl, fun w hw => by
  have h : (u_ws RX5 TX5 4).all (fun w => decide (w ∈ lw_tbl) && goodWord w) = true := by decide +kernel
  have h1 := List.all_eq_true.mp h w hw
  simp only [Bool.and_eq_true, decide_eq_true_eq] at h1
  exact List.mem_filter.mpr h1, tyX5, tyX5_ok, nmX5⟩
theorem kX6 : dv_cl 6 RX6 TX6 3 := ⟨rfl, by decide, rfl, fun w hw => by
  have h : (u_ws RX6 TX6 3).all (fun w => decide (w ∈ lw_tbl) && goodWord w) = true := by decide +kernel
  have h1 := List.all_eq_true.mp h w hw
  simp only [Bool.and_eq_true, decide_eq_true_eq] at h1
  exact List.mem_filter.mpr h1, tyX6, tyX6_ok, nmX6⟩
theorem kX7 : dv_cl 7 RX7 TX7 15 := ⟨rfl, by decide, rfl, fun w hw => by
  have h : (u_ws RX7 TX7 15).all (fun w => decide (w ∈ lw_tbl) && goodWord w) = true := by decide +kernel
  have h1 := List.all_eq_true.mp h w hw
  simp only [Bool.and_eq_true, decide_eq_true_eq] at h1
  exact List.mem_filter.mpr h1, tyX7, tyX7_ok, nmX7⟩
theorem kX8 : dv_cl 8 RX8 TX8 38 := ⟨rfl, by decide, rfl, fun w hw => by
  have h : (u_ws RX8 TX8 38).all (fun w => decide (w ∈ lw_tbl) && goodWord w) = true := by decide +kernel
  have h1 := List.all_eq_true.mp h w hw
  simp only [Bool.and_eq_true, decide_eq_true_eq] at h1
  exact List.mem_filter.mpr h1, tyX8, tyX8_ok, nmX8⟩
theorem fX4_19 : dv_F RX4 19 4 0 true (.array .int) := ⟨_, _, _, kX4, by decide, dv_T_in (i := 76) (by decide +kernel) rfl, rfl, by decide +kernel⟩
theorem fX4_9 : dv_F RX4 9 4 1 false .int := ⟨_, _, _, kX4, by decide, dv_T_in (i := 77) (by decide +kernel) rfl, rfl, by decide +kernel⟩
theorem fX4_15 : dv_F RX4 15 4 2 false .boolean := ⟨_, _, _, kX4, by decide, dv_T_in (i := 78) (by decide +kernel) rfl, rfl, by decide +kernel⟩
theorem fX1_9 : dv_F RX1 9 1 0 true (.array .int) := ⟨_, _, _, kX1, by decide, dv_T_in (i := 93) (by decide +kernel) rfl, rfl, by decide +kernel⟩
theorem fX1_15 : dv_F RX1 15 1 1 true (.array .int) := ⟨_, _, _, kX1, by decide, dv_T_in (i := 94) (by decide +kernel) rfl, rfl, by decide +kernel⟩
theorem fX1_18 : dv_F RX1 18 1 2 true (.array .int) := ⟨_, _, _, kX1, by decide, dv_T_in (i := 95) (by decide +kernel) rfl, rfl, by decide +kernel⟩
theorem fX1_21 : dv_F RX1 21 1 3 false .int := ⟨_, _, _, kX1, by decide, dv_T_in (i := 96) (by decide +kernel) rfl, rfl, by decide +kernel⟩
theorem fX0_9 : dv_F RX0 9 0 0 true (.array .long) := ⟨_, _, _, kX0, by decide, dv_T_in (i := 112) (by decide +kernel) rfl, rfl, by decide +kernel⟩
theorem fX0_15 : dv_F RX0 15 0 1 true (.array .int) := ⟨_, _, _, kX0, by decide, dv_T_in (i := 113) (by decide +kernel) rfl, rfl, by decide +kernel⟩
theorem fX0_19 : dv_F RX0 19 0 2 true (.array .int) := ⟨_, _, _, kX0, by decide, dv_T_in (i := 114) (by decide +kernel) rfl, rfl, by decide +kernel⟩
theorem fX0_22 : dv_F RX0 22 0 3 true (.array .int) := ⟨_, _, _, kX0, by decide, dv_T_in (i := 115) (by decide +kernel) rfl, rfl, by decide +kernel⟩
theorem fX0_25 : dv_F RX0 25 0 4 true (.array .int) := ⟨_, _, _, kX0, by decide, dv_T_in (i := 116) (by decide +kernel) rfl, rfl, by decide +kernel⟩
theorem fX0_28 : dv_F RX0 28 0 5 false .int := ⟨_, _, _, kX0, by decide, dv_T_in (i := 117) (by decide +kernel) rfl, rfl, by decide +kernel⟩
theorem fX3_9 : dv_F RX3 9 3 0 true (.array .int) := ⟨_, _, _, kX3, by decide, dv_T_in (i := 138) (by decide +kernel) rfl, rfl, by decide +kernel⟩
theorem fX3_15 : dv_F RX3 15 3 1 false .int := ⟨_, _, _, kX3, by decide, dv_T_in (i := 139) (by decide +kernel) rfl, rfl, by decide +kernel⟩
theorem fX5_9 : dv_F RX5 9 5 0 true (.array .int) := ⟨_, _, _, kX5, by decide, dv_T_in (i := 154) (by decide +kernel) rfl, rfl, by decide +kernel⟩
theorem fX5_15 : dv_F RX5 15 5 1 true (.array .int) := ⟨_, _, _, kX5, by decide, dv_T_in (i := 155) (by decide +kernel) rfl, rfl, by decide +kernel⟩
theorem fX5_20 : dv_F RX5 20 5 2 true (.array (.object "NameHouse$Text")) := ⟨_, _, _, kX5, by decide, dv_T_in (i := 156) (by decide +kernel) rfl, rfl, by decide +kernel⟩
theorem fX5_24 : dv_F RX5 24 5 3 false .int := ⟨_, _, _, kX5, by decide, dv_T_in (i := 157) (by decide +kernel) rfl, rfl, by decide +kernel⟩
theorem fX6_9 : dv_F RX6 9 6 0 true (.array .int) := ⟨_, _, _, kX6, by decide, dv_T_in (i := 173) (by decide +kernel) rfl, rfl, by decide +kernel⟩
theorem fX6_15 : dv_F RX6 15 6 1 true (.array .int) := ⟨_, _, _, kX6, by decide, dv_T_in (i := 174) (by decide +kernel) rfl, rfl, by decide +kernel⟩
theorem fX6_18 : dv_F RX6 18 6 2 false .int := ⟨_, _, _, kX6, by decide, dv_T_in (i := 175) (by decide +kernel) rfl, rfl, by decide +kernel⟩
theorem fX2_9 : dv_F RX2 9 2 0 true (.array .boolean) := ⟨_, _, _, kX2, by decide, dv_T_in (i := 191) (by decide +kernel) rfl, rfl, by decide +kernel⟩
theorem fX2_17 : dv_F RX2 17 2 1 true (.array (.object "NameHouse$Text")) := ⟨_, _, _, kX2, by decide, dv_T_in (i := 192) (by decide +kernel) rfl, rfl, by decide +kernel⟩
theorem fX2_21 : dv_F RX2 21 2 2 false .int := ⟨_, _, _, kX2, by decide, dv_T_in (i := 193) (by decide +kernel) rfl, rfl, by decide +kernel⟩
theorem fX7_14 : dv_F RX7 14 7 0 true (.object "NameHouse$Text") := ⟨_, _, _, kX7, by decide, dv_T_in (i := 202) (by decide +kernel) rfl, rfl, by decide +kernel⟩
theorem fX7_18 : dv_F RX7 18 7 1 true (.object "NameHouse$Text") := ⟨_, _, _, kX7, by decide, dv_T_in (i := 203) (by decide +kernel) rfl, rfl, by decide +kernel⟩
theorem fX7_21 : dv_F RX7 21 7 2 true (.object "NameHouse$Text") := ⟨_, _, _, kX7, by decide, dv_T_in (i := 204) (by decide +kernel) rfl, rfl, by decide +kernel⟩
theorem fX7_24 : dv_F RX7 24 7 3 true (.object "NameHouse$Text") := ⟨_, _, _, kX7, by decide, dv_T_in (i := 205) (by decide +kernel) rfl, rfl, by decide +kernel⟩
theorem fX7_30 : dv_F RX7 30 7 4 true (.object "NameHouse$Cut") := ⟨_, _, _, kX7, by decide, dv_T_in (i := 206) (by decide +kernel) rfl, rfl, by decide +kernel⟩
theorem fX7_37 : dv_F RX7 37 7 5 true (.object "NameHouse$Book") := ⟨_, _, _, kX7, by decide, dv_T_in (i := 207) (by decide +kernel) rfl, rfl, by decide +kernel⟩
theorem fX7_44 : dv_F RX7 44 7 6 true (.object "NameHouse$Scopes") := ⟨_, _, _, kX7, by decide, dv_T_in (i := 208) (by decide +kernel) rfl, rfl, by decide +kernel⟩
theorem fX7_51 : dv_F RX7 51 7 7 true (.object "NameHouse$Things") := ⟨_, _, _, kX7, by decide, dv_T_in (i := 209) (by decide +kernel) rfl, rfl, by decide +kernel⟩
theorem fX7_58 : dv_F RX7 58 7 8 true (.object "NameHouse$Uses") := ⟨_, _, _, kX7, by decide, dv_T_in (i := 210) (by decide +kernel) rfl, rfl, by decide +kernel⟩
theorem fX7_65 : dv_F RX7 65 7 9 true (.object "NameHouse$Renames") := ⟨_, _, _, kX7, by decide, dv_T_in (i := 211) (by decide +kernel) rfl, rfl, by decide +kernel⟩
theorem fX7_69 : dv_F RX7 69 7 10 true (.object "NameHouse$Renames") := ⟨_, _, _, kX7, by decide, dv_T_in (i := 212) (by decide +kernel) rfl, rfl, by decide +kernel⟩
theorem fX7_72 : dv_F RX7 72 7 11 true (.array .boolean) := ⟨_, _, _, kX7, by decide, dv_T_in (i := 213) (by decide +kernel) rfl, rfl, by decide +kernel⟩
theorem fX7_76 : dv_F RX7 76 7 12 true (.array .int) := ⟨_, _, _, kX7, by decide, dv_T_in (i := 214) (by decide +kernel) rfl, rfl, by decide +kernel⟩
theorem fX7_80 : dv_F RX7 80 7 13 false .boolean := ⟨_, _, _, kX7, by decide, dv_T_in (i := 215) (by decide +kernel) rfl, rfl, by decide +kernel⟩
theorem fX7_84 : dv_F RX7 84 7 14 false .int := ⟨_, _, _, kX7, by decide, dv_T_in (i := 216) (by decide +kernel) rfl, rfl, by decide +kernel⟩
theorem fX8_1 : dv_F RX8 1 8 0 false .int := ⟨_, _, _, kX8, by decide, dv_T_in (i := 852) (by decide +kernel) rfl, rfl, by decide +kernel⟩
theorem fX8_7 : dv_F RX8 7 8 1 false .int := ⟨_, _, _, kX8, by decide, dv_T_in (i := 853) (by decide +kernel) rfl, rfl, by decide +kernel⟩
theorem fX8_13 : dv_F RX8 13 8 2 true (.array .byte) := ⟨_, _, _, kX8, by decide, dv_T_in (i := 854) (by decide +kernel) rfl, rfl, by decide +kernel⟩
theorem fX8_10 : dv_F RX8 10 8 3 false .int := ⟨_, _, _, kX8, by decide, dv_T_in (i := 855) (by decide +kernel) rfl, rfl, by decide +kernel⟩
theorem fX8_40 : dv_F RX8 40 8 4 false .int := ⟨_, _, _, kX8, by decide, dv_T_in (i := 856) (by decide +kernel) rfl, rfl, by decide +kernel⟩
theorem fX8_120 : dv_F RX8 120 8 5 false .int := ⟨_, _, _, kX8, by decide, dv_T_in (i := 857) (by decide +kernel) rfl, rfl, by decide +kernel⟩
theorem fX8_137 : dv_F RX8 137 8 6 false .int := ⟨_, _, _, kX8, by decide, dv_T_in (i := 858) (by decide +kernel) rfl, rfl, by decide +kernel⟩
theorem fX8_43 : dv_F RX8 43 8 7 true (.array .int) := ⟨_, _, _, kX8, by decide, dv_T_in (i := 859) (by decide +kernel) rfl, rfl, by decide +kernel⟩
theorem fX8_47 : dv_F RX8 47 8 8 true (.array .int) := ⟨_, _, _, kX8, by decide, dv_T_in (i := 860) (by decide +kernel) rfl, rfl, by decide +kernel⟩
theorem fX8_50 : dv_F RX8 50 8 9 true (.array .int) := ⟨_, _, _, kX8, by decide, dv_T_in (i := 861) (by decide +kernel) rfl, rfl, by decide +kernel⟩
theorem fX8_53 : dv_F RX8 53 8 10 true (.array .int) := ⟨_, _, _, kX8, by decide, dv_T_in (i := 862) (by decide +kernel) rfl, rfl, by decide +kernel⟩
theorem fX8_56 : dv_F RX8 56 8 11 true (.array .int) := ⟨_, _, _, kX8, by decide, dv_T_in (i := 863) (by decide +kernel) rfl, rfl, by decide +kernel⟩
theorem fX8_59 : dv_F RX8 59 8 12 true (.array .int) := ⟨_, _, _, kX8, by decide, dv_T_in (i := 864) (by decide +kernel) rfl, rfl, by decide +kernel⟩
theorem fX8_62 : dv_F RX8 62 8 13 true (.array .byte) := ⟨_, _, _, kX8, by decide, dv_T_in (i := 865) (by decide +kernel) rfl, rfl, by decide +kernel⟩
theorem fX8_65 : dv_F RX8 65 8 14 true (.array .int) := ⟨_, _, _, kX8, by decide, dv_T_in (i := 866) (by decide +kernel) rfl, rfl, by decide +kernel⟩
theorem fX8_68 : dv_F RX8 68 8 15 true (.array .int) := ⟨_, _, _, kX8, by decide, dv_T_in (i := 867) (by decide +kernel) rfl, rfl, by decide +kernel⟩
theorem fX8_162 : dv_F RX8 162 8 16 false .int := ⟨_, _, _, kX8, by decide, dv_T_in (i := 868) (by decide +kernel) rfl, rfl, by decide +kernel⟩
theorem fX8_165 : dv_F RX8 165 8 17 false .int := ⟨_, _, _, kX8, by decide, dv_T_in (i := 869) (by decide +kernel) rfl, rfl, by decide +kernel⟩
theorem fX8_71 : dv_F RX8 71 8 18 true (.array .byte) := ⟨_, _, _, kX8, by decide, dv_T_in (i := 870) (by decide +kernel) rfl, rfl, by decide +kernel⟩
theorem fX8_74 : dv_F RX8 74 8 19 true (.array .int) := ⟨_, _, _, kX8, by decide, dv_T_in (i := 871) (by decide +kernel) rfl, rfl, by decide +kernel⟩
theorem fX8_77 : dv_F RX8 77 8 20 true (.array .int) := ⟨_, _, _, kX8, by decide, dv_T_in (i := 872) (by decide +kernel) rfl, rfl, by decide +kernel⟩
theorem fX8_80 : dv_F RX8 80 8 21 true (.array .int) := ⟨_, _, _, kX8, by decide, dv_T_in (i := 873) (by decide +kernel) rfl, rfl, by decide +kernel⟩
theorem fX8_83 : dv_F RX8 83 8 22 true (.array .int) := ⟨_, _, _, kX8, by decide, dv_T_in (i := 874) (by decide +kernel) rfl, rfl, by decide +kernel⟩
theorem fX8_86 : dv_F RX8 86 8 23 true (.array .int) := ⟨_, _, _, kX8, by decide, dv_T_in (i := 875) (by decide +kernel) rfl, rfl, by decide +kernel⟩
theorem fX8_89 : dv_F RX8 89 8 24 true (.array .byte) := ⟨_, _, _, kX8, by decide, dv_T_in (i := 876) (by decide +kernel) rfl, rfl, by decide +kernel⟩
theorem fX8_92 : dv_F RX8 92 8 25 true (.array .byte) := ⟨_, _, _, kX8, by decide, dv_T_in (i := 877) (by decide +kernel) rfl, rfl, by decide +kernel⟩
theorem fX8_220 : dv_F RX8 220 8 26 false .int := ⟨_, _, _, kX8, by decide, dv_T_in (i := 878) (by decide +kernel) rfl, rfl, by decide +kernel⟩
theorem fX8_210 : dv_F RX8 210 8 27 false .int := ⟨_, _, _, kX8, by decide, dv_T_in (i := 879) (by decide +kernel) rfl, rfl, by decide +kernel⟩
theorem fX8_95 : dv_F RX8 95 8 28 true (.array .boolean) := ⟨_, _, _, kX8, by decide, dv_T_in (i := 880) (by decide +kernel) rfl, rfl, by decide +kernel⟩
theorem fX8_99 : dv_F RX8 99 8 29 true (.array .boolean) := ⟨_, _, _, kX8, by decide, dv_T_in (i := 881) (by decide +kernel) rfl, rfl, by decide +kernel⟩
theorem fX8_102 : dv_F RX8 102 8 30 true (.array .byte) := ⟨_, _, _, kX8, by decide, dv_T_in (i := 882) (by decide +kernel) rfl, rfl, by decide +kernel⟩
theorem fX8_105 : dv_F RX8 105 8 31 true (.array .byte) := ⟨_, _, _, kX8, by decide, dv_T_in (i := 883) (by decide +kernel) rfl, rfl, by decide +kernel⟩
theorem fX8_108 : dv_F RX8 108 8 32 true (.array .byte) := ⟨_, _, _, kX8, by decide, dv_T_in (i := 884) (by decide +kernel) rfl, rfl, by decide +kernel⟩
theorem fX8_111 : dv_F RX8 111 8 33 true (.array .int) := ⟨_, _, _, kX8, by decide, dv_T_in (i := 885) (by decide +kernel) rfl, rfl, by decide +kernel⟩
theorem fX8_114 : dv_F RX8 114 8 34 true (.array .int) := ⟨_, _, _, kX8, by decide, dv_T_in (i := 886) (by decide +kernel) rfl, rfl, by decide +kernel⟩
theorem fX8_117 : dv_F RX8 117 8 35 true (.array .int) := ⟨_, _, _, kX8, by decide, dv_T_in (i := 887) (by decide +kernel) rfl, rfl, by decide +kernel⟩
theorem fX8_151 : dv_F RX8 151 8 36 false .boolean := ⟨_, _, _, kX8, by decide, dv_T_in (i := 888) (by decide +kernel) rfl, rfl, by decide +kernel⟩
theorem fX8_233 : dv_F RX8 233 8 37 false .int := ⟨_, _, _, kX8, by decide, dv_T_in (i := 889) (by decide +kernel) rfl, rfl, by decide +kernel⟩
theorem vX0_size : dv_mv yX0_size cX0_size 1 (some .int) 0 0 := ⟨⟨dv_T_in (i := 750) (by decide +kernel) rfl, dv_T_in (i := 51) (by decide +kernel) rfl, ⟨by decide +kernel, by decide +kernel⟩, by decide +kernel⟩, dv_T_in (i := 748) (by decide +kernel) rfl, dv_T_in (i := 749) (by decide +kernel) rfl, _, _, kX0⟩
theorem vX0_isFull : dv_mv yX0_isFull cX0_isFull 1 (some .boolean) 0 0 := ⟨⟨dv_T_in (i := 539) (by decide +kernel) rfl, dv_T_in (i := 51) (by decide +kernel) rfl, ⟨by decide +kernel, by decide +kernel⟩, by decide +kernel⟩, dv_T_in (i := 537) (by decide +kernel) rfl, dv_T_in (i := 538) (by decide +kernel) rfl, _, _, kX0⟩
theorem vX0_has : dv_mv yX0_has cX0_has 2 (some .boolean) 1 0 := ⟨⟨dv_T_in (i := 510) (by decide +kernel) rfl, dv_T_in (i := 51) (by decide +kernel) rfl, ⟨by decide +kernel, by decide +kernel⟩, by decide +kernel⟩, dv_T_in (i := 508) (by decide +kernel) rfl, dv_T_in (i := 509) (by decide +kernel) rfl, _, _, kX0⟩
theorem vX0_add : dv_mv yX0_add cX0_add 5 (some .int) 2 0 := ⟨⟨dv_T_in (i := 543) (by decide +kernel) rfl, dv_T_in (i := 51) (by decide +kernel) rfl, ⟨by decide +kernel, by decide +kernel⟩, by decide +kernel⟩, dv_T_in (i := 541) (by decide +kernel) rfl, dv_T_in (i := 542) (by decide +kernel) rfl, _, _, kX0⟩
theorem vX0_numberOf : dv_mv yX0_numberOf cX0_numberOf 4 (some .int) 1 0 := ⟨⟨dv_T_in (i := 498) (by decide +kernel) rfl, dv_T_in (i := 51) (by decide +kernel) rfl, ⟨by decide +kernel, by decide +kernel⟩, by decide +kernel⟩, dv_T_in (i := 496) (by decide +kernel) rfl, dv_T_in (i := 497) (by decide +kernel) rfl, _, _, kX0⟩
theorem vX0_lengthOf : dv_mv yX0_lengthOf cX0_lengthOf 6 (some .int) 1 0 := ⟨⟨dv_T_in (i := 655) (by decide +kernel) rfl, dv_T_in (i := 51) (by decide +kernel) rfl, ⟨by decide +kernel, by decide +kernel⟩, by decide +kernel⟩, dv_T_in (i := 653) (by decide +kernel) rfl, dv_T_in (i := 654) (by decide +kernel) rfl, _, _, kX0⟩
theorem vX0_letterOf : dv_mv yX0_letterOf cX0_letterOf 4 (some .int) 2 0 := ⟨⟨dv_T_in (i := 660) (by decide +kernel) rfl, dv_T_in (i := 51) (by decide +kernel) rfl, ⟨by decide +kernel, by decide +kernel⟩, by decide +kernel⟩, dv_T_in (i := 658) (by decide +kernel) rfl, dv_T_in (i := 659) (by decide +kernel) rfl, _, _, kX0⟩
theorem vX0_rolesOf : dv_mv yX0_rolesOf cX0_rolesOf 2 (some .int) 1 0 := ⟨⟨dv_T_in (i := 506) (by decide +kernel) rfl, dv_T_in (i := 51) (by decide +kernel) rfl, ⟨by decide +kernel, by decide +kernel⟩, by decide +kernel⟩, dv_T_in (i := 504) (by decide +kernel) rfl, dv_T_in (i := 505) (by decide +kernel) rfl, _, _, kX0⟩
theorem vX0_roleOf : dv_mv yX0_roleOf cX0_roleOf 3 (some .int) 1 0 := ⟨⟨dv_T_in (i := 502) (by decide +kernel) rfl, dv_T_in (i := 51) (by decide +kernel) rfl, ⟨by decide +kernel, by decide +kernel⟩, by decide +kernel⟩, dv_T_in (i := 500) (by decide +kernel) rfl, dv_T_in (i := 501) (by decide +kernel) rfl, _, _, kX0⟩
theorem vX0_shortFor : dv_mv yX0_shortFor cX0_shortFor 2 (some .int) 1 0 := ⟨⟨dv_T_in (i := 570) (by decide +kernel) rfl, dv_T_in (i := 51) (by decide +kernel) rfl, ⟨by decide +kernel, by decide +kernel⟩, by decide +kernel⟩, dv_T_in (i := 568) (by decide +kernel) rfl, dv_T_in (i := 569) (by decide +kernel) rfl, _, _, kX0⟩
theorem vX0_setShort : dv_mv yX0_setShort cX0_setShort 3 none 2 0 := ⟨⟨dv_T_in (i := 553) (by decide +kernel) rfl, dv_T_in (i := 51) (by decide +kernel) rfl, ⟨by decide +kernel, by decide +kernel⟩, by decide +kernel⟩, dv_T_in (i := 551) (by decide +kernel) rfl, dv_T_in (i := 552) (by decide +kernel) rfl, _, _, kX0⟩
theorem vX0_opened : dv_mv yX0_opened cX0_opened 4 (some .int) 1 0 := ⟨⟨dv_T_in (i := 582) (by decide +kernel) rfl, dv_T_in (i := 51) (by decide +kernel) rfl, ⟨by decide +kernel, by decide +kernel⟩, by decide +kernel⟩, dv_T_in (i := 580) (by decide +kernel) rfl, dv_T_in (i := 581) (by decide +kernel) rfl, _, _, kX0⟩
theorem vX0_join : dv_mv yX0_join cX0_join 6 none 2 0 := ⟨⟨dv_T_in (i := 561) (by decide +kernel) rfl, dv_T_in (i := 51) (by decide +kernel) rfl, ⟨by decide +kernel, by decide +kernel⟩, by decide +kernel⟩, dv_T_in (i := 559) (by decide +kernel) rfl, dv_T_in (i := 560) (by decide +kernel) rfl, _, _, kX0⟩
theorem vX0_groupSize : dv_mv yX0_groupSize cX0_groupSize 4 (some .int) 1 0 := ⟨⟨dv_T_in (i := 600) (by decide +kernel) rfl, dv_T_in (i := 51) (by decide +kernel) rfl, ⟨by decide +kernel, by decide +kernel⟩, by decide +kernel⟩, dv_T_in (i := 598) (by decide +kernel) rfl, dv_T_in (i := 599) (by decide +kernel) rfl, _, _, kX0⟩
theorem vX0_clearUsed : dv_mv yX0_clearUsed cX0_clearUsed 2 none 0 0 := ⟨⟨dv_T_in (i := 578) (by decide +kernel) rfl, dv_T_in (i := 51) (by decide +kernel) rfl, ⟨by decide +kernel, by decide +kernel⟩, by decide +kernel⟩, dv_T_in (i := 576) (by decide +kernel) rfl, dv_T_in (i := 577) (by decide +kernel) rfl, _, _, kX0⟩
theorem vX0_addUsed : dv_mv yX0_addUsed cX0_addUsed 2 none 1 0 := ⟨⟨dv_T_in (i := 587) (by decide +kernel) rfl, dv_T_in (i := 51) (by decide +kernel) rfl, ⟨by decide +kernel, by decide +kernel⟩, by decide +kernel⟩, dv_T_in (i := 585) (by decide +kernel) rfl, dv_T_in (i := 586) (by decide +kernel) rfl, _, _, kX0⟩
theorem vX0_usedOf : dv_mv yX0_usedOf cX0_usedOf 2 (some .int) 1 0 := ⟨⟨dv_T_in (i := 591) (by decide +kernel) rfl, dv_T_in (i := 51) (by decide +kernel) rfl, ⟨by decide +kernel, by decide +kernel⟩, by decide +kernel⟩, dv_T_in (i := 589) (by decide +kernel) rfl, dv_T_in (i := 590) (by decide +kernel) rfl, _, _, kX0⟩
theorem vX0_headOf : dv_mv yX0_headOf cX0_headOf 4 (some .int) 1 0 := ⟨⟨dv_T_in (i := 595) (by decide +kernel) rfl, dv_T_in (i := 51) (by decide +kernel) rfl, ⟨by decide +kernel, by decide +kernel⟩, by decide +kernel⟩, dv_T_in (i := 593) (by decide +kernel) rfl, dv_T_in (i := 594) (by decide +kernel) rfl, _, _, kX0⟩
theorem vX0_mixedGroups : dv_mv yX0_mixedGroups cX0_mixedGroups 5 (some .int) 0 0 := ⟨⟨dv_T_in (i := 633) (by decide +kernel) rfl, dv_T_in (i := 51) (by decide +kernel) rfl, ⟨by decide +kernel, by decide +kernel⟩, by decide +kernel⟩, dv_T_in (i := 631) (by decide +kernel) rfl, dv_T_in (i := 632) (by decide +kernel) rfl, _, _, kX0⟩
theorem vX1_size : dv_mv yX1_size cX1_size 1 (some .int) 0 1 := ⟨⟨dv_T_in (i := 463) (by decide +kernel) rfl, dv_T_in (i := 50) (by decide +kernel) rfl, ⟨by decide +kernel, by decide +kernel⟩, by decide +kernel⟩, dv_T_in (i := 461) (by decide +kernel) rfl, dv_T_in (i := 462) (by decide +kernel) rfl, _, _, kX1⟩
theorem vX1_has : dv_mv yX1_has cX1_has 2 (some .boolean) 1 1 := ⟨⟨dv_T_in (i := 485) (by decide +kernel) rfl, dv_T_in (i := 50) (by decide +kernel) rfl, ⟨by decide +kernel, by decide +kernel⟩, by decide +kernel⟩, dv_T_in (i := 483) (by decide +kernel) rfl, dv_T_in (i := 484) (by decide +kernel) rfl, _, _, kX1⟩
theorem vX1_lengthOf : dv_mv yX1_lengthOf cX1_lengthOf 2 (some .int) 1 1 := ⟨⟨dv_T_in (i := 481) (by decide +kernel) rfl, dv_T_in (i := 50) (by decide +kernel) rfl, ⟨by decide +kernel, by decide +kernel⟩, by decide +kernel⟩, dv_T_in (i := 479) (by decide +kernel) rfl, dv_T_in (i := 480) (by decide +kernel) rfl, _, _, kX1⟩
theorem vX1_at : dv_mv yX1_at cX1_at 3 (some .int) 2 1 := ⟨⟨dv_T_in (i := 493) (by decide +kernel) rfl, dv_T_in (i := 50) (by decide +kernel) rfl, ⟨by decide +kernel, by decide +kernel⟩, by decide +kernel⟩, dv_T_in (i := 491) (by decide +kernel) rfl, dv_T_in (i := 492) (by decide +kernel) rfl, _, _, kX1⟩
theorem vX7_isDigit : dv_ms yX7_isDigit cX7_isDigit 1 (some .boolean) 1 := ⟨⟨dv_T_in (i := 328) (by decide +kernel) rfl, dv_T_in (i := 48) (by decide +kernel) rfl, ⟨by decide +kernel, by decide +kernel⟩, by decide +kernel⟩, dv_T_in (i := 327) (by decide +kernel) rfl⟩
theorem vX1_isNumber : dv_mv yX1_isNumber cX1_isNumber 2 (some .boolean) 1 1 := ⟨⟨dv_T_in (i := 489) (by decide +kernel) rfl, dv_T_in (i := 50) (by decide +kernel) rfl, ⟨by decide +kernel, by decide +kernel⟩, by decide +kernel⟩, dv_T_in (i := 487) (by decide +kernel) rfl, dv_T_in (i := 488) (by decide +kernel) rfl, _, _, kX1⟩
theorem vX1_keyOf : dv_mv yX1_keyOf cX1_keyOf 6 (some .long) 1 1 := ⟨⟨dv_T_in (i := 477) (by decide +kernel) rfl, dv_T_in (i := 50) (by decide +kernel) rfl, ⟨by decide +kernel, by decide +kernel⟩, by decide +kernel⟩, dv_T_in (i := 475) (by decide +kernel) rfl, dv_T_in (i := 476) (by decide +kernel) rfl, _, _, kX1⟩
theorem vX4_size : dv_mv yX4_size cX4_size 1 (some .int) 0 4 := ⟨⟨dv_T_in (i := 255) (by decide +kernel) rfl, dv_T_in (i := 49) (by decide +kernel) rfl, ⟨by decide +kernel, by decide +kernel⟩, by decide +kernel⟩, dv_T_in (i := 253) (by decide +kernel) rfl, dv_T_in (i := 254) (by decide +kernel) rfl, _, _, kX4⟩
theorem vX4_has : dv_mv yX4_has cX4_has 2 (some .boolean) 1 4 := ⟨⟨dv_T_in (i := 320) (by decide +kernel) rfl, dv_T_in (i := 49) (by decide +kernel) rfl, ⟨by decide +kernel, by decide +kernel⟩, by decide +kernel⟩, dv_T_in (i := 318) (by decide +kernel) rfl, dv_T_in (i := 319) (by decide +kernel) rfl, _, _, kX4⟩
theorem vX4_at : dv_mv yX4_at cX4_at 2 (some .int) 1 4 := ⟨⟨dv_T_in (i := 316) (by decide +kernel) rfl, dv_T_in (i := 49) (by decide +kernel) rfl, ⟨by decide +kernel, by decide +kernel⟩, by decide +kernel⟩, dv_T_in (i := 314) (by decide +kernel) rfl, dv_T_in (i := 315) (by decide +kernel) rfl, _, _, kX4⟩
theorem vX7_isGreat : dv_ms yX7_isGreat cX7_isGreat 1 (some .boolean) 1 := ⟨⟨dv_T_in (i := 337) (by decide +kernel) rfl, dv_T_in (i := 48) (by decide +kernel) rfl, ⟨by decide +kernel, by decide +kernel⟩, by decide +kernel⟩, dv_T_in (i := 336) (by decide +kernel) rfl⟩
theorem vX7_smallOf : dv_ms yX7_smallOf cX7_smallOf 1 (some .int) 1 := ⟨⟨dv_T_in (i := 449) (by decide +kernel) rfl, dv_T_in (i := 48) (by decide +kernel) rfl, ⟨by decide +kernel, by decide +kernel⟩, by decide +kernel⟩, dv_T_in (i := 448) (by decide +kernel) rfl⟩
theorem vX1_add : dv_mv yX1_add cX1_add 3 none 2 1 := ⟨⟨dv_T_in (i := 453) (by decide +kernel) rfl, dv_T_in (i := 50) (by decide +kernel) rfl, ⟨by decide +kernel, by decide +kernel⟩, by decide +kernel⟩, dv_T_in (i := 452) (by decide +kernel) rfl, dv_T_in (i := 9) (by decide +kernel) rfl, _, _, kX1⟩
theorem vX7_isSmall : dv_ms yX7_isSmall cX7_isSmall 1 (some .boolean) 1 := ⟨⟨dv_T_in (i := 334) (by decide +kernel) rfl, dv_T_in (i := 48) (by decide +kernel) rfl, ⟨by decide +kernel, by decide +kernel⟩, by decide +kernel⟩, dv_T_in (i := 333) (by decide +kernel) rfl⟩
theorem vX1_isCutAhead : dv_ms yX1_isCutAhead cX1_isCutAhead 4 (some .boolean) 2 := ⟨⟨dv_T_in (i := 456) (by decide +kernel) rfl, dv_T_in (i := 50) (by decide +kernel) rfl, ⟨by decide +kernel, by decide +kernel⟩, by decide +kernel⟩, dv_T_in (i := 455) (by decide +kernel) rfl⟩
theorem vX1_split : dv_mv yX1_split cX1_split 5 none 1 1 := ⟨⟨dv_T_in (i := 441) (by decide +kernel) rfl, dv_T_in (i := 50) (by decide +kernel) rfl, ⟨by decide +kernel, by decide +kernel⟩, by decide +kernel⟩, dv_T_in (i := 439) (by decide +kernel) rfl, dv_T_in (i := 440) (by decide +kernel) rfl, _, _, kX1⟩
theorem vX2_size : dv_mv yX2_size cX2_size 1 (some .int) 0 2 := ⟨⟨dv_T_in (i := 684) (by decide +kernel) rfl, dv_T_in (i := 55) (by decide +kernel) rfl, ⟨by decide +kernel, by decide +kernel⟩, by decide +kernel⟩, dv_T_in (i := 682) (by decide +kernel) rfl, dv_T_in (i := 683) (by decide +kernel) rfl, _, _, kX2⟩
theorem vX2_has : dv_mv yX2_has cX2_has 2 (some .boolean) 1 2 := ⟨⟨dv_T_in (i := 361) (by decide +kernel) rfl, dv_T_in (i := 55) (by decide +kernel) rfl, ⟨by decide +kernel, by decide +kernel⟩, by decide +kernel⟩, dv_T_in (i := 359) (by decide +kernel) rfl, dv_T_in (i := 360) (by decide +kernel) rfl, _, _, kX2⟩
theorem vX2_nameOf : dv_mv yX2_nameOf cX2_nameOf 2 (some (.object "NameHouse$Text")) 1 2 := ⟨⟨dv_T_in (i := 365) (by decide +kernel) rfl, dv_T_in (i := 55) (by decide +kernel) rfl, ⟨by decide +kernel, by decide +kernel⟩, by decide +kernel⟩, dv_T_in (i := 363) (by decide +kernel) rfl, dv_T_in (i := 364) (by decide +kernel) rfl, _, _, kX2⟩
theorem vX4_clear : dv_mv yX4_clear cX4_clear 1 none 0 4 := ⟨⟨dv_T_in (i := 312) (by decide +kernel) rfl, dv_T_in (i := 49) (by decide +kernel) rfl, ⟨by decide +kernel, by decide +kernel⟩, by decide +kernel⟩, dv_T_in (i := 310) (by decide +kernel) rfl, dv_T_in (i := 311) (by decide +kernel) rfl, _, _, kX4⟩
theorem vX4_add : dv_mv yX4_add cX4_add 2 none 1 4 := ⟨⟨dv_T_in (i := 263) (by decide +kernel) rfl, dv_T_in (i := 49) (by decide +kernel) rfl, ⟨by decide +kernel, by decide +kernel⟩, by decide +kernel⟩, dv_T_in (i := 261) (by decide +kernel) rfl, dv_T_in (i := 262) (by decide +kernel) rfl, _, _, kX4⟩
theorem vX4_set : dv_mv yX4_set cX4_set 3 none 1 4 := ⟨⟨dv_T_in (i := 410) (by decide +kernel) rfl, dv_T_in (i := 49) (by decide +kernel) rfl, ⟨by decide +kernel, by decide +kernel⟩, by decide +kernel⟩, dv_T_in (i := 408) (by decide +kernel) rfl, dv_T_in (i := 409) (by decide +kernel) rfl, _, _, kX4⟩
theorem vX2_putAgain : dv_mv yX2_putAgain cX2_putAgain 2 none 1 2 := ⟨⟨dv_T_in (i := 680) (by decide +kernel) rfl, dv_T_in (i := 55) (by decide +kernel) rfl, ⟨by decide +kernel, by decide +kernel⟩, by decide +kernel⟩, dv_T_in (i := 678) (by decide +kernel) rfl, dv_T_in (i := 679) (by decide +kernel) rfl, _, _, kX2⟩
theorem vX2_put : dv_mv yX2_put cX2_put 3 none 2 2 := ⟨⟨dv_T_in (i := 674) (by decide +kernel) rfl, dv_T_in (i := 55) (by decide +kernel) rfl, ⟨by decide +kernel, by decide +kernel⟩, by decide +kernel⟩, dv_T_in (i := 672) (by decide +kernel) rfl, dv_T_in (i := 673) (by decide +kernel) rfl, _, _, kX2⟩
theorem vX2_drop : dv_mv yX2_drop cX2_drop 2 none 1 2 := ⟨⟨dv_T_in (i := 737) (by decide +kernel) rfl, dv_T_in (i := 55) (by decide +kernel) rfl, ⟨by decide +kernel, by decide +kernel⟩, by decide +kernel⟩, dv_T_in (i := 735) (by decide +kernel) rfl, dv_T_in (i := 736) (by decide +kernel) rfl, _, _, kX2⟩
theorem vX2_clear : dv_mv yX2_clear cX2_clear 2 none 0 2 := ⟨⟨dv_T_in (i := 692) (by decide +kernel) rfl, dv_T_in (i := 55) (by decide +kernel) rfl, ⟨by decide +kernel, by decide +kernel⟩, by decide +kernel⟩, dv_T_in (i := 690) (by decide +kernel) rfl, dv_T_in (i := 691) (by decide +kernel) rfl, _, _, kX2⟩
theorem vX3_size : dv_mv yX3_size cX3_size 1 (some .int) 0 3 := ⟨⟨dv_T_in (i := 746) (by decide +kernel) rfl, dv_T_in (i := 52) (by decide +kernel) rfl, ⟨by decide +kernel, by decide +kernel⟩, by decide +kernel⟩, dv_T_in (i := 744) (by decide +kernel) rfl, dv_T_in (i := 745) (by decide +kernel) rfl, _, _, kX3⟩
theorem vX3_isFull : dv_mv yX3_isFull cX3_isFull 1 (some .boolean) 0 3 := ⟨⟨dv_T_in (i := 279) (by decide +kernel) rfl, dv_T_in (i := 52) (by decide +kernel) rfl, ⟨by decide +kernel, by decide +kernel⟩, by decide +kernel⟩, dv_T_in (i := 277) (by decide +kernel) rfl, dv_T_in (i := 278) (by decide +kernel) rfl, _, _, kX3⟩
theorem vX3_has : dv_mv yX3_has cX3_has 2 (some .boolean) 1 3 := ⟨⟨dv_T_in (i := 271) (by decide +kernel) rfl, dv_T_in (i := 52) (by decide +kernel) rfl, ⟨by decide +kernel, by decide +kernel⟩, by decide +kernel⟩, dv_T_in (i := 269) (by decide +kernel) rfl, dv_T_in (i := 270) (by decide +kernel) rfl, _, _, kX3⟩
theorem vX3_addWithin : dv_mv yX3_addWithin cX3_addWithin 3 (some .int) 1 3 := ⟨⟨dv_T_in (i := 283) (by decide +kernel) rfl, dv_T_in (i := 52) (by decide +kernel) rfl, ⟨by decide +kernel, by decide +kernel⟩, by decide +kernel⟩, dv_T_in (i := 281) (by decide +kernel) rfl, dv_T_in (i := 282) (by decide +kernel) rfl, _, _, kX3⟩
theorem vX3_isWithin : dv_mv yX3_isWithin cX3_isWithin 3 (some .boolean) 2 3 := ⟨⟨dv_T_in (i := 397) (by decide +kernel) rfl, dv_T_in (i := 52) (by decide +kernel) rfl, ⟨by decide +kernel, by decide +kernel⟩, by decide +kernel⟩, dv_T_in (i := 395) (by decide +kernel) rfl, dv_T_in (i := 396) (by decide +kernel) rfl, _, _, kX3⟩
theorem vX4_addNumber : dv_mv yX4_addNumber cX4_addNumber 3 none 1 4 := ⟨⟨dv_T_in (i := 259) (by decide +kernel) rfl, dv_T_in (i := 49) (by decide +kernel) rfl, ⟨by decide +kernel, by decide +kernel⟩, by decide +kernel⟩, dv_T_in (i := 257) (by decide +kernel) rfl, dv_T_in (i := 258) (by decide +kernel) rfl, _, _, kX4⟩
theorem vX4_same : dv_mv yX4_same cX4_same 3 (some .boolean) 1 4 := ⟨⟨dv_T_in (i := 373) (by decide +kernel) rfl, dv_T_in (i := 49) (by decide +kernel) rfl, ⟨by decide +kernel, by decide +kernel⟩, by decide +kernel⟩, dv_T_in (i := 371) (by decide +kernel) rfl, dv_T_in (i := 372) (by decide +kernel) rfl, _, _, kX4⟩
theorem vX7_isLetter : dv_ms yX7_isLetter cX7_isLetter 1 (some .boolean) 1 := ⟨⟨dv_T_in (i := 331) (by decide +kernel) rfl, dv_T_in (i := 48) (by decide +kernel) rfl, ⟨by decide +kernel, by decide +kernel⟩, by decide +kernel⟩, dv_T_in (i := 330) (by decide +kernel) rfl⟩
theorem vX4_isName : dv_mv yX4_isName cX4_isName 3 (some .boolean) 0 4 := ⟨⟨dv_T_in (i := 325) (by decide +kernel) rfl, dv_T_in (i := 49) (by decide +kernel) rfl, ⟨by decide +kernel, by decide +kernel⟩, by decide +kernel⟩, dv_T_in (i := 323) (by decide +kernel) rfl, dv_T_in (i := 324) (by decide +kernel) rfl, _, _, kX4⟩
theorem vX4_isWord : dv_mv yX4_isWord cX4_isWord 2 (some .boolean) 0 4 := ⟨⟨dv_T_in (i := 535) (by decide +kernel) rfl, dv_T_in (i := 49) (by decide +kernel) rfl, ⟨by decide +kernel, by decide +kernel⟩, by decide +kernel⟩, dv_T_in (i := 533) (by decide +kernel) rfl, dv_T_in (i := 534) (by decide +kernel) rfl, _, _, kX4⟩
theorem vX4_style : dv_mv yX4_style cX4_style 7 (some .int) 0 4 := ⟨⟨dv_T_in (i := 467) (by decide +kernel) rfl, dv_T_in (i := 49) (by decide +kernel) rfl, ⟨by decide +kernel, by decide +kernel⟩, by decide +kernel⟩, dv_T_in (i := 465) (by decide +kernel) rfl, dv_T_in (i := 466) (by decide +kernel) rfl, _, _, kX4⟩
theorem vX5_size : dv_mv yX5_size cX5_size 1 (some .int) 0 5 := ⟨⟨dv_T_in (i := 345) (by decide +kernel) rfl, dv_T_in (i := 53) (by decide +kernel) rfl, ⟨by decide +kernel, by decide +kernel⟩, by decide +kernel⟩, dv_T_in (i := 343) (by decide +kernel) rfl, dv_T_in (i := 344) (by decide +kernel) rfl, _, _, kX5⟩
theorem vX5_isFull : dv_mv yX5_isFull cX5_isFull 1 (some .boolean) 0 5 := ⟨⟨dv_T_in (i := 401) (by decide +kernel) rfl, dv_T_in (i := 53) (by decide +kernel) rfl, ⟨by decide +kernel, by decide +kernel⟩, by decide +kernel⟩, dv_T_in (i := 399) (by decide +kernel) rfl, dv_T_in (i := 400) (by decide +kernel) rfl, _, _, kX5⟩
theorem vX5_has : dv_mv yX5_has cX5_has 2 (some .boolean) 1 5 := ⟨⟨dv_T_in (i := 353) (by decide +kernel) rfl, dv_T_in (i := 53) (by decide +kernel) rfl, ⟨by decide +kernel, by decide +kernel⟩, by decide +kernel⟩, dv_T_in (i := 351) (by decide +kernel) rfl, dv_T_in (i := 352) (by decide +kernel) rfl, _, _, kX5⟩
theorem vX5_add : dv_mv yX5_add cX5_add 5 (some .int) 3 5 := ⟨⟨dv_T_in (i := 405) (by decide +kernel) rfl, dv_T_in (i := 53) (by decide +kernel) rfl, ⟨by decide +kernel, by decide +kernel⟩, by decide +kernel⟩, dv_T_in (i := 403) (by decide +kernel) rfl, dv_T_in (i := 404) (by decide +kernel) rfl, _, _, kX5⟩
theorem vX5_scopeOf : dv_mv yX5_scopeOf cX5_scopeOf 2 (some .int) 1 5 := ⟨⟨dv_T_in (i := 349) (by decide +kernel) rfl, dv_T_in (i := 53) (by decide +kernel) rfl, ⟨by decide +kernel, by decide +kernel⟩, by decide +kernel⟩, dv_T_in (i := 347) (by decide +kernel) rfl, dv_T_in (i := 348) (by decide +kernel) rfl, _, _, kX5⟩
theorem vX5_kindOf : dv_mv yX5_kindOf cX5_kindOf 2 (some .int) 1 5 := ⟨⟨dv_T_in (i := 437) (by decide +kernel) rfl, dv_T_in (i := 53) (by decide +kernel) rfl, ⟨by decide +kernel, by decide +kernel⟩, by decide +kernel⟩, dv_T_in (i := 435) (by decide +kernel) rfl, dv_T_in (i := 436) (by decide +kernel) rfl, _, _, kX5⟩
theorem vX5_nameOf : dv_mv yX5_nameOf cX5_nameOf 2 (some (.object "NameHouse$Text")) 1 5 := ⟨⟨dv_T_in (i := 369) (by decide +kernel) rfl, dv_T_in (i := 53) (by decide +kernel) rfl, ⟨by decide +kernel, by decide +kernel⟩, by decide +kernel⟩, dv_T_in (i := 367) (by decide +kernel) rfl, dv_T_in (i := 368) (by decide +kernel) rfl, _, _, kX5⟩
theorem vX6_size : dv_mv yX6_size cX6_size 1 (some .int) 0 6 := ⟨⟨dv_T_in (i := 381) (by decide +kernel) rfl, dv_T_in (i := 54) (by decide +kernel) rfl, ⟨by decide +kernel, by decide +kernel⟩, by decide +kernel⟩, dv_T_in (i := 379) (by decide +kernel) rfl, dv_T_in (i := 380) (by decide +kernel) rfl, _, _, kX6⟩
theorem vX6_isFull : dv_mv yX6_isFull cX6_isFull 1 (some .boolean) 0 6 := ⟨⟨dv_T_in (i := 423) (by decide +kernel) rfl, dv_T_in (i := 54) (by decide +kernel) rfl, ⟨by decide +kernel, by decide +kernel⟩, by decide +kernel⟩, dv_T_in (i := 421) (by decide +kernel) rfl, dv_T_in (i := 422) (by decide +kernel) rfl, _, _, kX6⟩
theorem vX6_has : dv_mv yX6_has cX6_has 2 (some .boolean) 1 6 := ⟨⟨dv_T_in (i := 389) (by decide +kernel) rfl, dv_T_in (i := 54) (by decide +kernel) rfl, ⟨by decide +kernel, by decide +kernel⟩, by decide +kernel⟩, dv_T_in (i := 387) (by decide +kernel) rfl, dv_T_in (i := 388) (by decide +kernel) rfl, _, _, kX6⟩
theorem vX6_add : dv_mv yX6_add cX6_add 4 (some .int) 2 6 := ⟨⟨dv_T_in (i := 427) (by decide +kernel) rfl, dv_T_in (i := 54) (by decide +kernel) rfl, ⟨by decide +kernel, by decide +kernel⟩, by decide +kernel⟩, dv_T_in (i := 425) (by decide +kernel) rfl, dv_T_in (i := 426) (by decide +kernel) rfl, _, _, kX6⟩
theorem vX6_scopeOf : dv_mv yX6_scopeOf cX6_scopeOf 2 (some .int) 1 6 := ⟨⟨dv_T_in (i := 393) (by decide +kernel) rfl, dv_T_in (i := 54) (by decide +kernel) rfl, ⟨by decide +kernel, by decide +kernel⟩, by decide +kernel⟩, dv_T_in (i := 391) (by decide +kernel) rfl, dv_T_in (i := 392) (by decide +kernel) rfl, _, _, kX6⟩
theorem vX6_thingOf : dv_mv yX6_thingOf cX6_thingOf 2 (some .int) 1 6 := ⟨⟨dv_T_in (i := 385) (by decide +kernel) rfl, dv_T_in (i := 54) (by decide +kernel) rfl, ⟨by decide +kernel, by decide +kernel⟩, by decide +kernel⟩, dv_T_in (i := 383) (by decide +kernel) rfl, dv_T_in (i := 384) (by decide +kernel) rfl, _, _, kX6⟩
theorem vX6_howManyMean : dv_mv yX6_howManyMean cX6_howManyMean 4 (some .int) 1 6 := ⟨⟨dv_T_in (i := 514) (by decide +kernel) rfl, dv_T_in (i := 54) (by decide +kernel) rfl, ⟨by decide +kernel, by decide +kernel⟩, by decide +kernel⟩, dv_T_in (i := 512) (by decide +kernel) rfl, dv_T_in (i := 513) (by decide +kernel) rfl, _, _, kX6⟩
theorem vX7_feed : dv_mv yX7_feed cX7_feed 6 (some .int) 5 7 := ⟨⟨dv_T_in (i := 251) (by decide +kernel) rfl, dv_T_in (i := 48) (by decide +kernel) rfl, ⟨by decide +kernel, by decide +kernel⟩, by decide +kernel⟩, dv_T_in (i := 249) (by decide +kernel) rfl, dv_T_in (i := 250) (by decide +kernel) rfl, _, _, kX7⟩
theorem vX7_isOnTape : dv_mv yX7_isOnTape cX7_isOnTape 2 (some .boolean) 1 7 := ⟨⟨dv_T_in (i := 304) (by decide +kernel) rfl, dv_T_in (i := 48) (by decide +kernel) rfl, ⟨by decide +kernel, by decide +kernel⟩, by decide +kernel⟩, dv_T_in (i := 303) (by decide +kernel) rfl, dv_T_in (i := 3) (by decide +kernel) rfl, _, _, kX7⟩
theorem vX7_take : dv_mv yX7_take cX7_take 3 none 1 7 := ⟨⟨dv_T_in (i := 308) (by decide +kernel) rfl, dv_T_in (i := 48) (by decide +kernel) rfl, ⟨by decide +kernel, by decide +kernel⟩, by decide +kernel⟩, dv_T_in (i := 307) (by decide +kernel) rfl, dv_T_in (i := 4) (by decide +kernel) rfl, _, _, kX7⟩
theorem vX7_takesName : dv_mv yX7_takesName cX7_takesName 2 (some .boolean) 1 7 := ⟨⟨dv_T_in (i := 300) (by decide +kernel) rfl, dv_T_in (i := 48) (by decide +kernel) rfl, ⟨by decide +kernel, by decide +kernel⟩, by decide +kernel⟩, dv_T_in (i := 299) (by decide +kernel) rfl, dv_T_in (i := 2) (by decide +kernel) rfl, _, _, kX7⟩
theorem vX7_takesWord : dv_mv yX7_takesWord cX7_takesWord 2 (some .boolean) 1 7 := ⟨⟨dv_T_in (i := 531) (by decide +kernel) rfl, dv_T_in (i := 48) (by decide +kernel) rfl, ⟨by decide +kernel, by decide +kernel⟩, by decide +kernel⟩, dv_T_in (i := 530) (by decide +kernel) rfl, dv_T_in (i := 11) (by decide +kernel) rfl, _, _, kX7⟩
theorem vX7_refused : dv_mv yX7_refused cX7_refused 2 (some .int) 1 7 := ⟨⟨dv_T_in (i := 275) (by decide +kernel) rfl, dv_T_in (i := 48) (by decide +kernel) rfl, ⟨by decide +kernel, by decide +kernel⟩, by decide +kernel⟩, dv_T_in (i := 274) (by decide +kernel) rfl, dv_T_in (i := 0) (by decide +kernel) rfl, _, _, kX7⟩
theorem vX7_accepted : dv_mv yX7_accepted cX7_accepted 2 (some .int) 1 7 := ⟨⟨dv_T_in (i := 289) (by decide +kernel) rfl, dv_T_in (i := 48) (by decide +kernel) rfl, ⟨by decide +kernel, by decide +kernel⟩, by decide +kernel⟩, dv_T_in (i := 288) (by decide +kernel) rfl, dv_T_in (i := 1) (by decide +kernel) rfl, _, _, kX7⟩
theorem vX7_scope : dv_mv yX7_scope cX7_scope 2 (some .int) 1 7 := ⟨⟨dv_T_in (i := 267) (by decide +kernel) rfl, dv_T_in (i := 48) (by decide +kernel) rfl, ⟨by decide +kernel, by decide +kernel⟩, by decide +kernel⟩, dv_T_in (i := 265) (by decide +kernel) rfl, dv_T_in (i := 266) (by decide +kernel) rfl, _, _, kX7⟩
theorem vX7_isKind : dv_ms yX7_isKind cX7_isKind 1 (some .boolean) 1 := ⟨⟨dv_T_in (i := 296) (by decide +kernel) rfl, dv_T_in (i := 48) (by decide +kernel) rfl, ⟨by decide +kernel, by decide +kernel⟩, by decide +kernel⟩, dv_T_in (i := 295) (by decide +kernel) rfl⟩
theorem vX7_nameNowOrThen : dv_mv yX7_nameNowOrThen cX7_nameNowOrThen 3 (some (.object "NameHouse$Text")) 2 7 := ⟨⟨dv_T_in (i := 357) (by decide +kernel) rfl, dv_T_in (i := 48) (by decide +kernel) rfl, ⟨by decide +kernel, by decide +kernel⟩, by decide +kernel⟩, dv_T_in (i := 356) (by decide +kernel) rfl, dv_T_in (i := 6) (by decide +kernel) rfl, _, _, kX7⟩
theorem vX7_isNameOfOther : dv_mv yX7_isNameOfOther cX7_isNameOfOther 6 (some .boolean) 4 7 := ⟨⟨dv_T_in (i := 341) (by decide +kernel) rfl, dv_T_in (i := 48) (by decide +kernel) rfl, ⟨by decide +kernel, by decide +kernel⟩, by decide +kernel⟩, dv_T_in (i := 340) (by decide +kernel) rfl, dv_T_in (i := 5) (by decide +kernel) rfl, _, _, kX7⟩
theorem vX7_wouldCatchUse : dv_mv yX7_wouldCatchUse cX7_wouldCatchUse 6 (some .boolean) 3 7 := ⟨⟨dv_T_in (i := 377) (by decide +kernel) rfl, dv_T_in (i := 48) (by decide +kernel) rfl, ⟨by decide +kernel, by decide +kernel⟩, by decide +kernel⟩, dv_T_in (i := 376) (by decide +kernel) rfl, dv_T_in (i := 7) (by decide +kernel) rfl, _, _, kX7⟩
theorem vX7_thing : dv_mv yX7_thing cX7_thing 4 (some .int) 3 7 := ⟨⟨dv_T_in (i := 293) (by decide +kernel) rfl, dv_T_in (i := 48) (by decide +kernel) rfl, ⟨by decide +kernel, by decide +kernel⟩, by decide +kernel⟩, dv_T_in (i := 291) (by decide +kernel) rfl, dv_T_in (i := 292) (by decide +kernel) rfl, _, _, kX7⟩
theorem vX7_thingMeant : dv_mv yX7_thingMeant cX7_thingMeant 8 (some .int) 3 7 := ⟨⟨dv_T_in (i := 419) (by decide +kernel) rfl, dv_T_in (i := 48) (by decide +kernel) rfl, ⟨by decide +kernel, by decide +kernel⟩, by decide +kernel⟩, dv_T_in (i := 418) (by decide +kernel) rfl, dv_T_in (i := 8) (by decide +kernel) rfl, _, _, kX7⟩
theorem vX7_use : dv_mv yX7_use cX7_use 4 (some .int) 2 7 := ⟨⟨dv_T_in (i := 415) (by decide +kernel) rfl, dv_T_in (i := 48) (by decide +kernel) rfl, ⟨by decide +kernel, by decide +kernel⟩, by decide +kernel⟩, dv_T_in (i := 413) (by decide +kernel) rfl, dv_T_in (i := 414) (by decide +kernel) rfl, _, _, kX7⟩
theorem vX7_patternOf : dv_mv yX7_patternOf cX7_patternOf 4 (some .int) 1 7 := ⟨⟨dv_T_in (i := 473) (by decide +kernel) rfl, dv_T_in (i := 48) (by decide +kernel) rfl, ⟨by decide +kernel, by decide +kernel⟩, by decide +kernel⟩, dv_T_in (i := 472) (by decide +kernel) rfl, dv_T_in (i := 10) (by decide +kernel) rfl, _, _, kX7⟩
theorem vX7_about : dv_mv yX7_about cX7_about 3 (some .int) 2 7 := ⟨⟨dv_T_in (i := 432) (by decide +kernel) rfl, dv_T_in (i := 48) (by decide +kernel) rfl, ⟨by decide +kernel, by decide +kernel⟩, by decide +kernel⟩, dv_T_in (i := 430) (by decide +kernel) rfl, dv_T_in (i := 431) (by decide +kernel) rfl, _, _, kX7⟩
theorem vX7_name : dv_mv yX7_name cX7_name 3 (some .int) 2 7 := ⟨⟨dv_T_in (i := 762) (by decide +kernel) rfl, dv_T_in (i := 48) (by decide +kernel) rfl, ⟨by decide +kernel, by decide +kernel⟩, by decide +kernel⟩, dv_T_in (i := 760) (by decide +kernel) rfl, dv_T_in (i := 761) (by decide +kernel) rfl, _, _, kX7⟩
theorem vX7_means : dv_mv yX7_means cX7_means 3 (some .int) 2 7 := ⟨⟨dv_T_in (i := 518) (by decide +kernel) rfl, dv_T_in (i := 48) (by decide +kernel) rfl, ⟨by decide +kernel, by decide +kernel⟩, by decide +kernel⟩, dv_T_in (i := 516) (by decide +kernel) rfl, dv_T_in (i := 517) (by decide +kernel) rfl, _, _, kX7⟩
theorem vX7_find : dv_mv yX7_find cX7_find 3 (some .int) 2 7 := ⟨⟨dv_T_in (i := 523) (by decide +kernel) rfl, dv_T_in (i := 48) (by decide +kernel) rfl, ⟨by decide +kernel, by decide +kernel⟩, by decide +kernel⟩, dv_T_in (i := 521) (by decide +kernel) rfl, dv_T_in (i := 522) (by decide +kernel) rfl, _, _, kX7⟩
theorem vX7_word : dv_mv yX7_word cX7_word 5 (some .int) 2 7 := ⟨⟨dv_T_in (i := 527) (by decide +kernel) rfl, dv_T_in (i := 48) (by decide +kernel) rfl, ⟨by decide +kernel, by decide +kernel⟩, by decide +kernel⟩, dv_T_in (i := 525) (by decide +kernel) rfl, dv_T_in (i := 526) (by decide +kernel) rfl, _, _, kX7⟩
theorem vX7_shorts : dv_mv yX7_shorts cX7_shorts 4 (some .boolean) 2 7 := ⟨⟨dv_T_in (i := 548) (by decide +kernel) rfl, dv_T_in (i := 48) (by decide +kernel) rfl, ⟨by decide +kernel, by decide +kernel⟩, by decide +kernel⟩, dv_T_in (i := 546) (by decide +kernel) rfl, dv_T_in (i := 547) (by decide +kernel) rfl, _, _, kX7⟩
theorem vX7_alike : dv_mv yX7_alike cX7_alike 4 (some .boolean) 2 7 := ⟨⟨dv_T_in (i := 557) (by decide +kernel) rfl, dv_T_in (i := 48) (by decide +kernel) rfl, ⟨by decide +kernel, by decide +kernel⟩, by decide +kernel⟩, dv_T_in (i := 555) (by decide +kernel) rfl, dv_T_in (i := 556) (by decide +kernel) rfl, _, _, kX7⟩
theorem vX7_countUsed : dv_mv yX7_countUsed cX7_countUsed 3 none 0 7 := ⟨⟨dv_T_in (i := 574) (by decide +kernel) rfl, dv_T_in (i := 48) (by decide +kernel) rfl, ⟨by decide +kernel, by decide +kernel⟩, by decide +kernel⟩, dv_T_in (i := 573) (by decide +kernel) rfl, dv_T_in (i := 12) (by decide +kernel) rfl, _, _, kX7⟩
theorem vX7_told : dv_mv yX7_told cX7_told 3 (some .int) 2 7 := ⟨⟨dv_T_in (i := 565) (by decide +kernel) rfl, dv_T_in (i := 48) (by decide +kernel) rfl, ⟨by decide +kernel, by decide +kernel⟩, by decide +kernel⟩, dv_T_in (i := 563) (by decide +kernel) rfl, dv_T_in (i := 564) (by decide +kernel) rfl, _, _, kX7⟩
theorem vX7_part : dv_mv yX7_part cX7_part 3 (some .int) 2 7 := ⟨⟨dv_T_in (i := 604) (by decide +kernel) rfl, dv_T_in (i := 48) (by decide +kernel) rfl, ⟨by decide +kernel, by decide +kernel⟩, by decide +kernel⟩, dv_T_in (i := 602) (by decide +kernel) rfl, dv_T_in (i := 603) (by decide +kernel) rfl, _, _, kX7⟩
theorem vX7_howOften : dv_mv yX7_howOften cX7_howOften 5 (some .int) 2 7 := ⟨⟨dv_T_in (i := 617) (by decide +kernel) rfl, dv_T_in (i := 48) (by decide +kernel) rfl, ⟨by decide +kernel, by decide +kernel⟩, by decide +kernel⟩, dv_T_in (i := 616) (by decide +kernel) rfl, dv_T_in (i := 14) (by decide +kernel) rfl, _, _, kX7⟩
theorem vX7_wayOf : dv_mv yX7_wayOf cX7_wayOf 6 (some .int) 1 7 := ⟨⟨dv_T_in (i := 613) (by decide +kernel) rfl, dv_T_in (i := 48) (by decide +kernel) rfl, ⟨by decide +kernel, by decide +kernel⟩, by decide +kernel⟩, dv_T_in (i := 612) (by decide +kernel) rfl, dv_T_in (i := 13) (by decide +kernel) rfl, _, _, kX7⟩
theorem vX7_way : dv_mv yX7_way cX7_way 2 (some .int) 1 7 := ⟨⟨dv_T_in (i := 609) (by decide +kernel) rfl, dv_T_in (i := 48) (by decide +kernel) rfl, ⟨by decide +kernel, by decide +kernel⟩, by decide +kernel⟩, dv_T_in (i := 607) (by decide +kernel) rfl, dv_T_in (i := 608) (by decide +kernel) rfl, _, _, kX7⟩
theorem vX7_odd : dv_mv yX7_odd cX7_odd 5 (some .int) 1 7 := ⟨⟨dv_T_in (i := 621) (by decide +kernel) rfl, dv_T_in (i := 48) (by decide +kernel) rfl, ⟨by decide +kernel, by decide +kernel⟩, by decide +kernel⟩, dv_T_in (i := 619) (by decide +kernel) rfl, dv_T_in (i := 620) (by decide +kernel) rfl, _, _, kX7⟩
theorem vX7_isOdd : dv_mv yX7_isOdd cX7_isOdd 3 (some .int) 1 7 := ⟨⟨dv_T_in (i := 625) (by decide +kernel) rfl, dv_T_in (i := 48) (by decide +kernel) rfl, ⟨by decide +kernel, by decide +kernel⟩, by decide +kernel⟩, dv_T_in (i := 623) (by decide +kernel) rfl, dv_T_in (i := 624) (by decide +kernel) rfl, _, _, kX7⟩
theorem vX7_mixed : dv_mv yX7_mixed cX7_mixed 1 (some .int) 0 7 := ⟨⟨dv_T_in (i := 629) (by decide +kernel) rfl, dv_T_in (i := 48) (by decide +kernel) rfl, ⟨by decide +kernel, by decide +kernel⟩, by decide +kernel⟩, dv_T_in (i := 627) (by decide +kernel) rfl, dv_T_in (i := 628) (by decide +kernel) rfl, _, _, kX7⟩
theorem vX7_strange : dv_mv yX7_strange cX7_strange 4 (some .int) 0 7 := ⟨⟨dv_T_in (i := 637) (by decide +kernel) rfl, dv_T_in (i := 48) (by decide +kernel) rfl, ⟨by decide +kernel, by decide +kernel⟩, by decide +kernel⟩, dv_T_in (i := 635) (by decide +kernel) rfl, dv_T_in (i := 636) (by decide +kernel) rfl, _, _, kX7⟩
theorem vX7_greatOf : dv_ms yX7_greatOf cX7_greatOf 1 (some .int) 1 := ⟨⟨dv_T_in (i := 665) (by decide +kernel) rfl, dv_T_in (i := 48) (by decide +kernel) rfl, ⟨by decide +kernel, by decide +kernel⟩, by decide +kernel⟩, dv_T_in (i := 664) (by decide +kernel) rfl⟩
theorem vX7_writePart : dv_mv yX7_writePart cX7_writePart 8 none 3 7 := ⟨⟨dv_T_in (i := 650) (by decide +kernel) rfl, dv_T_in (i := 48) (by decide +kernel) rfl, ⟨by decide +kernel, by decide +kernel⟩, by decide +kernel⟩, dv_T_in (i := 649) (by decide +kernel) rfl, dv_T_in (i := 16) (by decide +kernel) rfl, _, _, kX7⟩
theorem vX7_draftsOffer : dv_mv yX7_draftsOffer cX7_draftsOffer 6 (some .boolean) 1 7 := ⟨⟨dv_T_in (i := 646) (by decide +kernel) rfl, dv_T_in (i := 48) (by decide +kernel) rfl, ⟨by decide +kernel, by decide +kernel⟩, by decide +kernel⟩, dv_T_in (i := 645) (by decide +kernel) rfl, dv_T_in (i := 15) (by decide +kernel) rfl, _, _, kX7⟩
theorem vX7_offer : dv_mv yX7_offer cX7_offer 2 (some .int) 1 7 := ⟨⟨dv_T_in (i := 642) (by decide +kernel) rfl, dv_T_in (i := 48) (by decide +kernel) rfl, ⟨by decide +kernel, by decide +kernel⟩, by decide +kernel⟩, dv_T_in (i := 640) (by decide +kernel) rfl, dv_T_in (i := 641) (by decide +kernel) rfl, _, _, kX7⟩
theorem vX7_out : dv_mv yX7_out cX7_out 2 (some .int) 1 7 := ⟨⟨dv_T_in (i := 836) (by decide +kernel) rfl, dv_T_in (i := 48) (by decide +kernel) rfl, ⟨by decide +kernel, by decide +kernel⟩, by decide +kernel⟩, dv_T_in (i := 834) (by decide +kernel) rfl, dv_T_in (i := 835) (by decide +kernel) rfl, _, _, kX7⟩
theorem vX7_rename : dv_mv yX7_rename cX7_rename 3 (some .int) 2 7 := ⟨⟨dv_T_in (i := 670) (by decide +kernel) rfl, dv_T_in (i := 48) (by decide +kernel) rfl, ⟨by decide +kernel, by decide +kernel⟩, by decide +kernel⟩, dv_T_in (i := 668) (by decide +kernel) rfl, dv_T_in (i := 669) (by decide +kernel) rfl, _, _, kX7⟩
theorem vX7_renames : dv_mv yX7_renames cX7_renames 2 (some .int) 0 7 := ⟨⟨dv_T_in (i := 688) (by decide +kernel) rfl, dv_T_in (i := 48) (by decide +kernel) rfl, ⟨by decide +kernel, by decide +kernel⟩, by decide +kernel⟩, dv_T_in (i := 686) (by decide +kernel) rfl, dv_T_in (i := 687) (by decide +kernel) rfl, _, _, kX7⟩
theorem vX7_none : dv_mv yX7_none cX7_none 2 (some .int) 0 7 := ⟨⟨dv_T_in (i := 696) (by decide +kernel) rfl, dv_T_in (i := 48) (by decide +kernel) rfl, ⟨by decide +kernel, by decide +kernel⟩, by decide +kernel⟩, dv_T_in (i := 694) (by decide +kernel) rfl, dv_T_in (i := 695) (by decide +kernel) rfl, _, _, kX7⟩
theorem vX7_firstDoubled : dv_mv yX7_firstDoubled cX7_firstDoubled 4 (some .int) 0 7 := ⟨⟨dv_T_in (i := 704) (by decide +kernel) rfl, dv_T_in (i := 48) (by decide +kernel) rfl, ⟨by decide +kernel, by decide +kernel⟩, by decide +kernel⟩, dv_T_in (i := 703) (by decide +kernel) rfl, dv_T_in (i := 17) (by decide +kernel) rfl, _, _, kX7⟩
theorem vX7_isStrayed : dv_mv yX7_isStrayed cX7_isStrayed 3 (some .boolean) 1 7 := ⟨⟨dv_T_in (i := 712) (by decide +kernel) rfl, dv_T_in (i := 48) (by decide +kernel) rfl, ⟨by decide +kernel, by decide +kernel⟩, by decide +kernel⟩, dv_T_in (i := 711) (by decide +kernel) rfl, dv_T_in (i := 19) (by decide +kernel) rfl, _, _, kX7⟩
theorem vX7_firstStrayed : dv_mv yX7_firstStrayed cX7_firstStrayed 2 (some .int) 0 7 := ⟨⟨dv_T_in (i := 708) (by decide +kernel) rfl, dv_T_in (i := 48) (by decide +kernel) rfl, ⟨by decide +kernel, by decide +kernel⟩, by decide +kernel⟩, dv_T_in (i := 707) (by decide +kernel) rfl, dv_T_in (i := 18) (by decide +kernel) rfl, _, _, kX7⟩
theorem vX7_hinders : dv_mv yX7_hinders cX7_hinders 3 (some .int) 0 7 := ⟨⟨dv_T_in (i := 700) (by decide +kernel) rfl, dv_T_in (i := 48) (by decide +kernel) rfl, ⟨by decide +kernel, by decide +kernel⟩, by decide +kernel⟩, dv_T_in (i := 698) (by decide +kernel) rfl, dv_T_in (i := 699) (by decide +kernel) rfl, _, _, kX7⟩
theorem vX7_isSafe : dv_mv yX7_isSafe cX7_isSafe 1 (some .boolean) 0 7 := ⟨⟨dv_T_in (i := 720) (by decide +kernel) rfl, dv_T_in (i := 48) (by decide +kernel) rfl, ⟨by decide +kernel, by decide +kernel⟩, by decide +kernel⟩, dv_T_in (i := 719) (by decide +kernel) rfl, dv_T_in (i := 20) (by decide +kernel) rfl, _, _, kX7⟩
theorem vX7_turn : dv_mv yX7_turn cX7_turn 2 (some .int) 0 7 := ⟨⟨dv_T_in (i := 716) (by decide +kernel) rfl, dv_T_in (i := 48) (by decide +kernel) rfl, ⟨by decide +kernel, by decide +kernel⟩, by decide +kernel⟩, dv_T_in (i := 714) (by decide +kernel) rfl, dv_T_in (i := 715) (by decide +kernel) rfl, _, _, kX7⟩
theorem vX7_back : dv_mv yX7_back cX7_back 2 (some .int) 0 7 := ⟨⟨dv_T_in (i := 724) (by decide +kernel) rfl, dv_T_in (i := 48) (by decide +kernel) rfl, ⟨by decide +kernel, by decide +kernel⟩, by decide +kernel⟩, dv_T_in (i := 722) (by decide +kernel) rfl, dv_T_in (i := 723) (by decide +kernel) rfl, _, _, kX7⟩
theorem vX7_staysSafe : dv_mv yX7_staysSafe cX7_staysSafe 5 (some .boolean) 1 7 := ⟨⟨dv_T_in (i := 733) (by decide +kernel) rfl, dv_T_in (i := 48) (by decide +kernel) rfl, ⟨by decide +kernel, by decide +kernel⟩, by decide +kernel⟩, dv_T_in (i := 732) (by decide +kernel) rfl, dv_T_in (i := 21) (by decide +kernel) rfl, _, _, kX7⟩
theorem vX7_keep : dv_mv yX7_keep cX7_keep 2 (some .int) 0 7 := ⟨⟨dv_T_in (i := 728) (by decide +kernel) rfl, dv_T_in (i := 48) (by decide +kernel) rfl, ⟨by decide +kernel, by decide +kernel⟩, by decide +kernel⟩, dv_T_in (i := 726) (by decide +kernel) rfl, dv_T_in (i := 727) (by decide +kernel) rfl, _, _, kX7⟩
theorem vX7_count : dv_mv yX7_count cX7_count 2 (some .int) 1 7 := ⟨⟨dv_T_in (i := 742) (by decide +kernel) rfl, dv_T_in (i := 48) (by decide +kernel) rfl, ⟨by decide +kernel, by decide +kernel⟩, by decide +kernel⟩, dv_T_in (i := 740) (by decide +kernel) rfl, dv_T_in (i := 741) (by decide +kernel) rfl, _, _, kX7⟩
theorem vX7_trouble : dv_mv yX7_trouble cX7_trouble 1 (some .int) 0 7 := ⟨⟨dv_T_in (i := 754) (by decide +kernel) rfl, dv_T_in (i := 48) (by decide +kernel) rfl, ⟨by decide +kernel, by decide +kernel⟩, by decide +kernel⟩, dv_T_in (i := 752) (by decide +kernel) rfl, dv_T_in (i := 753) (by decide +kernel) rfl, _, _, kX7⟩
theorem vX8_thrown : dv_mv yX8_thrown cX8_thrown 1 (some .int) 0 8 := ⟨⟨dv_T_in (i := 841) (by decide +kernel) rfl, dv_T_in (i := 56) (by decide +kernel) rfl, ⟨by decide +kernel, by decide +kernel⟩, by decide +kernel⟩, dv_T_in (i := 839) (by decide +kernel) rfl, dv_T_in (i := 840) (by decide +kernel) rfl, _, _, kX8⟩
theorem vX8_refused : dv_mv yX8_refused cX8_refused 2 (some .int) 1 8 := ⟨⟨dv_T_in (i := 978) (by decide +kernel) rfl, dv_T_in (i := 56) (by decide +kernel) rfl, ⟨by decide +kernel, by decide +kernel⟩, by decide +kernel⟩, dv_T_in (i := 977) (by decide +kernel) rfl, dv_T_in (i := 24) (by decide +kernel) rfl, _, _, kX8⟩
theorem vX8_denied : dv_mv yX8_denied cX8_denied 2 (some .boolean) 1 8 := ⟨⟨dv_T_in (i := 1055) (by decide +kernel) rfl, dv_T_in (i := 56) (by decide +kernel) rfl, ⟨by decide +kernel, by decide +kernel⟩, by decide +kernel⟩, dv_T_in (i := 1054) (by decide +kernel) rfl, dv_T_in (i := 31) (by decide +kernel) rfl, _, _, kX8⟩
theorem vX8_done : dv_mv yX8_done cX8_done 2 (some .int) 1 8 := ⟨⟨dv_T_in (i := 982) (by decide +kernel) rfl, dv_T_in (i := 56) (by decide +kernel) rfl, ⟨by decide +kernel, by decide +kernel⟩, by decide +kernel⟩, dv_T_in (i := 981) (by decide +kernel) rfl, dv_T_in (i := 25) (by decide +kernel) rfl, _, _, kX8⟩
theorem vX8_granted : dv_mv yX8_granted cX8_granted 1 (some .boolean) 0 8 := ⟨⟨dv_T_in (i := 1059) (by decide +kernel) rfl, dv_T_in (i := 56) (by decide +kernel) rfl, ⟨by decide +kernel, by decide +kernel⟩, by decide +kernel⟩, dv_T_in (i := 1058) (by decide +kernel) rfl, dv_T_in (i := 32) (by decide +kernel) rfl, _, _, kX8⟩
theorem vX8_in : dv_ms yX8_in cX8_in 3 (some .boolean) 3 := ⟨⟨dv_T_in (i := 989) (by decide +kernel) rfl, dv_T_in (i := 56) (by decide +kernel) rfl, ⟨by decide +kernel, by decide +kernel⟩, by decide +kernel⟩, dv_T_in (i := 988) (by decide +kernel) rfl⟩
theorem vX8_feed : dv_mv yX8_feed cX8_feed 8 (some .int) 5 8 := ⟨⟨dv_T_in (i := 845) (by decide +kernel) rfl, dv_T_in (i := 56) (by decide +kernel) rfl, ⟨by decide +kernel, by decide +kernel⟩, by decide +kernel⟩, dv_T_in (i := 843) (by decide +kernel) rfl, dv_T_in (i := 844) (by decide +kernel) rfl, _, _, kX8⟩
theorem vX8_isTaped : dv_mv yX8_isTaped cX8_isTaped 2 (some .boolean) 1 8 := ⟨⟨dv_T_in (i := 993) (by decide +kernel) rfl, dv_T_in (i := 56) (by decide +kernel) rfl, ⟨by decide +kernel, by decide +kernel⟩, by decide +kernel⟩, dv_T_in (i := 992) (by decide +kernel) rfl, dv_T_in (i := 26) (by decide +kernel) rfl, _, _, kX8⟩
theorem vX8_isSmall : dv_ms yX8_isSmall cX8_isSmall 1 (some .boolean) 1 := ⟨⟨dv_T_in (i := 1005) (by decide +kernel) rfl, dv_T_in (i := 56) (by decide +kernel) rfl, ⟨by decide +kernel, by decide +kernel⟩, by decide +kernel⟩, dv_T_in (i := 1004) (by decide +kernel) rfl⟩
theorem vX8_isGreat : dv_ms yX8_isGreat cX8_isGreat 1 (some .boolean) 1 := ⟨⟨dv_T_in (i := 1008) (by decide +kernel) rfl, dv_T_in (i := 56) (by decide +kernel) rfl, ⟨by decide +kernel, by decide +kernel⟩, by decide +kernel⟩, dv_T_in (i := 1007) (by decide +kernel) rfl⟩
theorem vX8_isDigit : dv_ms yX8_isDigit cX8_isDigit 1 (some .boolean) 1 := ⟨⟨dv_T_in (i := 999) (by decide +kernel) rfl, dv_T_in (i := 56) (by decide +kernel) rfl, ⟨by decide +kernel, by decide +kernel⟩, by decide +kernel⟩, dv_T_in (i := 998) (by decide +kernel) rfl⟩
theorem vX8_isLetter : dv_ms yX8_isLetter cX8_isLetter 1 (some .boolean) 1 := ⟨⟨dv_T_in (i := 1002) (by decide +kernel) rfl, dv_T_in (i := 56) (by decide +kernel) rfl, ⟨by decide +kernel, by decide +kernel⟩, by decide +kernel⟩, dv_T_in (i := 1001) (by decide +kernel) rfl⟩
theorem vX8_isName : dv_ms yX8_isName cX8_isName 6 (some .boolean) 3 := ⟨⟨dv_T_in (i := 996) (by decide +kernel) rfl, dv_T_in (i := 56) (by decide +kernel) rfl, ⟨by decide +kernel, by decide +kernel⟩, by decide +kernel⟩, dv_T_in (i := 995) (by decide +kernel) rfl⟩
theorem vX8_isSame : dv_ms yX8_isSame cX8_isSame 8 (some .boolean) 6 := ⟨⟨dv_T_in (i := 1011) (by decide +kernel) rfl, dv_T_in (i := 56) (by decide +kernel) rfl, ⟨by decide +kernel, by decide +kernel⟩, by decide +kernel⟩, dv_T_in (i := 1010) (by decide +kernel) rfl⟩
theorem vX8_isScope : dv_mv yX8_isScope cX8_isScope 2 (some .boolean) 1 8 := ⟨⟨dv_T_in (i := 974) (by decide +kernel) rfl, dv_T_in (i := 56) (by decide +kernel) rfl, ⟨by decide +kernel, by decide +kernel⟩, by decide +kernel⟩, dv_T_in (i := 973) (by decide +kernel) rfl, dv_T_in (i := 23) (by decide +kernel) rfl, _, _, kX8⟩
theorem vX8_isThing : dv_mv yX8_isThing cX8_isThing 2 (some .boolean) 1 8 := ⟨⟨dv_T_in (i := 1039) (by decide +kernel) rfl, dv_T_in (i := 56) (by decide +kernel) rfl, ⟨by decide +kernel, by decide +kernel⟩, by decide +kernel⟩, dv_T_in (i := 1038) (by decide +kernel) rfl, dv_T_in (i := 29) (by decide +kernel) rfl, _, _, kX8⟩
theorem vX8_scope : dv_mv yX8_scope cX8_scope 2 (some .int) 1 8 := ⟨⟨dv_T_in (i := 970) (by decide +kernel) rfl, dv_T_in (i := 56) (by decide +kernel) rfl, ⟨by decide +kernel, by decide +kernel⟩, by decide +kernel⟩, dv_T_in (i := 968) (by decide +kernel) rfl, dv_T_in (i := 969) (by decide +kernel) rfl, _, _, kX8⟩
theorem vX8_meaningOf : dv_mv yX8_meaningOf cX8_meaningOf 9 (some .int) 6 8 := ⟨⟨dv_T_in (i := 1023) (by decide +kernel) rfl, dv_T_in (i := 56) (by decide +kernel) rfl, ⟨by decide +kernel, by decide +kernel⟩, by decide +kernel⟩, dv_T_in (i := 1022) (by decide +kernel) rfl, dv_T_in (i := 28) (by decide +kernel) rfl, _, _, kX8⟩
theorem vX8_takesUse : dv_mv yX8_takesUse cX8_takesUse 7 (some .boolean) 2 8 := ⟨⟨dv_T_in (i := 1015) (by decide +kernel) rfl, dv_T_in (i := 56) (by decide +kernel) rfl, ⟨by decide +kernel, by decide +kernel⟩, by decide +kernel⟩, dv_T_in (i := 1014) (by decide +kernel) rfl, dv_T_in (i := 27) (by decide +kernel) rfl, _, _, kX8⟩
theorem vX8_thing : dv_mv yX8_thing cX8_thing 6 (some .int) 3 8 := ⟨⟨dv_T_in (i := 986) (by decide +kernel) rfl, dv_T_in (i := 56) (by decide +kernel) rfl, ⟨by decide +kernel, by decide +kernel⟩, by decide +kernel⟩, dv_T_in (i := 984) (by decide +kernel) rfl, dv_T_in (i := 985) (by decide +kernel) rfl, _, _, kX8⟩
theorem vX8_use : dv_mv yX8_use cX8_use 4 (some .int) 2 8 := ⟨⟨dv_T_in (i := 1019) (by decide +kernel) rfl, dv_T_in (i := 56) (by decide +kernel) rfl, ⟨by decide +kernel, by decide +kernel⟩, by decide +kernel⟩, dv_T_in (i := 1017) (by decide +kernel) rfl, dv_T_in (i := 1018) (by decide +kernel) rfl, _, _, kX8⟩
theorem vX8_find : dv_mv yX8_find cX8_find 3 (some .int) 2 8 := ⟨⟨dv_T_in (i := 1027) (by decide +kernel) rfl, dv_T_in (i := 56) (by decide +kernel) rfl, ⟨by decide +kernel, by decide +kernel⟩, by decide +kernel⟩, dv_T_in (i := 1025) (by decide +kernel) rfl, dv_T_in (i := 1026) (by decide +kernel) rfl, _, _, kX8⟩
theorem vX8_means : dv_mv yX8_means cX8_means 3 (some .int) 2 8 := ⟨⟨dv_T_in (i := 1031) (by decide +kernel) rfl, dv_T_in (i := 56) (by decide +kernel) rfl, ⟨by decide +kernel, by decide +kernel⟩, by decide +kernel⟩, dv_T_in (i := 1029) (by decide +kernel) rfl, dv_T_in (i := 1030) (by decide +kernel) rfl, _, _, kX8⟩
theorem vX8_name : dv_mv yX8_name cX8_name 3 (some .int) 2 8 := ⟨⟨dv_T_in (i := 1035) (by decide +kernel) rfl, dv_T_in (i := 56) (by decide +kernel) rfl, ⟨by decide +kernel, by decide +kernel⟩, by decide +kernel⟩, dv_T_in (i := 1033) (by decide +kernel) rfl, dv_T_in (i := 1034) (by decide +kernel) rfl, _, _, kX8⟩
theorem vX8_cuts : dv_mv yX8_cuts cX8_cuts 7 none 1 8 := ⟨⟨dv_T_in (i := 1075) (by decide +kernel) rfl, dv_T_in (i := 56) (by decide +kernel) rfl, ⟨by decide +kernel, by decide +kernel⟩, by decide +kernel⟩, dv_T_in (i := 1074) (by decide +kernel) rfl, dv_T_in (i := 34) (by decide +kernel) rfl, _, _, kX8⟩
theorem vX8_styleOf : dv_mv yX8_styleOf cX8_styleOf 7 (some .int) 1 8 := ⟨⟨dv_T_in (i := 1106) (by decide +kernel) rfl, dv_T_in (i := 56) (by decide +kernel) rfl, ⟨by decide +kernel, by decide +kernel⟩, by decide +kernel⟩, dv_T_in (i := 1105) (by decide +kernel) rfl, dv_T_in (i := 39) (by decide +kernel) rfl, _, _, kX8⟩
theorem vX8_low : dv_ms yX8_low cX8_low 1 (some .int) 1 := ⟨⟨dv_T_in (i := 1082) (by decide +kernel) rfl, dv_T_in (i := 56) (by decide +kernel) rfl, ⟨by decide +kernel, by decide +kernel⟩, by decide +kernel⟩, dv_T_in (i := 1081) (by decide +kernel) rfl⟩
theorem vX8_isWord : dv_mv yX8_isWord cX8_isWord 2 (some .boolean) 1 8 := ⟨⟨dv_T_in (i := 1051) (by decide +kernel) rfl, dv_T_in (i := 56) (by decide +kernel) rfl, ⟨by decide +kernel, by decide +kernel⟩, by decide +kernel⟩, dv_T_in (i := 1050) (by decide +kernel) rfl, dv_T_in (i := 30) (by decide +kernel) rfl, _, _, kX8⟩
theorem vX8_word : dv_mv yX8_word cX8_word 6 (some .int) 2 8 := ⟨⟨dv_T_in (i := 1043) (by decide +kernel) rfl, dv_T_in (i := 56) (by decide +kernel) rfl, ⟨by decide +kernel, by decide +kernel⟩, by decide +kernel⟩, dv_T_in (i := 1041) (by decide +kernel) rfl, dv_T_in (i := 1042) (by decide +kernel) rfl, _, _, kX8⟩
theorem vX8_shorts : dv_mv yX8_shorts cX8_shorts 3 (some .boolean) 2 8 := ⟨⟨dv_T_in (i := 1047) (by decide +kernel) rfl, dv_T_in (i := 56) (by decide +kernel) rfl, ⟨by decide +kernel, by decide +kernel⟩, by decide +kernel⟩, dv_T_in (i := 1045) (by decide +kernel) rfl, dv_T_in (i := 1046) (by decide +kernel) rfl, _, _, kX8⟩
theorem vX8_alike : dv_mv yX8_alike cX8_alike 5 (some .boolean) 2 8 := ⟨⟨dv_T_in (i := 1063) (by decide +kernel) rfl, dv_T_in (i := 56) (by decide +kernel) rfl, ⟨by decide +kernel, by decide +kernel⟩, by decide +kernel⟩, dv_T_in (i := 1061) (by decide +kernel) rfl, dv_T_in (i := 1062) (by decide +kernel) rfl, _, _, kX8⟩
theorem vX8_wordOf : dv_mv yX8_wordOf cX8_wordOf 6 (some .int) 2 8 := ⟨⟨dv_T_in (i := 1079) (by decide +kernel) rfl, dv_T_in (i := 56) (by decide +kernel) rfl, ⟨by decide +kernel, by decide +kernel⟩, by decide +kernel⟩, dv_T_in (i := 1078) (by decide +kernel) rfl, dv_T_in (i := 35) (by decide +kernel) rfl, _, _, kX8⟩
theorem vX8_opened : dv_mv yX8_opened cX8_opened 4 (some .int) 1 8 := ⟨⟨dv_T_in (i := 1086) (by decide +kernel) rfl, dv_T_in (i := 56) (by decide +kernel) rfl, ⟨by decide +kernel, by decide +kernel⟩, by decide +kernel⟩, dv_T_in (i := 1085) (by decide +kernel) rfl, dv_T_in (i := 36) (by decide +kernel) rfl, _, _, kX8⟩
theorem vX8_counts : dv_mv yX8_counts cX8_counts 4 none 0 8 := ⟨⟨dv_T_in (i := 1071) (by decide +kernel) rfl, dv_T_in (i := 56) (by decide +kernel) rfl, ⟨by decide +kernel, by decide +kernel⟩, by decide +kernel⟩, dv_T_in (i := 1070) (by decide +kernel) rfl, dv_T_in (i := 33) (by decide +kernel) rfl, _, _, kX8⟩
theorem vX8_headOf : dv_mv yX8_headOf cX8_headOf 4 (some .int) 1 8 := ⟨⟨dv_T_in (i := 1090) (by decide +kernel) rfl, dv_T_in (i := 56) (by decide +kernel) rfl, ⟨by decide +kernel, by decide +kernel⟩, by decide +kernel⟩, dv_T_in (i := 1089) (by decide +kernel) rfl, dv_T_in (i := 37) (by decide +kernel) rfl, _, _, kX8⟩
theorem vX8_groupSize : dv_mv yX8_groupSize cX8_groupSize 4 (some .int) 1 8 := ⟨⟨dv_T_in (i := 1094) (by decide +kernel) rfl, dv_T_in (i := 56) (by decide +kernel) rfl, ⟨by decide +kernel, by decide +kernel⟩, by decide +kernel⟩, dv_T_in (i := 1093) (by decide +kernel) rfl, dv_T_in (i := 38) (by decide +kernel) rfl, _, _, kX8⟩
theorem vX8_told : dv_mv yX8_told cX8_told 3 (some .int) 2 8 := ⟨⟨dv_T_in (i := 1067) (by decide +kernel) rfl, dv_T_in (i := 56) (by decide +kernel) rfl, ⟨by decide +kernel, by decide +kernel⟩, by decide +kernel⟩, dv_T_in (i := 1065) (by decide +kernel) rfl, dv_T_in (i := 1066) (by decide +kernel) rfl, _, _, kX8⟩
theorem vX8_part : dv_mv yX8_part cX8_part 3 (some .int) 2 8 := ⟨⟨dv_T_in (i := 1098) (by decide +kernel) rfl, dv_T_in (i := 56) (by decide +kernel) rfl, ⟨by decide +kernel, by decide +kernel⟩, by decide +kernel⟩, dv_T_in (i := 1096) (by decide +kernel) rfl, dv_T_in (i := 1097) (by decide +kernel) rfl, _, _, kX8⟩
theorem vX8_patternOf : dv_mv yX8_patternOf cX8_patternOf 5 (some .int) 1 8 := ⟨⟨dv_T_in (i := 1110) (by decide +kernel) rfl, dv_T_in (i := 56) (by decide +kernel) rfl, ⟨by decide +kernel, by decide +kernel⟩, by decide +kernel⟩, dv_T_in (i := 1109) (by decide +kernel) rfl, dv_T_in (i := 40) (by decide +kernel) rfl, _, _, kX8⟩
theorem vX8_about : dv_mv yX8_about cX8_about 5 (some .int) 2 8 := ⟨⟨dv_T_in (i := 1102) (by decide +kernel) rfl, dv_T_in (i := 56) (by decide +kernel) rfl, ⟨by decide +kernel, by decide +kernel⟩, by decide +kernel⟩, dv_T_in (i := 1100) (by decide +kernel) rfl, dv_T_in (i := 1101) (by decide +kernel) rfl, _, _, kX8⟩
theorem vX8_wayOf : dv_mv yX8_wayOf cX8_wayOf 8 (some .int) 1 8 := ⟨⟨dv_T_in (i := 1118) (by decide +kernel) rfl, dv_T_in (i := 56) (by decide +kernel) rfl, ⟨by decide +kernel, by decide +kernel⟩, by decide +kernel⟩, dv_T_in (i := 1117) (by decide +kernel) rfl, dv_T_in (i := 41) (by decide +kernel) rfl, _, _, kX8⟩
theorem vX8_way : dv_mv yX8_way cX8_way 2 (some .int) 1 8 := ⟨⟨dv_T_in (i := 1114) (by decide +kernel) rfl, dv_T_in (i := 56) (by decide +kernel) rfl, ⟨by decide +kernel, by decide +kernel⟩, by decide +kernel⟩, dv_T_in (i := 1112) (by decide +kernel) rfl, dv_T_in (i := 1113) (by decide +kernel) rfl, _, _, kX8⟩
theorem vX8_odd : dv_mv yX8_odd cX8_odd 5 (some .int) 1 8 := ⟨⟨dv_T_in (i := 1122) (by decide +kernel) rfl, dv_T_in (i := 56) (by decide +kernel) rfl, ⟨by decide +kernel, by decide +kernel⟩, by decide +kernel⟩, dv_T_in (i := 1120) (by decide +kernel) rfl, dv_T_in (i := 1121) (by decide +kernel) rfl, _, _, kX8⟩
theorem vX8_isOdd : dv_mv yX8_isOdd cX8_isOdd 2 (some .int) 1 8 := ⟨⟨dv_T_in (i := 1126) (by decide +kernel) rfl, dv_T_in (i := 56) (by decide +kernel) rfl, ⟨by decide +kernel, by decide +kernel⟩, by decide +kernel⟩, dv_T_in (i := 1124) (by decide +kernel) rfl, dv_T_in (i := 1125) (by decide +kernel) rfl, _, _, kX8⟩
theorem vX8_mixed : dv_mv yX8_mixed cX8_mixed 6 (some .int) 0 8 := ⟨⟨dv_T_in (i := 1130) (by decide +kernel) rfl, dv_T_in (i := 56) (by decide +kernel) rfl, ⟨by decide +kernel, by decide +kernel⟩, by decide +kernel⟩, dv_T_in (i := 1128) (by decide +kernel) rfl, dv_T_in (i := 1129) (by decide +kernel) rfl, _, _, kX8⟩
theorem vX8_strange : dv_mv yX8_strange cX8_strange 4 (some .int) 0 8 := ⟨⟨dv_T_in (i := 1134) (by decide +kernel) rfl, dv_T_in (i := 56) (by decide +kernel) rfl, ⟨by decide +kernel, by decide +kernel⟩, by decide +kernel⟩, dv_T_in (i := 1132) (by decide +kernel) rfl, dv_T_in (i := 1133) (by decide +kernel) rfl, _, _, kX8⟩
theorem vX8_makes : dv_mv yX8_makes cX8_makes 3 none 2 8 := ⟨⟨dv_T_in (i := 1146) (by decide +kernel) rfl, dv_T_in (i := 56) (by decide +kernel) rfl, ⟨by decide +kernel, by decide +kernel⟩, by decide +kernel⟩, dv_T_in (i := 1145) (by decide +kernel) rfl, dv_T_in (i := 43) (by decide +kernel) rfl, _, _, kX8⟩
theorem vX8_offers : dv_mv yX8_offers cX8_offers 8 (some .boolean) 1 8 := ⟨⟨dv_T_in (i := 1142) (by decide +kernel) rfl, dv_T_in (i := 56) (by decide +kernel) rfl, ⟨by decide +kernel, by decide +kernel⟩, by decide +kernel⟩, dv_T_in (i := 1141) (by decide +kernel) rfl, dv_T_in (i := 42) (by decide +kernel) rfl, _, _, kX8⟩
theorem vX8_offer : dv_mv yX8_offer cX8_offer 3 (some .int) 1 8 := ⟨⟨dv_T_in (i := 1138) (by decide +kernel) rfl, dv_T_in (i := 56) (by decide +kernel) rfl, ⟨by decide +kernel, by decide +kernel⟩, by decide +kernel⟩, dv_T_in (i := 1136) (by decide +kernel) rfl, dv_T_in (i := 1137) (by decide +kernel) rfl, _, _, kX8⟩
theorem vX8_out : dv_mv yX8_out cX8_out 2 (some .int) 1 8 := ⟨⟨dv_T_in (i := 1150) (by decide +kernel) rfl, dv_T_in (i := 56) (by decide +kernel) rfl, ⟨by decide +kernel, by decide +kernel⟩, by decide +kernel⟩, dv_T_in (i := 1148) (by decide +kernel) rfl, dv_T_in (i := 1149) (by decide +kernel) rfl, _, _, kX8⟩
theorem vX8_renameMany : dv_mv yX8_renameMany cX8_renameMany 3 (some .int) 0 8 := ⟨⟨dv_T_in (i := 1158) (by decide +kernel) rfl, dv_T_in (i := 56) (by decide +kernel) rfl, ⟨by decide +kernel, by decide +kernel⟩, by decide +kernel⟩, dv_T_in (i := 1157) (by decide +kernel) rfl, dv_T_in (i := 44) (by decide +kernel) rfl, _, _, kX8⟩
theorem vX8_rename : dv_mv yX8_rename cX8_rename 4 (some .int) 2 8 := ⟨⟨dv_T_in (i := 1154) (by decide +kernel) rfl, dv_T_in (i := 56) (by decide +kernel) rfl, ⟨by decide +kernel, by decide +kernel⟩, by decide +kernel⟩, dv_T_in (i := 1152) (by decide +kernel) rfl, dv_T_in (i := 1153) (by decide +kernel) rfl, _, _, kX8⟩
theorem vX8_renames : dv_mv yX8_renames cX8_renames 3 (some .int) 0 8 := ⟨⟨dv_T_in (i := 1162) (by decide +kernel) rfl, dv_T_in (i := 56) (by decide +kernel) rfl, ⟨by decide +kernel, by decide +kernel⟩, by decide +kernel⟩, dv_T_in (i := 1160) (by decide +kernel) rfl, dv_T_in (i := 1161) (by decide +kernel) rfl, _, _, kX8⟩
theorem vX8_none : dv_mv yX8_none cX8_none 3 (some .int) 0 8 := ⟨⟨dv_T_in (i := 1166) (by decide +kernel) rfl, dv_T_in (i := 56) (by decide +kernel) rfl, ⟨by decide +kernel, by decide +kernel⟩, by decide +kernel⟩, dv_T_in (i := 1164) (by decide +kernel) rfl, dv_T_in (i := 1165) (by decide +kernel) rfl, _, _, kX8⟩
theorem vX8_hindersTaken : dv_mv yX8_hindersTaken cX8_hindersTaken 4 (some .int) 0 8 := ⟨⟨dv_T_in (i := 1178) (by decide +kernel) rfl, dv_T_in (i := 56) (by decide +kernel) rfl, ⟨by decide +kernel, by decide +kernel⟩, by decide +kernel⟩, dv_T_in (i := 1177) (by decide +kernel) rfl, dv_T_in (i := 46) (by decide +kernel) rfl, _, _, kX8⟩
theorem vX8_hindersAll : dv_mv yX8_hindersAll cX8_hindersAll 2 (some .int) 0 8 := ⟨⟨dv_T_in (i := 1174) (by decide +kernel) rfl, dv_T_in (i := 56) (by decide +kernel) rfl, ⟨by decide +kernel, by decide +kernel⟩, by decide +kernel⟩, dv_T_in (i := 1173) (by decide +kernel) rfl, dv_T_in (i := 45) (by decide +kernel) rfl, _, _, kX8⟩
theorem vX8_hinders : dv_mv yX8_hinders cX8_hinders 1 (some .int) 0 8 := ⟨⟨dv_T_in (i := 1170) (by decide +kernel) rfl, dv_T_in (i := 56) (by decide +kernel) rfl, ⟨by decide +kernel, by decide +kernel⟩, by decide +kernel⟩, dv_T_in (i := 1168) (by decide +kernel) rfl, dv_T_in (i := 1169) (by decide +kernel) rfl, _, _, kX8⟩
theorem vX8_turn : dv_mv yX8_turn cX8_turn 3 (some .int) 0 8 := ⟨⟨dv_T_in (i := 1182) (by decide +kernel) rfl, dv_T_in (i := 56) (by decide +kernel) rfl, ⟨by decide +kernel, by decide +kernel⟩, by decide +kernel⟩, dv_T_in (i := 1180) (by decide +kernel) rfl, dv_T_in (i := 1181) (by decide +kernel) rfl, _, _, kX8⟩
theorem vX8_back : dv_mv yX8_back cX8_back 3 (some .int) 0 8 := ⟨⟨dv_T_in (i := 1186) (by decide +kernel) rfl, dv_T_in (i := 56) (by decide +kernel) rfl, ⟨by decide +kernel, by decide +kernel⟩, by decide +kernel⟩, dv_T_in (i := 1184) (by decide +kernel) rfl, dv_T_in (i := 1185) (by decide +kernel) rfl, _, _, kX8⟩
theorem vX8_keep : dv_mv yX8_keep cX8_keep 2 (some .int) 0 8 := ⟨⟨dv_T_in (i := 1190) (by decide +kernel) rfl, dv_T_in (i := 56) (by decide +kernel) rfl, ⟨by decide +kernel, by decide +kernel⟩, by decide +kernel⟩, dv_T_in (i := 1188) (by decide +kernel) rfl, dv_T_in (i := 1189) (by decide +kernel) rfl, _, _, kX8⟩
theorem vX8_count : dv_mv yX8_count cX8_count 2 (some .int) 1 8 := ⟨⟨dv_T_in (i := 1194) (by decide +kernel) rfl, dv_T_in (i := 56) (by decide +kernel) rfl, ⟨by decide +kernel, by decide +kernel⟩, by decide +kernel⟩, dv_T_in (i := 1192) (by decide +kernel) rfl, dv_T_in (i := 1193) (by decide +kernel) rfl, _, _, kX8⟩
theorem vX8_trouble : dv_mv yX8_trouble cX8_trouble 1 (some .int) 0 8 := ⟨⟨dv_T_in (i := 1198) (by decide +kernel) rfl, dv_T_in (i := 56) (by decide +kernel) rfl, ⟨by decide +kernel, by decide +kernel⟩, by decide +kernel⟩, dv_T_in (i := 1196) (by decide +kernel) rfl, dv_T_in (i := 1197) (by decide +kernel) rfl, _, _, kX8⟩
theorem vJ9_min_7cf53 : dv_ms yJ9_min_7cf53 cJ9_min_7cf53 2 (some .int) 2 := ⟨⟨dv_T_in (i := 445) (by decide +kernel) rfl, dv_T_in (i := 57) (by decide +kernel) rfl, ⟨by decide +kernel, by decide +kernel⟩, by decide +kernel⟩, dv_T_in (i := 444) (by decide +kernel) rfl⟩
theorem mL_23 : Cond.methodLink RL 23 yX7_feed ∈ dv_T := dv_T_in (i := 248) (by decide +kernel) rfl
theorem mX7_88 : Cond.methodLink RX7 88 yX4_size ∈ dv_T := dv_T_in (i := 252) (by decide +kernel) rfl
theorem mX7_92 : Cond.methodLink RX7 92 yX4_addNumber ∈ dv_T := dv_T_in (i := 256) (by decide +kernel) rfl
theorem mX4_27 : Cond.methodLink RX4 27 yX4_add ∈ dv_T := dv_T_in (i := 260) (by decide +kernel) rfl
theorem mL_28 : Cond.methodLink RL 28 yX7_scope ∈ dv_T := dv_T_in (i := 264) (by decide +kernel) rfl
theorem mX7_119 : Cond.methodLink RX7 119 yX3_has ∈ dv_T := dv_T_in (i := 268) (by decide +kernel) rfl
theorem mX7_122 : Cond.methodLink RX7 122 yX7_refused ∈ dv_T := dv_T_in (i := 272) (by decide +kernel) rfl
theorem mX7_125 : Cond.methodLink RX7 125 yX3_isFull ∈ dv_T := dv_T_in (i := 276) (by decide +kernel) rfl
theorem mX7_128 : Cond.methodLink RX7 128 yX3_addWithin ∈ dv_T := dv_T_in (i := 280) (by decide +kernel) rfl
theorem mX3_19 : Cond.methodLink RX3 19 yX3_isFull ∈ dv_T := dv_T_in (i := 284) (by decide +kernel) rfl
theorem mX3_23 : Cond.methodLink RX3 23 yX3_has ∈ dv_T := dv_T_in (i := 285) (by decide +kernel) rfl
theorem mX7_131 : Cond.methodLink RX7 131 yX7_accepted ∈ dv_T := dv_T_in (i := 286) (by decide +kernel) rfl
theorem mL_32 : Cond.methodLink RL 32 yX7_thing ∈ dv_T := dv_T_in (i := 290) (by decide +kernel) rfl
theorem mX7_134 : Cond.methodLink RX7 134 yX7_isKind ∈ dv_T := dv_T_in (i := 294) (by decide +kernel) rfl
theorem mX7_137 : Cond.methodLink RX7 137 yX7_takesName ∈ dv_T := dv_T_in (i := 297) (by decide +kernel) rfl
theorem mX7_105 : Cond.methodLink RX7 105 yX7_isOnTape ∈ dv_T := dv_T_in (i := 301) (by decide +kernel) rfl
theorem mX7_109 : Cond.methodLink RX7 109 yX7_take ∈ dv_T := dv_T_in (i := 305) (by decide +kernel) rfl
theorem mX7_95 : Cond.methodLink RX7 95 yX4_clear ∈ dv_T := dv_T_in (i := 309) (by decide +kernel) rfl
theorem mX7_98 : Cond.methodLink RX7 98 yX4_at ∈ dv_T := dv_T_in (i := 313) (by decide +kernel) rfl
theorem mX4_23 : Cond.methodLink RX4 23 yX4_has ∈ dv_T := dv_T_in (i := 317) (by decide +kernel) rfl
theorem mX7_102 : Cond.methodLink RX7 102 yX4_add ∈ dv_T := dv_T_in (i := 321) (by decide +kernel) rfl
theorem mX7_112 : Cond.methodLink RX7 112 yX4_isName ∈ dv_T := dv_T_in (i := 322) (by decide +kernel) rfl
theorem mX7_333 : Cond.methodLink RX7 333 yX7_isSmall ∈ dv_T := dv_T_in (i := 332) (by decide +kernel) rfl
theorem mX7_336 : Cond.methodLink RX7 336 yX7_isGreat ∈ dv_T := dv_T_in (i := 335) (by decide +kernel) rfl
theorem mX7_140 : Cond.methodLink RX7 140 yX7_isNameOfOther ∈ dv_T := dv_T_in (i := 338) (by decide +kernel) rfl
theorem mX7_198 : Cond.methodLink RX7 198 yX5_size ∈ dv_T := dv_T_in (i := 342) (by decide +kernel) rfl
theorem mX7_161 : Cond.methodLink RX7 161 yX5_scopeOf ∈ dv_T := dv_T_in (i := 346) (by decide +kernel) rfl
theorem mX5_39 : Cond.methodLink RX5 39 yX5_has ∈ dv_T := dv_T_in (i := 350) (by decide +kernel) rfl
theorem mX7_199 : Cond.methodLink RX7 199 yX7_nameNowOrThen ∈ dv_T := dv_T_in (i := 354) (by decide +kernel) rfl
theorem mX7_212 : Cond.methodLink RX7 212 yX2_has ∈ dv_T := dv_T_in (i := 358) (by decide +kernel) rfl
theorem mX7_213 : Cond.methodLink RX7 213 yX2_nameOf ∈ dv_T := dv_T_in (i := 362) (by decide +kernel) rfl
theorem mX7_167 : Cond.methodLink RX7 167 yX5_nameOf ∈ dv_T := dv_T_in (i := 366) (by decide +kernel) rfl
theorem mX7_203 : Cond.methodLink RX7 203 yX4_same ∈ dv_T := dv_T_in (i := 370) (by decide +kernel) rfl
theorem mX7_144 : Cond.methodLink RX7 144 yX7_wouldCatchUse ∈ dv_T := dv_T_in (i := 374) (by decide +kernel) rfl
theorem mX7_207 : Cond.methodLink RX7 207 yX6_size ∈ dv_T := dv_T_in (i := 378) (by decide +kernel) rfl
theorem mX7_195 : Cond.methodLink RX7 195 yX6_thingOf ∈ dv_T := dv_T_in (i := 382) (by decide +kernel) rfl
theorem mX6_26 : Cond.methodLink RX6 26 yX6_has ∈ dv_T := dv_T_in (i := 386) (by decide +kernel) rfl
theorem mX7_194 : Cond.methodLink RX7 194 yX6_scopeOf ∈ dv_T := dv_T_in (i := 390) (by decide +kernel) rfl
theorem mX7_208 : Cond.methodLink RX7 208 yX3_isWithin ∈ dv_T := dv_T_in (i := 394) (by decide +kernel) rfl
theorem mX7_148 : Cond.methodLink RX7 148 yX5_isFull ∈ dv_T := dv_T_in (i := 398) (by decide +kernel) rfl
theorem mX7_149 : Cond.methodLink RX7 149 yX5_add ∈ dv_T := dv_T_in (i := 402) (by decide +kernel) rfl
theorem mX5_31 : Cond.methodLink RX5 31 yX5_isFull ∈ dv_T := dv_T_in (i := 406) (by decide +kernel) rfl
theorem mX5_35 : Cond.methodLink RX5 35 yX4_set ∈ dv_T := dv_T_in (i := 407) (by decide +kernel) rfl
theorem mX4_31 : Cond.methodLink RX4 31 yX4_clear ∈ dv_T := dv_T_in (i := 411) (by decide +kernel) rfl
theorem mL_37 : Cond.methodLink RL 37 yX7_use ∈ dv_T := dv_T_in (i := 412) (by decide +kernel) rfl
theorem mX7_152 : Cond.methodLink RX7 152 yX7_thingMeant ∈ dv_T := dv_T_in (i := 416) (by decide +kernel) rfl
theorem mX7_156 : Cond.methodLink RX7 156 yX6_isFull ∈ dv_T := dv_T_in (i := 420) (by decide +kernel) rfl
theorem mX7_157 : Cond.methodLink RX7 157 yX6_add ∈ dv_T := dv_T_in (i := 424) (by decide +kernel) rfl
theorem mX6_22 : Cond.methodLink RX6 22 yX6_isFull ∈ dv_T := dv_T_in (i := 428) (by decide +kernel) rfl
theorem mL_41 : Cond.methodLink RL 41 yX7_about ∈ dv_T := dv_T_in (i := 429) (by decide +kernel) rfl
theorem mX7_160 : Cond.methodLink RX7 160 yX5_has ∈ dv_T := dv_T_in (i := 433) (by decide +kernel) rfl
theorem mX7_164 : Cond.methodLink RX7 164 yX5_kindOf ∈ dv_T := dv_T_in (i := 434) (by decide +kernel) rfl
theorem mX7_171 : Cond.methodLink RX7 171 yX1_split ∈ dv_T := dv_T_in (i := 438) (by decide +kernel) rfl
theorem mX1_45 : Cond.methodLink RX1 45 yX4_size ∈ dv_T := dv_T_in (i := 442) (by decide +kernel) rfl
theorem mX1_50 : Cond.methodLink RX1 50 yJ9_min_7cf53 ∈ dv_T := dv_T_in (i := 443) (by decide +kernel) rfl
theorem mX1_55 : Cond.methodLink RX1 55 yX4_at ∈ dv_T := dv_T_in (i := 446) (by decide +kernel) rfl
theorem mX1_60 : Cond.methodLink RX1 60 yX1_add ∈ dv_T := dv_T_in (i := 450) (by decide +kernel) rfl
theorem mX1_64 : Cond.methodLink RX1 64 yX1_isCutAhead ∈ dv_T := dv_T_in (i := 454) (by decide +kernel) rfl
theorem mX7_175 : Cond.methodLink RX7 175 yX1_size ∈ dv_T := dv_T_in (i := 460) (by decide +kernel) rfl
theorem mX7_176 : Cond.methodLink RX7 176 yX4_style ∈ dv_T := dv_T_in (i := 464) (by decide +kernel) rfl
theorem mX7_179 : Cond.methodLink RX7 179 yX7_patternOf ∈ dv_T := dv_T_in (i := 470) (by decide +kernel) rfl
theorem mX7_217 : Cond.methodLink RX7 217 yX1_keyOf ∈ dv_T := dv_T_in (i := 474) (by decide +kernel) rfl
theorem mX1_29 : Cond.methodLink RX1 29 yX1_lengthOf ∈ dv_T := dv_T_in (i := 478) (by decide +kernel) rfl
theorem mX1_25 : Cond.methodLink RX1 25 yX1_has ∈ dv_T := dv_T_in (i := 482) (by decide +kernel) rfl
theorem mX1_40 : Cond.methodLink RX1 40 yX1_isNumber ∈ dv_T := dv_T_in (i := 486) (by decide +kernel) rfl
theorem mX1_33 : Cond.methodLink RX1 33 yX1_at ∈ dv_T := dv_T_in (i := 490) (by decide +kernel) rfl
theorem mX7_221 : Cond.methodLink RX7 221 yX0_numberOf ∈ dv_T := dv_T_in (i := 495) (by decide +kernel) rfl
theorem mX7_265 : Cond.methodLink RX7 265 yX0_roleOf ∈ dv_T := dv_T_in (i := 499) (by decide +kernel) rfl
theorem mX0_46 : Cond.methodLink RX0 46 yX0_rolesOf ∈ dv_T := dv_T_in (i := 503) (by decide +kernel) rfl
theorem mX0_36 : Cond.methodLink RX0 36 yX0_has ∈ dv_T := dv_T_in (i := 507) (by decide +kernel) rfl
theorem mX7_182 : Cond.methodLink RX7 182 yX6_howManyMean ∈ dv_T := dv_T_in (i := 511) (by decide +kernel) rfl
theorem mL_55 : Cond.methodLink RL 55 yX7_means ∈ dv_T := dv_T_in (i := 515) (by decide +kernel) rfl
theorem mX7_193 : Cond.methodLink RX7 193 yX6_has ∈ dv_T := dv_T_in (i := 519) (by decide +kernel) rfl
theorem mL_59 : Cond.methodLink RL 59 yX7_find ∈ dv_T := dv_T_in (i := 520) (by decide +kernel) rfl
theorem mL_63 : Cond.methodLink RL 63 yX7_word ∈ dv_T := dv_T_in (i := 524) (by decide +kernel) rfl
theorem mX7_214 : Cond.methodLink RX7 214 yX7_takesWord ∈ dv_T := dv_T_in (i := 528) (by decide +kernel) rfl
theorem mX7_116 : Cond.methodLink RX7 116 yX4_isWord ∈ dv_T := dv_T_in (i := 532) (by decide +kernel) rfl
theorem mX7_225 : Cond.methodLink RX7 225 yX0_isFull ∈ dv_T := dv_T_in (i := 536) (by decide +kernel) rfl
theorem mX7_226 : Cond.methodLink RX7 226 yX0_add ∈ dv_T := dv_T_in (i := 540) (by decide +kernel) rfl
theorem mX0_32 : Cond.methodLink RX0 32 yX0_isFull ∈ dv_T := dv_T_in (i := 544) (by decide +kernel) rfl
theorem mL_67 : Cond.methodLink RL 67 yX7_shorts ∈ dv_T := dv_T_in (i := 545) (by decide +kernel) rfl
theorem mX7_229 : Cond.methodLink RX7 229 yX0_has ∈ dv_T := dv_T_in (i := 549) (by decide +kernel) rfl
theorem mX7_230 : Cond.methodLink RX7 230 yX0_setShort ∈ dv_T := dv_T_in (i := 550) (by decide +kernel) rfl
theorem mL_72 : Cond.methodLink RL 72 yX7_alike ∈ dv_T := dv_T_in (i := 554) (by decide +kernel) rfl
theorem mX7_234 : Cond.methodLink RX7 234 yX0_join ∈ dv_T := dv_T_in (i := 558) (by decide +kernel) rfl
theorem mL_76 : Cond.methodLink RL 76 yX7_told ∈ dv_T := dv_T_in (i := 562) (by decide +kernel) rfl
theorem mX7_237 : Cond.methodLink RX7 237 yX0_rolesOf ∈ dv_T := dv_T_in (i := 566) (by decide +kernel) rfl
theorem mX7_240 : Cond.methodLink RX7 240 yX0_shortFor ∈ dv_T := dv_T_in (i := 567) (by decide +kernel) rfl
theorem mX7_243 : Cond.methodLink RX7 243 yX7_countUsed ∈ dv_T := dv_T_in (i := 571) (by decide +kernel) rfl
theorem mX7_271 : Cond.methodLink RX7 271 yX0_clearUsed ∈ dv_T := dv_T_in (i := 575) (by decide +kernel) rfl
theorem mX7_274 : Cond.methodLink RX7 274 yX0_opened ∈ dv_T := dv_T_in (i := 579) (by decide +kernel) rfl
theorem mX0_49 : Cond.methodLink RX0 49 yX0_shortFor ∈ dv_T := dv_T_in (i := 583) (by decide +kernel) rfl
theorem mX7_277 : Cond.methodLink RX7 277 yX0_addUsed ∈ dv_T := dv_T_in (i := 584) (by decide +kernel) rfl
theorem mX7_246 : Cond.methodLink RX7 246 yX0_usedOf ∈ dv_T := dv_T_in (i := 588) (by decide +kernel) rfl
theorem mX7_249 : Cond.methodLink RX7 249 yX0_headOf ∈ dv_T := dv_T_in (i := 592) (by decide +kernel) rfl
theorem mX0_52 : Cond.methodLink RX0 52 yX0_usedOf ∈ dv_T := dv_T_in (i := 596) (by decide +kernel) rfl
theorem mX7_252 : Cond.methodLink RX7 252 yX0_groupSize ∈ dv_T := dv_T_in (i := 597) (by decide +kernel) rfl
theorem mL_80 : Cond.methodLink RL 80 yX7_part ∈ dv_T := dv_T_in (i := 601) (by decide +kernel) rfl
theorem mX7_255 : Cond.methodLink RX7 255 yX1_has ∈ dv_T := dv_T_in (i := 605) (by decide +kernel) rfl
theorem mL_84 : Cond.methodLink RL 84 yX7_way ∈ dv_T := dv_T_in (i := 606) (by decide +kernel) rfl
theorem mX7_256 : Cond.methodLink RX7 256 yX7_wayOf ∈ dv_T := dv_T_in (i := 610) (by decide +kernel) rfl
theorem mX7_268 : Cond.methodLink RX7 268 yX7_howOften ∈ dv_T := dv_T_in (i := 614) (by decide +kernel) rfl
theorem mL_88 : Cond.methodLink RL 88 yX7_odd ∈ dv_T := dv_T_in (i := 618) (by decide +kernel) rfl
theorem mL_92 : Cond.methodLink RL 92 yX7_isOdd ∈ dv_T := dv_T_in (i := 622) (by decide +kernel) rfl
theorem mL_96 : Cond.methodLink RL 96 yX7_mixed ∈ dv_T := dv_T_in (i := 626) (by decide +kernel) rfl
theorem mX7_259 : Cond.methodLink RX7 259 yX0_mixedGroups ∈ dv_T := dv_T_in (i := 630) (by decide +kernel) rfl
theorem mL_100 : Cond.methodLink RL 100 yX7_strange ∈ dv_T := dv_T_in (i := 634) (by decide +kernel) rfl
theorem mX7_262 : Cond.methodLink RX7 262 yX1_isNumber ∈ dv_T := dv_T_in (i := 638) (by decide +kernel) rfl
theorem mL_104 : Cond.methodLink RL 104 yX7_offer ∈ dv_T := dv_T_in (i := 639) (by decide +kernel) rfl
theorem mX7_280 : Cond.methodLink RX7 280 yX7_draftsOffer ∈ dv_T := dv_T_in (i := 643) (by decide +kernel) rfl
theorem mX7_314 : Cond.methodLink RX7 314 yX7_writePart ∈ dv_T := dv_T_in (i := 647) (by decide +kernel) rfl
theorem mX7_318 : Cond.methodLink RX7 318 yX1_lengthOf ∈ dv_T := dv_T_in (i := 651) (by decide +kernel) rfl
theorem mX7_321 : Cond.methodLink RX7 321 yX0_lengthOf ∈ dv_T := dv_T_in (i := 652) (by decide +kernel) rfl
theorem mX7_322 : Cond.methodLink RX7 322 yX1_at ∈ dv_T := dv_T_in (i := 656) (by decide +kernel) rfl
theorem mX7_324 : Cond.methodLink RX7 324 yX0_letterOf ∈ dv_T := dv_T_in (i := 657) (by decide +kernel) rfl
theorem mX0_40 : Cond.methodLink RX0 40 yX0_lengthOf ∈ dv_T := dv_T_in (i := 661) (by decide +kernel) rfl
theorem mX7_327 : Cond.methodLink RX7 327 yX7_greatOf ∈ dv_T := dv_T_in (i := 663) (by decide +kernel) rfl
theorem mX7_283 : Cond.methodLink RX7 283 yX4_set ∈ dv_T := dv_T_in (i := 666) (by decide +kernel) rfl
theorem mL_112 : Cond.methodLink RL 112 yX7_rename ∈ dv_T := dv_T_in (i := 667) (by decide +kernel) rfl
theorem mX7_288 : Cond.methodLink RX7 288 yX2_put ∈ dv_T := dv_T_in (i := 671) (by decide +kernel) rfl
theorem mX2_28 : Cond.methodLink RX2 28 yX2_nameOf ∈ dv_T := dv_T_in (i := 675) (by decide +kernel) rfl
theorem mX2_32 : Cond.methodLink RX2 32 yX4_set ∈ dv_T := dv_T_in (i := 676) (by decide +kernel) rfl
theorem mX2_36 : Cond.methodLink RX2 36 yX2_putAgain ∈ dv_T := dv_T_in (i := 677) (by decide +kernel) rfl
theorem mX7_292 : Cond.methodLink RX7 292 yX2_size ∈ dv_T := dv_T_in (i := 681) (by decide +kernel) rfl
theorem mL_116 : Cond.methodLink RL 116 yX7_renames ∈ dv_T := dv_T_in (i := 685) (by decide +kernel) rfl
theorem mX7_293 : Cond.methodLink RX7 293 yX2_clear ∈ dv_T := dv_T_in (i := 689) (by decide +kernel) rfl
theorem mL_120 : Cond.methodLink RL 120 yX7_none ∈ dv_T := dv_T_in (i := 693) (by decide +kernel) rfl
theorem mL_124 : Cond.methodLink RL 124 yX7_hinders ∈ dv_T := dv_T_in (i := 697) (by decide +kernel) rfl
theorem mX7_294 : Cond.methodLink RX7 294 yX7_firstDoubled ∈ dv_T := dv_T_in (i := 701) (by decide +kernel) rfl
theorem mX7_297 : Cond.methodLink RX7 297 yX7_firstStrayed ∈ dv_T := dv_T_in (i := 705) (by decide +kernel) rfl
theorem mX7_330 : Cond.methodLink RX7 330 yX7_isStrayed ∈ dv_T := dv_T_in (i := 709) (by decide +kernel) rfl
theorem mL_128 : Cond.methodLink RL 128 yX7_turn ∈ dv_T := dv_T_in (i := 713) (by decide +kernel) rfl
theorem mX7_300 : Cond.methodLink RX7 300 yX7_isSafe ∈ dv_T := dv_T_in (i := 717) (by decide +kernel) rfl
theorem mL_132 : Cond.methodLink RL 132 yX7_back ∈ dv_T := dv_T_in (i := 721) (by decide +kernel) rfl
theorem mL_136 : Cond.methodLink RL 136 yX7_keep ∈ dv_T := dv_T_in (i := 725) (by decide +kernel) rfl
theorem mX7_303 : Cond.methodLink RX7 303 yX2_putAgain ∈ dv_T := dv_T_in (i := 729) (by decide +kernel) rfl
theorem mX7_306 : Cond.methodLink RX7 306 yX7_staysSafe ∈ dv_T := dv_T_in (i := 730) (by decide +kernel) rfl
theorem mX7_309 : Cond.methodLink RX7 309 yX2_drop ∈ dv_T := dv_T_in (i := 734) (by decide +kernel) rfl
theorem mX2_39 : Cond.methodLink RX2 39 yX2_has ∈ dv_T := dv_T_in (i := 738) (by decide +kernel) rfl
theorem mL_140 : Cond.methodLink RL 140 yX7_count ∈ dv_T := dv_T_in (i := 739) (by decide +kernel) rfl
theorem mX7_312 : Cond.methodLink RX7 312 yX3_size ∈ dv_T := dv_T_in (i := 743) (by decide +kernel) rfl
theorem mX7_313 : Cond.methodLink RX7 313 yX0_size ∈ dv_T := dv_T_in (i := 747) (by decide +kernel) rfl
theorem mL_144 : Cond.methodLink RL 144 yX7_trouble ∈ dv_T := dv_T_in (i := 751) (by decide +kernel) rfl
theorem mL_45 : Cond.methodLink RL 45 yL_name ∈ dv_T := dv_T_in (i := 755) (by decide +kernel) rfl
theorem mL_7 : Cond.methodLink RL 7 yX7_name ∈ dv_T := dv_T_in (i := 759) (by decide +kernel) rfl
theorem mX7_185 : Cond.methodLink RX7 185 yX4_has ∈ dv_T := dv_T_in (i := 763) (by decide +kernel) rfl
theorem mL_108 : Cond.methodLink RL 108 yL_out ∈ dv_T := dv_T_in (i := 830) (by decide +kernel) rfl
theorem mL_15 : Cond.methodLink RL 15 yX7_out ∈ dv_T := dv_T_in (i := 833) (by decide +kernel) rfl
theorem mL_51 : Cond.methodLink RL 51 yX8_thrown ∈ dv_T := dv_T_in (i := 838) (by decide +kernel) rfl
theorem mL_27 : Cond.methodLink RL 27 yX8_feed ∈ dv_T := dv_T_in (i := 842) (by decide +kernel) rfl
theorem mL_31 : Cond.methodLink RL 31 yX8_scope ∈ dv_T := dv_T_in (i := 967) (by decide +kernel) rfl
theorem mX8_123 : Cond.methodLink RX8 123 yX8_isScope ∈ dv_T := dv_T_in (i := 971) (by decide +kernel) rfl
theorem mX8_126 : Cond.methodLink RX8 126 yX8_refused ∈ dv_T := dv_T_in (i := 975) (by decide +kernel) rfl
theorem mX8_130 : Cond.methodLink RX8 130 yX8_done ∈ dv_T := dv_T_in (i := 979) (by decide +kernel) rfl
theorem mL_36 : Cond.methodLink RL 36 yX8_thing ∈ dv_T := dv_T_in (i := 983) (by decide +kernel) rfl
theorem mX8_24 : Cond.methodLink RX8 24 yX8_in ∈ dv_T := dv_T_in (i := 987) (by decide +kernel) rfl
theorem mX8_140 : Cond.methodLink RX8 140 yX8_isTaped ∈ dv_T := dv_T_in (i := 990) (by decide +kernel) rfl
theorem mX8_143 : Cond.methodLink RX8 143 yX8_isName ∈ dv_T := dv_T_in (i := 994) (by decide +kernel) rfl
theorem mX8_28 : Cond.methodLink RX8 28 yX8_isDigit ∈ dv_T := dv_T_in (i := 997) (by decide +kernel) rfl
theorem mX8_31 : Cond.methodLink RX8 31 yX8_isLetter ∈ dv_T := dv_T_in (i := 1000) (by decide +kernel) rfl
theorem mX8_17 : Cond.methodLink RX8 17 yX8_isSmall ∈ dv_T := dv_T_in (i := 1003) (by decide +kernel) rfl
theorem mX8_21 : Cond.methodLink RX8 21 yX8_isGreat ∈ dv_T := dv_T_in (i := 1006) (by decide +kernel) rfl
theorem mX8_133 : Cond.methodLink RX8 133 yX8_isSame ∈ dv_T := dv_T_in (i := 1009) (by decide +kernel) rfl
theorem mX8_147 : Cond.methodLink RX8 147 yX8_takesUse ∈ dv_T := dv_T_in (i := 1012) (by decide +kernel) rfl
theorem mL_40 : Cond.methodLink RL 40 yX8_use ∈ dv_T := dv_T_in (i := 1016) (by decide +kernel) rfl
theorem mX8_155 : Cond.methodLink RX8 155 yX8_meaningOf ∈ dv_T := dv_T_in (i := 1020) (by decide +kernel) rfl
theorem mL_62 : Cond.methodLink RL 62 yX8_find ∈ dv_T := dv_T_in (i := 1024) (by decide +kernel) rfl
theorem mL_58 : Cond.methodLink RL 58 yX8_means ∈ dv_T := dv_T_in (i := 1028) (by decide +kernel) rfl
theorem mL_50 : Cond.methodLink RL 50 yX8_name ∈ dv_T := dv_T_in (i := 1032) (by decide +kernel) rfl
theorem mX8_159 : Cond.methodLink RX8 159 yX8_isThing ∈ dv_T := dv_T_in (i := 1036) (by decide +kernel) rfl
theorem mL_66 : Cond.methodLink RL 66 yX8_word ∈ dv_T := dv_T_in (i := 1040) (by decide +kernel) rfl
theorem mL_71 : Cond.methodLink RL 71 yX8_shorts ∈ dv_T := dv_T_in (i := 1044) (by decide +kernel) rfl
theorem mX8_168 : Cond.methodLink RX8 168 yX8_isWord ∈ dv_T := dv_T_in (i := 1048) (by decide +kernel) rfl
theorem mX8_171 : Cond.methodLink RX8 171 yX8_denied ∈ dv_T := dv_T_in (i := 1052) (by decide +kernel) rfl
theorem mX8_174 : Cond.methodLink RX8 174 yX8_granted ∈ dv_T := dv_T_in (i := 1056) (by decide +kernel) rfl
theorem mL_75 : Cond.methodLink RL 75 yX8_alike ∈ dv_T := dv_T_in (i := 1060) (by decide +kernel) rfl
theorem mL_79 : Cond.methodLink RL 79 yX8_told ∈ dv_T := dv_T_in (i := 1064) (by decide +kernel) rfl
theorem mX8_192 : Cond.methodLink RX8 192 yX8_counts ∈ dv_T := dv_T_in (i := 1068) (by decide +kernel) rfl
theorem mX8_181 : Cond.methodLink RX8 181 yX8_cuts ∈ dv_T := dv_T_in (i := 1072) (by decide +kernel) rfl
theorem mX8_185 : Cond.methodLink RX8 185 yX8_wordOf ∈ dv_T := dv_T_in (i := 1076) (by decide +kernel) rfl
theorem mX8_178 : Cond.methodLink RX8 178 yX8_low ∈ dv_T := dv_T_in (i := 1080) (by decide +kernel) rfl
theorem mX8_189 : Cond.methodLink RX8 189 yX8_opened ∈ dv_T := dv_T_in (i := 1083) (by decide +kernel) rfl
theorem mX8_195 : Cond.methodLink RX8 195 yX8_headOf ∈ dv_T := dv_T_in (i := 1087) (by decide +kernel) rfl
theorem mX8_198 : Cond.methodLink RX8 198 yX8_groupSize ∈ dv_T := dv_T_in (i := 1091) (by decide +kernel) rfl
theorem mL_83 : Cond.methodLink RL 83 yX8_part ∈ dv_T := dv_T_in (i := 1095) (by decide +kernel) rfl
theorem mL_44 : Cond.methodLink RL 44 yX8_about ∈ dv_T := dv_T_in (i := 1099) (by decide +kernel) rfl
theorem mX8_201 : Cond.methodLink RX8 201 yX8_styleOf ∈ dv_T := dv_T_in (i := 1103) (by decide +kernel) rfl
theorem mX8_204 : Cond.methodLink RX8 204 yX8_patternOf ∈ dv_T := dv_T_in (i := 1107) (by decide +kernel) rfl
theorem mL_87 : Cond.methodLink RL 87 yX8_way ∈ dv_T := dv_T_in (i := 1111) (by decide +kernel) rfl
theorem mX8_207 : Cond.methodLink RX8 207 yX8_wayOf ∈ dv_T := dv_T_in (i := 1115) (by decide +kernel) rfl
theorem mL_91 : Cond.methodLink RL 91 yX8_odd ∈ dv_T := dv_T_in (i := 1119) (by decide +kernel) rfl
theorem mL_95 : Cond.methodLink RL 95 yX8_isOdd ∈ dv_T := dv_T_in (i := 1123) (by decide +kernel) rfl
theorem mL_99 : Cond.methodLink RL 99 yX8_mixed ∈ dv_T := dv_T_in (i := 1127) (by decide +kernel) rfl
theorem mL_103 : Cond.methodLink RL 103 yX8_strange ∈ dv_T := dv_T_in (i := 1131) (by decide +kernel) rfl
theorem mL_107 : Cond.methodLink RL 107 yX8_offer ∈ dv_T := dv_T_in (i := 1135) (by decide +kernel) rfl
theorem mX8_217 : Cond.methodLink RX8 217 yX8_offers ∈ dv_T := dv_T_in (i := 1139) (by decide +kernel) rfl
theorem mX8_213 : Cond.methodLink RX8 213 yX8_makes ∈ dv_T := dv_T_in (i := 1143) (by decide +kernel) rfl
theorem mL_111 : Cond.methodLink RL 111 yX8_out ∈ dv_T := dv_T_in (i := 1147) (by decide +kernel) rfl
theorem mL_115 : Cond.methodLink RL 115 yX8_rename ∈ dv_T := dv_T_in (i := 1151) (by decide +kernel) rfl
theorem mX8_223 : Cond.methodLink RX8 223 yX8_renameMany ∈ dv_T := dv_T_in (i := 1155) (by decide +kernel) rfl
theorem mL_119 : Cond.methodLink RL 119 yX8_renames ∈ dv_T := dv_T_in (i := 1159) (by decide +kernel) rfl
theorem mL_123 : Cond.methodLink RL 123 yX8_none ∈ dv_T := dv_T_in (i := 1163) (by decide +kernel) rfl
theorem mL_127 : Cond.methodLink RL 127 yX8_hinders ∈ dv_T := dv_T_in (i := 1167) (by decide +kernel) rfl
theorem mX8_230 : Cond.methodLink RX8 230 yX8_hindersAll ∈ dv_T := dv_T_in (i := 1171) (by decide +kernel) rfl
theorem mX8_227 : Cond.methodLink RX8 227 yX8_hindersTaken ∈ dv_T := dv_T_in (i := 1175) (by decide +kernel) rfl
theorem mL_131 : Cond.methodLink RL 131 yX8_turn ∈ dv_T := dv_T_in (i := 1179) (by decide +kernel) rfl
theorem mL_135 : Cond.methodLink RL 135 yX8_back ∈ dv_T := dv_T_in (i := 1183) (by decide +kernel) rfl
theorem mL_139 : Cond.methodLink RL 139 yX8_keep ∈ dv_T := dv_T_in (i := 1187) (by decide +kernel) rfl
theorem mL_143 : Cond.methodLink RL 143 yX8_count ∈ dv_T := dv_T_in (i := 1191) (by decide +kernel) rfl
theorem mL_147 : Cond.methodLink RL 147 yX8_trouble ∈ dv_T := dv_T_in (i := 1195) (by decide +kernel) rfl
theorem eX1_43 : Cond.constantLong RX1 43 32 ∈ dv_T := dv_T_in (i := 494) (by decide +kernel) rfl
theorem eX0_44 : Cond.constantLong RX0 44 31 ∈ dv_T := dv_T_in (i := 662) (by decide +kernel) rfl
end
section
theorem nX4_34 : (RX4, 34, yX7_isDigit) ∈ dv_NL := List.mem_of_getElem? (i := 0) rfl
theorem nX4_37 : (RX4, 37, yX7_isLetter) ∈ dv_NL := List.mem_of_getElem? (i := 1) rfl
theorem nX4_40 : (RX4, 40, yX7_isSmall) ∈ dv_NL := List.mem_of_getElem? (i := 2) rfl
theorem nX4_43 : (RX4, 43, yX7_isGreat) ∈ dv_NL := List.mem_of_getElem? (i := 3) rfl
theorem nX1_57 : (RX1, 57, yX7_smallOf) ∈ dv_NL := List.mem_of_getElem? (i := 4) rfl
theorem nX1_37 : (RX1, 37, yX7_isDigit) ∈ dv_NL := List.mem_of_getElem? (i := 5) rfl
theorem nX1_68 : (RX1, 68, yX7_isGreat) ∈ dv_NL := List.mem_of_getElem? (i := 6) rfl
theorem nX1_71 : (RX1, 71, yX7_isSmall) ∈ dv_NL := List.mem_of_getElem? (i := 7) rfl
theorem dv_rf4_0 {a : Nat} (h : dv_kd a = 4) : dv_rf a 0 = some (a + 1) := by simp [dv_rf, h]
theorem dv_rf4_1 {a : Nat} (h : dv_kd a = 4) : dv_rf a 1 = none := by simp [dv_rf, h]
theorem dv_rf4_2 {a : Nat} (h : dv_kd a = 4) : dv_rf a 2 = none := by simp [dv_rf, h]
section
variable {y : MethodName} {cc : ByteArray} {n : Nat} {ret : Option FieldType} {d pc pc' : Nat} {l l' : List (Option Value)} {st : List Value} {S S1 : dv_S} {Q : Option Value → dv_S → Prop}
variable {y' : MethodName} {cc' : ByteArray} {n' : Nat} {ret' : Option FieldType} {a ci idx : Nat} {As rest : List Value} {v : Value} {Qc : Option Value → dv_S → Prop}
theorem J_v1 (hM : dv_M y' cc' n' ret' (dv_rm d) (.ref a :: As) S (fun r S' => r = some v ∧ S' = S1)) (hf : dv_mv y' cc' n' ret' As.length ci) (hlk : Cond.methodLink y.cls idx y' ∈ dv_T) (ha : dv_kd a = ci) (hd : decode cc pc = .ok (.invokevirtual idx, 3)) (hp : pc + 3 = pc') (hst : st = As.reverse ++ .ref a :: rest) (hrm : (rest.map fun v => v.category).sum ≤ 8) (hn : n' ≤ 13) (k : dv_J y cc n ret (dv_rm (d + 1)) 0 0 pc' l (v :: rest) S1 Q) : dv_J y cc n ret (dv_rm (d + 1)) 0 0 pc l st S Q :=
  J_callv As hM hf hlk ha hd hp hst hrm (dv_rR d hn) (dv_r0 _ _) (fun r S' h => by obtain ⟨rfl, rfl⟩ := h; exact k)
theorem J_v0 (hM : dv_M y' cc' n' ret' (dv_rm d) (.ref a :: As) S (fun r S' => r = none ∧ S' = S1)) (hf : dv_mv y' cc' n' ret' As.length ci) (hlk : Cond.methodLink y.cls idx y' ∈ dv_T) (ha : dv_kd a = ci) (hd : decode cc pc = .ok (.invokevirtual idx, 3)) (hp : pc + 3 = pc') (hst : st = As.reverse ++ .ref a :: rest) (hrm : (rest.map fun v => v.category).sum ≤ 8) (hn : n' ≤ 13) (k : dv_J y cc n ret (dv_rm (d + 1)) 0 0 pc' l rest S1 Q) : dv_J y cc n ret (dv_rm (d + 1)) 0 0 pc l st S Q :=
  J_callv As hM hf hlk ha hd hp hst hrm (dv_rR d hn) (dv_r0 _ _) (fun r S' h => by obtain ⟨rfl, rfl⟩ := h; exact k)
theorem J_vq (hM : dv_M y' cc' n' ret' (dv_rm d) (.ref a :: As) S Qc) (hf : dv_mv y' cc' n' ret' As.length ci) (hlk : Cond.methodLink y.cls idx y' ∈ dv_T) (ha : dv_kd a = ci) (hd : decode cc pc = .ok (.invokevirtual idx, 3)) (hp : pc + 3 = pc') (hst : st = As.reverse ++ .ref a :: rest) (hrm : (rest.map fun v => v.category).sum ≤ 8) (hn : n' ≤ 13) (k : ∀ r S', Qc r S' → dv_J y cc n ret (dv_rm (d + 1)) 0 0 pc' l (r.toList ++ rest) S' Q) : dv_J y cc n ret (dv_rm (d + 1)) 0 0 pc l st S Q :=
  J_callv As hM hf hlk ha hd hp hst hrm (dv_rR d hn) (dv_r0 _ _) k
theorem J_s1 (hM : dv_M y' cc' n' ret' (dv_rm d) As S (fun r S' => r = some v ∧ S' = S1)) (hf : dv_ms y' cc' n' ret' As.length) (hlk : Cond.methodLink y.cls idx y' ∈ dv_T) (hd : decode cc pc = .ok (.invokestatic idx, 3)) (hp : pc + 3 = pc') (hst : st = As.reverse ++ rest) (hrm : (rest.map fun v => v.category).sum ≤ 8) (hn : n' ≤ 13) (k : dv_J y cc n ret (dv_rm (d + 1)) 0 0 pc' l (v :: rest) S1 Q) : dv_J y cc n ret (dv_rm (d + 1)) 0 0 pc l st S Q :=
  J_calls As hM hf hlk hd hp hst hrm (dv_rR d hn) (dv_r0 _ _) (fun r S' h => by obtain ⟨rfl, rfl⟩ := h; exact k)
theorem J_n1 (hM : dv_M y' cc' n' ret' (dv_rm d) As S (fun r S' => r = some v ∧ S' = S1)) (hf : dv_ms y' cc' n' ret' As.length) (hlk : (y.cls, idx, y') ∈ dv_NL) (hd : decode cc pc = .ok (.invokestatic idx, 3)) (hp : pc + 3 = pc') (hst : st = As.reverse ++ rest) (hrm : (rest.map fun v => v.category).sum ≤ 8) (hn : n' ≤ 13) (k : dv_J y cc n ret (dv_rm (d + 1)) 0 0 pc' l (v :: rest) S1 Q) : dv_J y cc n ret (dv_rm (d + 1)) 0 0 pc l st S Q :=
  J_calln As hM hf hlk hd hp hst hrm (dv_rR d hn) (dv_r0 _ _) (fun r S' h => by obtain ⟨rfl, rfl⟩ := h; exact k)
end

theorem dv_pr_drop {scr b : Nat} {l : List (Option Value)} {j : Nat} {q : Nat × Value} (h : q ∈ dv_pr scr b 0 (l.set j none)) : q ∈ dv_pr scr b 0 l := by
  obtain ⟨i, v, rfl, hi⟩ := dv_pr_of _ _ _ h
  refine dv_pr_in l 0 i v ?_
  by_cases hj : i = j
  · subst hj
    rw [List.getElem?_set_self (by have := (List.getElem?_eq_some_iff.mp hi).1; simpa using this)] at hi
    cases hi
  · rwa [List.getElem?_set_ne (Ne.symm hj)] at hi
theorem J_drop {y : MethodName} {cc : ByteArray} {n : Nat} {ret : Option FieldType} {R : Room} {cs ss pc : Nat} {l l' : List (Option Value)} {st : List Value} {S : dv_S} {Q : Option Value → dv_S → Prop} (j : Nat) (hs : l.set j none = l') (k : dv_J y cc n ret R cs ss pc l' st S Q) : dv_J y cc n ret R cs ss pc l st S Q := by
  intro la b scr dC dI dA p e s m args below meth c H locs ls hc hl hP hS hX
  subst hs
  exact k la b scr dC dI dA p e s m args below meth c H locs ls hc ⟨hl.1, hl.2.1, fun q hq => hl.2.2 q (dv_pr_drop hq)⟩ hP hS hX
end
section
theorem kd_0 : dv_kd 0 = 7 := by decide
theorem rf_0_0 : dv_rf 0 0 = some 1 := by decide
theorem rf_0_1 : dv_rf 0 1 = some 3 := by decide
theorem rf_0_2 : dv_rf 0 2 = some 5 := by decide
theorem rf_0_3 : dv_rf 0 3 = some 7 := by decide
theorem rf_0_4 : dv_rf 0 4 = some 9 := by decide
theorem rf_0_5 : dv_rf 0 5 = some 13 := by decide
theorem rf_0_6 : dv_rf 0 6 = some 19 := by decide
theorem rf_0_7 : dv_rf 0 7 = some 21 := by decide
theorem rf_0_8 : dv_rf 0 8 = some 185 := by decide
theorem rf_0_9 : dv_rf 0 9 = some 188 := by decide
theorem rf_0_10 : dv_rf 0 10 = some 351 := by decide
theorem rf_0_11 : dv_rf 0 11 = some 514 := by decide
theorem rf_0_12 : dv_rf 0 12 = some 515 := by decide
theorem rf_0_13 : dv_rf 0 13 = none := by decide
theorem rf_0_14 : dv_rf 0 14 = none := by decide
theorem kd_1 : dv_kd 1 = 4 := by decide
theorem rf_1_0 : dv_rf 1 0 = some 2 := by decide
theorem rf_1_1 : dv_rf 1 1 = none := by decide
theorem rf_1_2 : dv_rf 1 2 = none := by decide
theorem kd_2 : dv_kd 2 = 10 := by decide
theorem ln_2 : dv_ln 2 = 200 := by decide
theorem kd_3 : dv_kd 3 = 4 := by decide
theorem rf_3_0 : dv_rf 3 0 = some 4 := by decide
theorem rf_3_1 : dv_rf 3 1 = none := by decide
theorem rf_3_2 : dv_rf 3 2 = none := by decide
theorem kd_4 : dv_kd 4 = 10 := by decide
theorem ln_4 : dv_ln 4 = 24 := by decide
theorem kd_5 : dv_kd 5 = 4 := by decide
theorem rf_5_0 : dv_rf 5 0 = some 6 := by decide
theorem rf_5_1 : dv_rf 5 1 = none := by decide
theorem rf_5_2 : dv_rf 5 2 = none := by decide
theorem kd_6 : dv_kd 6 = 10 := by decide
theorem ln_6 : dv_ln 6 = 24 := by decide
theorem kd_7 : dv_kd 7 = 4 := by decide
theorem rf_7_0 : dv_rf 7 0 = some 8 := by decide
theorem rf_7_1 : dv_rf 7 1 = none := by decide
theorem rf_7_2 : dv_rf 7 2 = none := by decide
theorem kd_8 : dv_kd 8 = 10 := by decide
theorem ln_8 : dv_ln 8 = 24 := by decide
theorem kd_9 : dv_kd 9 = 1 := by decide
theorem rf_9_0 : dv_rf 9 0 = some 10 := by decide
theorem rf_9_1 : dv_rf 9 1 = some 11 := by decide
theorem rf_9_2 : dv_rf 9 2 = some 12 := by decide
theorem rf_9_3 : dv_rf 9 3 = none := by decide
theorem kd_10 : dv_kd 10 = 10 := by decide
theorem ln_10 : dv_ln 10 = 24 := by decide
theorem kd_11 : dv_kd 11 = 10 := by decide
theorem ln_11 : dv_ln 11 = 24 := by decide
theorem kd_12 : dv_kd 12 = 10 := by decide
theorem ln_12 : dv_ln 12 = 24 := by decide
theorem kd_13 : dv_kd 13 = 0 := by decide
theorem rf_13_0 : dv_rf 13 0 = some 14 := by decide
theorem rf_13_1 : dv_rf 13 1 = some 15 := by decide
theorem rf_13_2 : dv_rf 13 2 = some 16 := by decide
theorem rf_13_3 : dv_rf 13 3 = some 17 := by decide
theorem rf_13_4 : dv_rf 13 4 = some 18 := by decide
theorem rf_13_5 : dv_rf 13 5 = none := by decide
theorem kd_14 : dv_kd 14 = 11 := by decide
theorem ln_14 : dv_ln 14 = 60 := by decide
theorem kd_15 : dv_kd 15 = 10 := by decide
theorem ln_15 : dv_ln 15 = 60 := by decide
theorem kd_16 : dv_kd 16 = 10 := by decide
theorem ln_16 : dv_ln 16 = 60 := by decide
theorem kd_17 : dv_kd 17 = 10 := by decide
theorem ln_17 : dv_ln 17 = 60 := by decide
theorem kd_18 : dv_kd 18 = 10 := by decide
theorem ln_18 : dv_ln 18 = 60 := by decide
theorem kd_19 : dv_kd 19 = 3 := by decide
theorem rf_19_0 : dv_rf 19 0 = some 20 := by decide
theorem rf_19_1 : dv_rf 19 1 = none := by decide
theorem kd_20 : dv_kd 20 = 10 := by decide
theorem ln_20 : dv_ln 20 = 20 := by decide
theorem kd_21 : dv_kd 21 = 5 := by decide
theorem rf_21_0 : dv_rf 21 0 = some 22 := by decide
theorem rf_21_1 : dv_rf 21 1 = some 23 := by decide
theorem rf_21_2 : dv_rf 21 2 = some 24 := by decide
theorem rf_21_3 : dv_rf 21 3 = none := by decide
theorem kd_22 : dv_kd 22 = 10 := by decide
theorem ln_22 : dv_ln 22 = 80 := by decide
theorem kd_23 : dv_kd 23 = 10 := by decide
theorem ln_23 : dv_ln 23 = 80 := by decide
theorem kd_24 : dv_kd 24 = 13 := by decide
theorem ln_24 : dv_ln 24 = 80 := by decide
theorem kd_185 : dv_kd 185 = 6 := by decide
theorem rf_185_0 : dv_rf 185 0 = some 186 := by decide
theorem rf_185_1 : dv_rf 185 1 = some 187 := by decide
theorem rf_185_2 : dv_rf 185 2 = none := by decide
theorem kd_186 : dv_kd 186 = 10 := by decide
theorem ln_186 : dv_ln 186 = 150 := by decide
theorem kd_187 : dv_kd 187 = 10 := by decide
theorem ln_187 : dv_ln 187 = 150 := by decide
theorem kd_188 : dv_kd 188 = 2 := by decide
theorem rf_188_0 : dv_rf 188 0 = some 189 := by decide
theorem rf_188_1 : dv_rf 188 1 = some 190 := by decide
theorem rf_188_2 : dv_rf 188 2 = none := by decide
theorem kd_189 : dv_kd 189 = 12 := by decide
theorem ln_189 : dv_ln 189 = 80 := by decide
theorem kd_190 : dv_kd 190 = 13 := by decide
theorem ln_190 : dv_ln 190 = 80 := by decide
theorem kd_351 : dv_kd 351 = 2 := by decide
theorem rf_351_0 : dv_rf 351 0 = some 352 := by decide
theorem rf_351_1 : dv_rf 351 1 = some 353 := by decide
theorem rf_351_2 : dv_rf 351 2 = none := by decide
theorem kd_352 : dv_kd 352 = 12 := by decide
theorem ln_352 : dv_ln 352 = 80 := by decide
theorem kd_353 : dv_kd 353 = 13 := by decide
theorem ln_353 : dv_ln 353 = 80 := by decide
theorem kd_514 : dv_kd 514 = 12 := by decide
theorem ln_514 : dv_ln 514 = 80 := by decide
theorem kd_515 : dv_kd 515 = 10 := by decide
theorem ln_515 : dv_ln 515 = 80 := by decide
theorem kd_516 : dv_kd 516 = 8 := by decide
theorem rf_516_0 : dv_rf 516 0 = none := by decide
theorem rf_516_1 : dv_rf 516 1 = none := by decide
theorem rf_516_2 : dv_rf 516 2 = some 517 := by decide
theorem rf_516_3 : dv_rf 516 3 = none := by decide
theorem rf_516_4 : dv_rf 516 4 = none := by decide
theorem rf_516_5 : dv_rf 516 5 = none := by decide
theorem rf_516_6 : dv_rf 516 6 = none := by decide
theorem rf_516_7 : dv_rf 516 7 = some 518 := by decide
theorem rf_516_8 : dv_rf 516 8 = some 519 := by decide
theorem rf_516_9 : dv_rf 516 9 = some 520 := by decide
theorem rf_516_10 : dv_rf 516 10 = some 521 := by decide
theorem rf_516_11 : dv_rf 516 11 = some 522 := by decide
theorem rf_516_12 : dv_rf 516 12 = some 523 := by decide
theorem rf_516_13 : dv_rf 516 13 = some 524 := by decide
theorem rf_516_14 : dv_rf 516 14 = some 525 := by decide
theorem rf_516_15 : dv_rf 516 15 = some 526 := by decide
theorem rf_516_16 : dv_rf 516 16 = none := by decide
theorem rf_516_17 : dv_rf 516 17 = none := by decide
theorem rf_516_18 : dv_rf 516 18 = some 527 := by decide
theorem rf_516_19 : dv_rf 516 19 = some 528 := by decide
theorem rf_516_20 : dv_rf 516 20 = some 529 := by decide
theorem rf_516_21 : dv_rf 516 21 = some 530 := by decide
theorem rf_516_22 : dv_rf 516 22 = some 531 := by decide
theorem rf_516_23 : dv_rf 516 23 = some 532 := by decide
theorem rf_516_24 : dv_rf 516 24 = some 533 := by decide
theorem rf_516_25 : dv_rf 516 25 = some 534 := by decide
theorem rf_516_26 : dv_rf 516 26 = none := by decide
theorem rf_516_27 : dv_rf 516 27 = none := by decide
theorem rf_516_28 : dv_rf 516 28 = some 535 := by decide
theorem rf_516_29 : dv_rf 516 29 = some 536 := by decide
theorem rf_516_30 : dv_rf 516 30 = some 537 := by decide
theorem rf_516_31 : dv_rf 516 31 = some 538 := by decide
theorem rf_516_32 : dv_rf 516 32 = some 539 := by decide
theorem rf_516_33 : dv_rf 516 33 = some 540 := by decide
theorem rf_516_34 : dv_rf 516 34 = some 541 := by decide
theorem rf_516_35 : dv_rf 516 35 = some 542 := by decide
theorem rf_516_36 : dv_rf 516 36 = none := by decide
theorem rf_516_37 : dv_rf 516 37 = none := by decide
theorem kd_517 : dv_kd 517 = 9 := by decide
theorem ln_517 : dv_ln 517 = 200 := by decide
theorem kd_518 : dv_kd 518 = 10 := by decide
theorem ln_518 : dv_ln 518 = 20 := by decide
theorem kd_519 : dv_kd 519 = 10 := by decide
theorem ln_519 : dv_ln 519 = 80 := by decide
theorem kd_520 : dv_kd 520 = 10 := by decide
theorem ln_520 : dv_ln 520 = 80 := by decide
theorem kd_521 : dv_kd 521 = 10 := by decide
theorem ln_521 : dv_ln 521 = 80 := by decide
theorem kd_522 : dv_kd 522 = 10 := by decide
theorem ln_522 : dv_ln 522 = 150 := by decide
theorem kd_523 : dv_kd 523 = 10 := by decide
theorem ln_523 : dv_ln 523 = 150 := by decide
theorem kd_524 : dv_kd 524 = 9 := by decide
theorem ln_524 : dv_ln 524 = 1920 := by decide
theorem kd_525 : dv_kd 525 = 10 := by decide
theorem ln_525 : dv_ln 525 = 24 := by decide
theorem kd_526 : dv_kd 526 = 10 := by decide
theorem ln_526 : dv_ln 526 = 24 := by decide
theorem kd_527 : dv_kd 527 = 9 := by decide
theorem ln_527 : dv_ln 527 = 720 := by decide
theorem kd_528 : dv_kd 528 = 10 := by decide
theorem ln_528 : dv_ln 528 = 60 := by decide
theorem kd_529 : dv_kd 529 = 10 := by decide
theorem ln_529 : dv_ln 529 = 60 := by decide
theorem kd_530 : dv_kd 530 = 10 := by decide
theorem ln_530 : dv_ln 530 = 60 := by decide
theorem kd_531 : dv_kd 531 = 10 := by decide
theorem ln_531 : dv_ln 531 = 60 := by decide
theorem kd_532 : dv_kd 532 = 10 := by decide
theorem ln_532 : dv_ln 532 = 60 := by decide
theorem kd_533 : dv_kd 533 = 9 := by decide
theorem ln_533 : dv_ln 533 = 24 := by decide
theorem kd_534 : dv_kd 534 = 9 := by decide
theorem ln_534 : dv_ln 534 = 312 := by decide
theorem kd_535 : dv_kd 535 = 12 := by decide
theorem ln_535 : dv_ln 535 = 80 := by decide
theorem kd_536 : dv_kd 536 = 12 := by decide
theorem ln_536 : dv_ln 536 = 80 := by decide
theorem kd_537 : dv_kd 537 = 9 := by decide
theorem ln_537 : dv_ln 537 = 1920 := by decide
theorem kd_538 : dv_kd 538 = 9 := by decide
theorem ln_538 : dv_ln 538 = 1920 := by decide
theorem kd_539 : dv_kd 539 = 9 := by decide
theorem ln_539 : dv_ln 539 = 1920 := by decide
theorem kd_540 : dv_kd 540 = 10 := by decide
theorem ln_540 : dv_ln 540 = 80 := by decide
theorem kd_541 : dv_kd 541 = 10 := by decide
theorem ln_541 : dv_ln 541 = 80 := by decide
theorem kd_542 : dv_kd 542 = 10 := by decide
theorem ln_542 : dv_ln 542 = 80 := by decide
theorem kd_543 : dv_kd 543 = 11 := by decide
theorem ln_543 : dv_ln 543 = 1 := by decide
theorem ic_m1 : Int32.ofInt (-1) = (-1) := by decide
theorem ic_0 : Int32.ofInt 0 = 0 := by decide
theorem ic_1 : Int32.ofInt 1 = 1 := by decide
theorem ic_2 : Int32.ofInt 2 = 2 := by decide
theorem ic_3 : Int32.ofInt 3 = 3 := by decide
theorem ic_4 : Int32.ofInt 4 = 4 := by decide
theorem ic_5 : Int32.ofInt 5 = 5 := by decide
theorem bp_m2 : (Int8.ofInt (-2)).toInt32 = (-2) := by decide
theorem bp_6 : (Int8.ofInt 6).toInt32 = 6 := by decide
theorem bp_8 : (Int8.ofInt 8).toInt32 = 8 := by decide
theorem bp_12 : (Int8.ofInt 12).toInt32 = 12 := by decide
theorem bp_15 : (Int8.ofInt 15).toInt32 = 15 := by decide
theorem bp_16 : (Int8.ofInt 16).toInt32 = 16 := by decide
theorem bp_20 : (Int8.ofInt 20).toInt32 = 20 := by decide
theorem bp_24 : (Int8.ofInt 24).toInt32 = 24 := by decide
theorem bp_31 : (Int8.ofInt 31).toInt32 = 31 := by decide
theorem bp_32 : (Int8.ofInt 32).toInt32 = 32 := by decide
theorem bp_48 : (Int8.ofInt 48).toInt32 = 48 := by decide
theorem bp_57 : (Int8.ofInt 57).toInt32 = 57 := by decide
theorem bp_60 : (Int8.ofInt 60).toInt32 = 60 := by decide
theorem bp_65 : (Int8.ofInt 65).toInt32 = 65 := by decide
theorem bp_80 : (Int8.ofInt 80).toInt32 = 80 := by decide
theorem bp_90 : (Int8.ofInt 90).toInt32 = 90 := by decide
theorem bp_95 : (Int8.ofInt 95).toInt32 = 95 := by decide
theorem bp_96 : (Int8.ofInt 96).toInt32 = 96 := by decide
theorem bp_97 : (Int8.ofInt 97).toInt32 = 97 := by decide
theorem bp_122 : (Int8.ofInt 122).toInt32 = 122 := by decide
theorem sp_150 : (Int16.ofInt 150).toInt32 = 150 := by decide
theorem sp_200 : (Int16.ofInt 200).toInt32 = 200 := by decide
theorem sp_255 : (Int16.ofInt 255).toInt32 = 255 := by decide
theorem sp_312 : (Int16.ofInt 312).toInt32 = 312 := by decide
theorem sp_720 : (Int16.ofInt 720).toInt32 = 720 := by decide
theorem sp_1000 : (Int16.ofInt 1000).toInt32 = 1000 := by decide
theorem sp_1920 : (Int16.ofInt 1920).toInt32 = 1920 := by decide
theorem kd_T {j : Nat} (h : j < 80) : dv_kd (25 + 2 * j) = 4 ∧ dv_kd (25 + 2 * j + 1) = 10 ∧ dv_ln (25 + 2 * j + 1) = 24 := by
  have key : ∀ j, j < 80 → dv_kd (25 + 2 * j) = 4 ∧ dv_kd (25 + 2 * j + 1) = 10 ∧ dv_ln (25 + 2 * j + 1) = 24 := by decide +kernel
  exact key j h
theorem kd_P {j : Nat} (h : j < 80) : dv_kd (191 + 2 * j) = 4 ∧ dv_kd (191 + 2 * j + 1) = 10 ∧ dv_ln (191 + 2 * j + 1) = 24 := by
  have key : ∀ j, j < 80 → dv_kd (191 + 2 * j) = 4 ∧ dv_kd (191 + 2 * j + 1) = 10 ∧ dv_ln (191 + 2 * j + 1) = 24 := by decide +kernel
  exact key j h
theorem kd_Q {j : Nat} (h : j < 80) : dv_kd (354 + 2 * j) = 4 ∧ dv_kd (354 + 2 * j + 1) = 10 ∧ dv_ln (354 + 2 * j + 1) = 24 := by
  have key : ∀ j, j < 80 → dv_kd (354 + 2 * j) = 4 ∧ dv_kd (354 + 2 * j + 1) = 10 ∧ dv_ln (354 + 2 * j + 1) = 24 := by decide +kernel
  exact key j h
end
section
theorem dv_up {n : Nat} {P : Nat → Prop} (h : ∀ i, i ≤ n → (∀ j, i < j → j ≤ n → P j) → P i) : ∀ i, i ≤ n → P i := by
  have key : ∀ k i, n - i < k → i ≤ n → P i := by
    intro k
    induction k with
    | zero => intro i hk; omega
    | succ k ih =>
      intro i hk hi
      exact h i hi (fun j h1 h2 => ih j (by omega) h2)
  intro i hi
  exact key (n - i + 1) i (by omega) hi
theorem dv_ge {n i : Nat} (hi : i ≤ n) (hn : n < 2 ^ 31) (h : nI n ≤ nI i) : i = n := by
  rw [nI_leI hn (by omega)] at h; omega
theorem dv_nge {n i : Nat} (hi : i ≤ n) (hn : n < 2 ^ 31) (h : ¬ nI n ≤ nI i) : i < n := by
  rw [nI_leI hn (by omega)] at h; omega
/-- the first n of a row -/
def dv_rd (f : Nat → Int32) (n : Nat) : List Int32 := (List.range n).map f
theorem dv_rd_s (f : Nat → Int32) (n : Nat) : dv_rd f (n + 1) = dv_rd f n ++ [f n] := by simp [dv_rd, List.range_succ]
theorem dv_rd_0 (f : Nat → Int32) : dv_rd f 0 = [] := rfl
theorem dv_rd_len (f : Nat → Int32) (n : Nat) : (dv_rd f n).length = n := by simp [dv_rd]
theorem dv_rd_at {f : Nat → Int32} {n i : Nat} (h : i < n) : (dv_rd f n)[i]? = some (f i) := by simp [dv_rd, h]
theorem dv_rd_eq {f g : Nat → Int32} {n m : Nat} : dv_rd f n = dv_rd g m ↔ n = m ∧ ∀ i, i < n → f i = g i := by
  constructor
  · intro h
    have hl : n = m := by have := congrArg List.length h; simpa [dv_rd_len] using this
    subst hl
    refine ⟨rfl, fun i hi => ?_⟩
    have h1 := dv_rd_at (f := f) hi
    rw [h, dv_rd_at hi] at h1
    exact (Option.some.inj h1).symm
  · rintro ⟨rfl, h⟩
    refine List.map_congr_left fun i hi => h i (List.mem_range.mp hi)
/-- the first n of row a are g's -/
def dv_rw (f : Nat → Nat → Int32) (a : Nat) (g : Nat → Int32) (n : Nat) : Nat → Nat → Int32 := fun x y => if x = a ∧ y < n then g y else f x y
theorem dv_rw_0 (f : Nat → Nat → Int32) (a : Nat) (g : Nat → Int32) : dv_rw f a g 0 = f := by funext x y; simp [dv_rw]
theorem dv_rw_s (f : Nat → Nat → Int32) (a : Nat) (g : Nat → Int32) (n : Nat) : dv_u (dv_rw f a g n) a n (g n) = dv_rw f a g (n + 1) := by
  funext x y
  simp only [dv_u, dv_rw]
  by_cases h : x = a
  · subst h
    by_cases h2 : y = n
    · subst h2; simp
    · by_cases h3 : y < n
      · simp [h2, h3]; intro h4; omega
      · have h4 : ¬ y < n + 1 := by omega
        simp [h2, h3, h4]
  · simp [h]
theorem dv_rw_row {f : Nat → Nat → Int32} {a x : Nat} {g : Nat → Int32} {n : Nat} (h : x ≠ a) : dv_rw f a g n x = f x := by funext y; simp [dv_rw, h]
theorem dv_uu {α : Type} (f : Nat → Nat → α) (a k : Nat) (v w : α) : dv_u (dv_u f a k v) a k w = dv_u f a k w := by
  funext x y; simp only [dv_u]; split <;> rfl
theorem dv_us {α : Type} (f : Nat → Nat → α) {a k a' k' : Nat} (v w : α) (h : ¬ (a = a' ∧ k = k')) : dv_u (dv_u f a k v) a' k' w = dv_u (dv_u f a' k' w) a k v := by
  funext x y; simp only [dv_u]
  by_cases h1 : x = a ∧ y = k
  · obtain ⟨rfl, rfl⟩ := h1
    simp [h]
  · simp [h1]
theorem dv_ui {α : Type} (f : Nat → Nat → α) (a k : Nat) (v : α) (h : f a k = v) : dv_u f a k v = f := by
  funext x y; simp only [dv_u]; split
  · rename_i q; obtain ⟨rfl, rfl⟩ := q; exact h.symm
  · rfl
def ch_s (x : Int32) : Bool := decide (97 ≤ x ∧ x ≤ 122)
def ch_g (x : Int32) : Bool := decide (65 ≤ x ∧ x ≤ 90)
def ch_d (x : Int32) : Bool := decide (48 ≤ x ∧ x ≤ 57)
def ch_l (x : Int32) : Bool := ch_s x || ch_g x
def ch_n (x : Int32) : Bool := ch_l x || ch_d x || decide (x = 95)
/-- a NAME -/
def nm_ok (l : List Int32) : Bool := decide (1 ≤ l.length ∧ l.length ≤ 24) && !(ch_d (l.headD 0)) && l.all ch_n && l.any ch_l
/-- a WORD's letters -/
def wd_ok (l : List Int32) : Bool := decide (1 ≤ l.length ∧ l.length ≤ 12) && l.all ch_s

theorem dv_idx {x m : Int32} {n : Nat} (hm : m = nI n) (hn : n < 2 ^ 31) (h : decide (0 ≤ x ∧ x < m) = true) : ∃ j : Nat, j < n ∧ x = nI j := by
  have h := of_decide_eq_true h
  subst hm
  rcases pk_ix x hn with q | q | q
  · exact absurd h.1 (Int32.not_le.mpr q)
  · exact absurd h.2 (Int32.not_lt.mpr q)
  · exact q
/-- place x of a row of n, or 0 -/
def dv_gx (f : Nat → Int32) (n : Nat) (x : Int32) : Int32 := if 0 ≤ x ∧ x < nI n then f x.toNatClampNeg else 0
theorem dv_gx_in {f : Nat → Int32} {n j : Nat} (hj : j < n) (hn : n < 2 ^ 31) : dv_gx f n (nI j) = f j := by
  unfold dv_gx
  rw [if_pos ⟨nI_pos' (by omega), nI_lt hj hn⟩, nI_clamp (by omega)]
theorem dv_gx_out {f : Nat → Int32} {n : Nat} {x : Int32} (h : decide (0 ≤ x ∧ x < nI n) = false) : dv_gx f n x = 0 := by
  unfold dv_gx
  rw [if_neg (of_decide_eq_false h)]
theorem dv_gx_ge {f : Nat → Int32} {n j : Nat} (hj : n ≤ j) (hn : j < 2 ^ 31) : dv_gx f n (nI j) = 0 := by
  unfold dv_gx
  rw [if_neg]
  rintro ⟨-, h⟩
  exact nI_nlt hj hn h
/-- a byte behind a text -/
def dv_ap (S : dv_S) (a n : Nat) (b : Int32) : dv_S := (dv_u S.1 a 1 (nI (n + 1)), dv_u S.2.1 (a + 1) n b, S.2.2)
theorem dv_ap_n (S : dv_S) (a n : Nat) (b : Int32) : (dv_ap S a n b).1 a 1 = nI (n + 1) := by simp [dv_ap, dv_u]
/-- a text is the first i of g -/
def dv_tx (S : dv_S) (a i : Nat) (g : Nat → Int32) : dv_S := (dv_u (dv_u S.1 a 1 (nI i)) a 2 0, dv_rw S.2.1 (a + 1) g i, S.2.2)
theorem dv_tx_n (S : dv_S) (a i : Nat) (g : Nat → Int32) : (dv_tx S a i g).1 a 1 = nI i := by simp [dv_tx, dv_u]
theorem dv_tx_0 (S : dv_S) (a : Nat) (g : Nat → Int32) : (dv_u (dv_u S.1 a 1 0) a 2 0, S.2) = dv_tx S a 0 g := by simp [dv_tx, dv_rw_0, nI_0]
theorem dv_tx_s (S : dv_S) (a i : Nat) (g : Nat → Int32) : dv_ap (dv_tx S a i g) a i (g i) = dv_tx S a (i + 1) g := by
  simp only [dv_ap, dv_tx, dv_rw_s]
  rw [dv_us _ (a := a) (k := 2) _ _ (by simp), dv_uu]
theorem dv_all_s (p : Int32 → Bool) (f : Nat → Int32) (i : Nat) : (dv_rd f (i + 1)).all p = ((dv_rd f i).all p && p (f i)) := by simp [dv_rd_s]
theorem dv_any_s (p : Int32 → Bool) (f : Nat → Int32) (i : Nat) : (dv_rd f (i + 1)).any p = ((dv_rd f i).any p || p (f i)) := by simp [dv_rd_s]
theorem dv_all_le {p : Int32 → Bool} {f : Nat → Int32} {i n : Nat} (h : i < n) (hp : p (f i) = false) : (dv_rd f n).all p = false := by
  rw [List.all_eq_false]
  exact ⟨f i, List.mem_map.mpr ⟨i, List.mem_range.mpr h, rfl⟩, by simp [hp]⟩
theorem dv_rd_hd {f : Nat → Int32} {n : Nat} (h : 0 < n) : (dv_rd f n).headD 0 = f 0 := by
  cases n with
  | zero => omega
  | succ n => simp [dv_rd, List.range_succ_eq_map]
/-- is the first letter great -/
def st_gf (l : List Int32) : Bool := match l.find? ch_l with
  | some x => ch_g x
  | none => false
theorem ch_sg {x : Int32} (h : ch_s x = true) : ch_g x = false := by
  simp only [ch_s, ch_g, decide_eq_true_eq, decide_eq_false_iff_not, Int32.le_iff_toInt_le] at *
  have e1 : (97 : Int32).toInt = 97 := by decide
  have e2 : (90 : Int32).toInt = 90 := by decide
  omega
theorem st_gf_s (l : List Int32) (x : Int32) : st_gf (l ++ [x]) = (st_gf l || (ch_g x && !l.any ch_s)) := by
  induction l with
  | nil =>
    simp only [st_gf, List.nil_append, List.find?_cons, List.find?_nil, List.any_nil, Bool.not_false, Bool.and_true, Bool.false_or]
    cases h : ch_l x with
    | true => rfl
    | false => simp only [ch_l, Bool.or_eq_false_iff] at h; simp [h.2]
  | cons a l ih =>
    by_cases ha : ch_l a = true
    · simp only [st_gf, List.cons_append, List.find?_cons, ha]
      cases hg : ch_g a with
      | true => simp
      | false =>
        have : ch_s a = true := by simpa [ch_l, hg] using ha
        simp [this]
    · have ha' : ch_l a = false := by simpa using ha
      have hs : ch_s a = false := by simp only [ch_l, Bool.or_eq_false_iff] at ha'; exact ha'.1
      simp only [st_gf, List.cons_append, List.find?_cons, ha'] at ih ⊢
      rw [ih]
      simp [hs]
/-- STYLE -/
def st_of (l : List Int32) : Int32 := if (l.any (fun x => decide (x = 95)) && !l.any ch_g) = true then 2 else if (l.any (fun x => decide (x = 95)) && !l.any ch_s) = true then 3 else if st_gf l = true then 1 else 0
/-- a letter made small, made great -/
def ch_lo (x : Int32) : Int32 := if ch_g x = true then x - 65 + 97 else x
def ch_up (x : Int32) : Int32 := if ch_s x = true then x - 97 + 65 else x
theorem dv_n24 : (24 : Int32) = nI 24 := by decide
theorem dv_n12 : (12 : Int32) = nI 12 := by decide
theorem dv_n60 : (60 : Int32) = nI 60 := by decide
theorem dv_n80 : (80 : Int32) = nI 80 := by decide
theorem dv_n20 : (20 : Int32) = nI 20 := by decide
theorem dv_n150 : (150 : Int32) = nI 150 := by decide
theorem dv_n200 : (200 : Int32) = nI 200 := by decide
theorem dv_n1 : (1 : Int32) = nI 1 := by decide
/-- the first place below n where p holds -/
def dv_fo (p : Nat → Bool) (n : Nat) : Option Nat := (List.range n).find? p
theorem dv_fo_some {p : Nat → Bool} {n i : Nat} (hi : i < n) (hp : p i = true) (h : ∀ j, j < i → p j = false) : dv_fo p n = some i := by
  unfold dv_fo
  rw [List.find?_range_eq_some]
  exact ⟨hp, List.mem_range.mpr hi, fun j hj => by simp [h j hj]⟩
theorem dv_fo_none {p : Nat → Bool} {n : Nat} (h : ∀ j, j < n → p j = false) : dv_fo p n = none := by
  unfold dv_fo
  rw [List.find?_eq_none]
  intro x hx
  simp [h x (List.mem_range.mp hx)]
theorem dv_fo_spec {p : Nat → Bool} {n i : Nat} (h : dv_fo p n = some i) : i < n ∧ p i = true ∧ ∀ j, j < i → p j = false := by
  unfold dv_fo at h
  rw [List.find?_range_eq_some] at h
  exact ⟨List.mem_range.mp h.2.1, h.1, fun j hj => by simpa using h.2.2 j hj⟩
theorem dv_fo_no {p : Nat → Bool} {n : Nat} (h : dv_fo p n = none) : ∀ j, j < n → p j = false := by
  unfold dv_fo at h
  rw [List.find?_eq_none] at h
  intro j hj
  simpa using h j (List.mem_range.mpr hj)
def dv_oi (o : Option Nat) : Int32 := match o with
  | some j => nI j
  | none => -2
/-- how many below n -/
def dv_ct (p : Nat → Bool) : Nat → Nat
  | 0 => 0
  | n + 1 => dv_ct p n + (if p n then 1 else 0)
theorem dv_ct_le (p : Nat → Bool) : ∀ n, dv_ct p n ≤ n
  | 0 => Nat.le_refl _
  | n + 1 => by
    have := dv_ct_le p n
    simp only [dv_ct]
    split <;> omega
theorem dv_ct_t {p : Nat → Bool} {n : Nat} (h : p n = true) : nI (dv_ct p n) + 1 = nI (dv_ct p (n + 1)) := by simp [dv_ct, h, nI_1]
theorem dv_ct_f {p : Nat → Bool} {n : Nat} (h : p n = false) : nI (dv_ct p n) = nI (dv_ct p (n + 1)) := by simp [dv_ct, h]
theorem dv_ct_cong {p q : Nat → Bool} : ∀ {n : Nat}, (∀ k, k < n → p k = q k) → dv_ct p n = dv_ct q n
  | 0, _ => rfl
  | n + 1, h => by rw [dv_ct, dv_ct, dv_ct_cong (fun k hk => h k (by omega)), h n (by omega)]
theorem dv_has {j n : Nat} {m : Int32} (hj : j < n) (hn : m = nI n) (h31 : n < 2 ^ 31) : decide (0 ≤ nI j ∧ nI j < m) = true := by
  subst hn
  exact decide_eq_true ⟨nI_pos' (by omega), nI_lt hj h31⟩
/-- place x of a row of n, or -1 -/
def dv_gm (f : Nat → Int32) (n : Nat) (x : Int32) : Int32 := if 0 ≤ x ∧ x < nI n then f x.toNatClampNeg else -1
theorem dv_gm_in {f : Nat → Int32} {n j : Nat} (hj : j < n) (hn : n < 2 ^ 31) : dv_gm f n (nI j) = f j := by
  unfold dv_gm
  rw [if_pos ⟨nI_pos' (by omega), nI_lt hj hn⟩, nI_clamp (by omega)]
theorem dv_gm_out {f : Nat → Int32} {n : Nat} {x : Int32} (h : decide (0 ≤ x ∧ x < nI n) = false) : dv_gm f n x = -1 := by
  unfold dv_gm
  rw [if_neg (of_decide_eq_false h)]
/-- OPENED, k times at most -/
def dv_op (sh : Int32 → Int32) : Nat → Int32 → Int32
  | 0, x => x
  | k + 1, x => if sh x = -1 then x else dv_op sh k (sh x)
/-- HEAD among the first n: of those of the group of p the first with the greatest u -/
def dv_hd (g u : Nat → Int32) (x : Int32) : Nat → Option Nat
  | 0 => none
  | j + 1 => if (decide (g j = x) && (match dv_hd g u x j with | none => true | some h => decide (u h < u j))) = true then some j else dv_hd g u x j
theorem dv_hd_lt (g u : Nat → Int32) (x : Int32) : ∀ n h, dv_hd g u x n = some h → h < n
  | 0, h, q => by cases q
  | n + 1, h, q => by
    unfold dv_hd at q
    by_cases hc : (decide (g n = x) && (match dv_hd g u x n with | none => true | some h => decide (u h < u n))) = true
    · rw [if_pos hc] at q; cases q; omega
    · rw [if_neg hc] at q; have := dv_hd_lt g u x n h q; omega
theorem dv_oi_lt {o : Option Nat} {n : Nat} (h : ∀ j, o = some j → j < n) (hn : n < 2 ^ 31) : decide (0 ≤ dv_oi o ∧ dv_oi o < nI n) = o.isSome := by
  cases o with
  | none => simp [dv_oi]
  | some j => simp only [dv_oi, Option.isSome]; exact decide_eq_true ⟨nI_pos' (by have := h j rfl; omega), nI_lt (h j rfl) hn⟩
theorem dv_oi_m2 {o : Option Nat} (h : ∀ j, o = some j → j < 2 ^ 31) : dv_oi o = -2 ↔ o = none := by
  cases o with
  | none => simp [dv_oi]
  | some j =>
    simp only [dv_oi, reduceCtorEq, iff_false]
    intro q
    have := nI_pos (h j rfl)
    rw [q] at this
    exact this (by decide)
theorem dv_ct_sf {p : Nat → Bool} {n : Nat} (h : p n = false) : dv_ct p (n + 1) = dv_ct p n := by simp [dv_ct, h]
theorem dv_ct_st {p : Nat → Bool} {n : Nat} (h : p n = true) : dv_ct p (n + 1) = dv_ct p n + 1 := by simp [dv_ct, h]
theorem dv_hd_n {g u : Nat → Int32} {x : Int32} {j : Nat} (h : ¬ g j = x) : dv_hd g u x (j + 1) = dv_hd g u x j := by
  rw [dv_hd]; simp [h]
theorem dv_hd_0 {g u : Nat → Int32} {x : Int32} {j : Nat} (h : g j = x) (h0 : dv_hd g u x j = none) : dv_hd g u x (j + 1) = some j := by
  rw [dv_hd, h0]; simp [h]
theorem dv_hd_y {g u : Nat → Int32} {x : Int32} {j k : Nat} (h : g j = x) (h0 : dv_hd g u x j = some k) (hu : u k < u j) : dv_hd g u x (j + 1) = some j := by
  rw [dv_hd, h0]; simp [h, hu]
theorem dv_hd_k {g u : Nat → Int32} {x : Int32} {j k : Nat} (h : g j = x) (h0 : dv_hd g u x j = some k) (hu : ¬ u k < u j) : dv_hd g u x (j + 1) = dv_hd g u x j := by
  rw [dv_hd, h0]; simp [h, hu]
end
section
set_option maxRecDepth 100000 in
set_option maxHeartbeats 4000000 in
theorem qX7_isSmall (d : Nat) (S : dv_S) (x : Int32) : dv_M yX7_isSmall cX7_isSmall 1 (some .boolean) (dv_rm (d + 0)) [.int x] S (fun r S' => r = some (.int (dv_b (ch_s x))) ∧ S' = S) := by
  refine dv_M_of [some (.int x)] (by decide) (fun _ _ => Nat.le_of_ble_eq_true rfl) (fun _ _ => rfl) ?_
  refine J_iload_n dX7_isSmall_0 (pc' := 1) rfl rfl ?_
  refine J_bipush dX7_isSmall_1 (pc' := 3) rfl (v := 97) bp_97 ?_
  refine J_icmp_lt dX7_isSmall_3 (pt := 16) (by decide) (pc' := 6) rfl (fun c3 => ?_) (fun c3 => ?_)
  · refine J_iconst dX7_isSmall_16 (pc' := 17) rfl (v := 0) ic_0 ?_
    refine J_zret dX7_isSmall_17 rfl (by decide) (dv_r1 _) ?_
    exact ⟨by (try simp only [← Int32.not_le] at *); simp [dv_b, ch_s, ch_g, ch_d, *], rfl⟩
  · refine J_iload_n dX7_isSmall_6 (pc' := 7) rfl rfl ?_
    refine J_bipush dX7_isSmall_7 (pc' := 9) rfl (v := 122) bp_122 ?_
    refine J_icmp_gt dX7_isSmall_9 (pt := 16) (by decide) (pc' := 12) rfl (fun c9 => ?_) (fun c9 => ?_)
    · refine J_iconst dX7_isSmall_16 (pc' := 17) rfl (v := 0) ic_0 ?_
      refine J_zret dX7_isSmall_17 rfl (by decide) (dv_r1 _) ?_
      exact ⟨by (try simp only [← Int32.not_le] at *); simp [dv_b, ch_s, ch_g, ch_d, *], rfl⟩
    · refine J_iconst dX7_isSmall_12 (pc' := 13) rfl (v := 1) ic_1 ?_
      refine J_goto dX7_isSmall_13 (pc' := 17) (by decide) ?_
      refine J_zret dX7_isSmall_17 rfl (by decide) (dv_r1 _) ?_
      exact ⟨by (try simp only [← Int32.not_le] at *); simp [dv_b, ch_s, ch_g, ch_d, *], rfl⟩
set_option maxRecDepth 100000 in
set_option maxHeartbeats 4000000 in
theorem qX7_isGreat (d : Nat) (S : dv_S) (x : Int32) : dv_M yX7_isGreat cX7_isGreat 1 (some .boolean) (dv_rm (d + 0)) [.int x] S (fun r S' => r = some (.int (dv_b (ch_g x))) ∧ S' = S) := by
  refine dv_M_of [some (.int x)] (by decide) (fun _ _ => Nat.le_of_ble_eq_true rfl) (fun _ _ => rfl) ?_
  refine J_iload_n dX7_isGreat_0 (pc' := 1) rfl rfl ?_
  refine J_bipush dX7_isGreat_1 (pc' := 3) rfl (v := 65) bp_65 ?_
  refine J_icmp_lt dX7_isGreat_3 (pt := 16) (by decide) (pc' := 6) rfl (fun c3 => ?_) (fun c3 => ?_)
  · refine J_iconst dX7_isGreat_16 (pc' := 17) rfl (v := 0) ic_0 ?_
    refine J_zret dX7_isGreat_17 rfl (by decide) (dv_r1 _) ?_
    exact ⟨by (try simp only [← Int32.not_le] at *); simp [dv_b, ch_s, ch_g, ch_d, *], rfl⟩
  · refine J_iload_n dX7_isGreat_6 (pc' := 7) rfl rfl ?_
    refine J_bipush dX7_isGreat_7 (pc' := 9) rfl (v := 90) bp_90 ?_
    refine J_icmp_gt dX7_isGreat_9 (pt := 16) (by decide) (pc' := 12) rfl (fun c9 => ?_) (fun c9 => ?_)
    · refine J_iconst dX7_isGreat_16 (pc' := 17) rfl (v := 0) ic_0 ?_
      refine J_zret dX7_isGreat_17 rfl (by decide) (dv_r1 _) ?_
      exact ⟨by (try simp only [← Int32.not_le] at *); simp [dv_b, ch_s, ch_g, ch_d, *], rfl⟩
    · refine J_iconst dX7_isGreat_12 (pc' := 13) rfl (v := 1) ic_1 ?_
      refine J_goto dX7_isGreat_13 (pc' := 17) (by decide) ?_
      refine J_zret dX7_isGreat_17 rfl (by decide) (dv_r1 _) ?_
      exact ⟨by (try simp only [← Int32.not_le] at *); simp [dv_b, ch_s, ch_g, ch_d, *], rfl⟩
set_option maxRecDepth 100000 in
set_option maxHeartbeats 4000000 in
theorem qX7_isDigit (d : Nat) (S : dv_S) (x : Int32) : dv_M yX7_isDigit cX7_isDigit 1 (some .boolean) (dv_rm (d + 0)) [.int x] S (fun r S' => r = some (.int (dv_b (ch_d x))) ∧ S' = S) := by
  refine dv_M_of [some (.int x)] (by decide) (fun _ _ => Nat.le_of_ble_eq_true rfl) (fun _ _ => rfl) ?_
  refine J_iload_n dX7_isDigit_0 (pc' := 1) rfl rfl ?_
  refine J_bipush dX7_isDigit_1 (pc' := 3) rfl (v := 48) bp_48 ?_
  refine J_icmp_lt dX7_isDigit_3 (pt := 16) (by decide) (pc' := 6) rfl (fun c3 => ?_) (fun c3 => ?_)
  · refine J_iconst dX7_isDigit_16 (pc' := 17) rfl (v := 0) ic_0 ?_
    refine J_zret dX7_isDigit_17 rfl (by decide) (dv_r1 _) ?_
    exact ⟨by (try simp only [← Int32.not_le] at *); simp [dv_b, ch_s, ch_g, ch_d, *], rfl⟩
  · refine J_iload_n dX7_isDigit_6 (pc' := 7) rfl rfl ?_
    refine J_bipush dX7_isDigit_7 (pc' := 9) rfl (v := 57) bp_57 ?_
    refine J_icmp_gt dX7_isDigit_9 (pt := 16) (by decide) (pc' := 12) rfl (fun c9 => ?_) (fun c9 => ?_)
    · refine J_iconst dX7_isDigit_16 (pc' := 17) rfl (v := 0) ic_0 ?_
      refine J_zret dX7_isDigit_17 rfl (by decide) (dv_r1 _) ?_
      exact ⟨by (try simp only [← Int32.not_le] at *); simp [dv_b, ch_s, ch_g, ch_d, *], rfl⟩
    · refine J_iconst dX7_isDigit_12 (pc' := 13) rfl (v := 1) ic_1 ?_
      refine J_goto dX7_isDigit_13 (pc' := 17) (by decide) ?_
      refine J_zret dX7_isDigit_17 rfl (by decide) (dv_r1 _) ?_
      exact ⟨by (try simp only [← Int32.not_le] at *); simp [dv_b, ch_s, ch_g, ch_d, *], rfl⟩
set_option maxRecDepth 100000 in
set_option maxHeartbeats 4000000 in
theorem qX8_isSmall (d : Nat) (S : dv_S) (x : Int32) : dv_M yX8_isSmall cX8_isSmall 1 (some .boolean) (dv_rm (d + 0)) [.int x] S (fun r S' => r = some (.int (dv_b (ch_s x))) ∧ S' = S) := by
  refine dv_M_of [some (.int x)] (by decide) (fun _ _ => Nat.le_of_ble_eq_true rfl) (fun _ _ => rfl) ?_
  refine J_iload_n dX8_isSmall_0 (pc' := 1) rfl rfl ?_
  refine J_bipush dX8_isSmall_1 (pc' := 3) rfl (v := 97) bp_97 ?_
  refine J_icmp_lt dX8_isSmall_3 (pt := 16) (by decide) (pc' := 6) rfl (fun c3 => ?_) (fun c3 => ?_)
  · refine J_iconst dX8_isSmall_16 (pc' := 17) rfl (v := 0) ic_0 ?_
    refine J_zret dX8_isSmall_17 rfl (by decide) (dv_r1 _) ?_
    exact ⟨by (try simp only [← Int32.not_le] at *); simp [dv_b, ch_s, ch_g, ch_d, *], rfl⟩
  · refine J_iload_n dX8_isSmall_6 (pc' := 7) rfl rfl ?_
    refine J_bipush dX8_isSmall_7 (pc' := 9) rfl (v := 122) bp_122 ?_
    refine J_icmp_gt dX8_isSmall_9 (pt := 16) (by decide) (pc' := 12) rfl (fun c9 => ?_) (fun c9 => ?_)
    · refine J_iconst dX8_isSmall_16 (pc' := 17) rfl (v := 0) ic_0 ?_
      refine J_zret dX8_isSmall_17 rfl (by decide) (dv_r1 _) ?_
      exact ⟨by (try simp only [← Int32.not_le] at *); simp [dv_b, ch_s, ch_g, ch_d, *], rfl⟩
    · refine J_iconst dX8_isSmall_12 (pc' := 13) rfl (v := 1) ic_1 ?_
      refine J_goto dX8_isSmall_13 (pc' := 17) (by decide) ?_
      refine J_zret dX8_isSmall_17 rfl (by decide) (dv_r1 _) ?_
      exact ⟨by (try simp only [← Int32.not_le] at *); simp [dv_b, ch_s, ch_g, ch_d, *], rfl⟩
set_option maxRecDepth 100000 in
set_option maxHeartbeats 4000000 in
theorem qX8_isGreat (d : Nat) (S : dv_S) (x : Int32) : dv_M yX8_isGreat cX8_isGreat 1 (some .boolean) (dv_rm (d + 0)) [.int x] S (fun r S' => r = some (.int (dv_b (ch_g x))) ∧ S' = S) := by
  refine dv_M_of [some (.int x)] (by decide) (fun _ _ => Nat.le_of_ble_eq_true rfl) (fun _ _ => rfl) ?_
  refine J_iload_n dX8_isGreat_0 (pc' := 1) rfl rfl ?_
  refine J_bipush dX8_isGreat_1 (pc' := 3) rfl (v := 65) bp_65 ?_
  refine J_icmp_lt dX8_isGreat_3 (pt := 16) (by decide) (pc' := 6) rfl (fun c3 => ?_) (fun c3 => ?_)
  · refine J_iconst dX8_isGreat_16 (pc' := 17) rfl (v := 0) ic_0 ?_
    refine J_zret dX8_isGreat_17 rfl (by decide) (dv_r1 _) ?_
    exact ⟨by (try simp only [← Int32.not_le] at *); simp [dv_b, ch_s, ch_g, ch_d, *], rfl⟩
  · refine J_iload_n dX8_isGreat_6 (pc' := 7) rfl rfl ?_
    refine J_bipush dX8_isGreat_7 (pc' := 9) rfl (v := 90) bp_90 ?_
    refine J_icmp_gt dX8_isGreat_9 (pt := 16) (by decide) (pc' := 12) rfl (fun c9 => ?_) (fun c9 => ?_)
    · refine J_iconst dX8_isGreat_16 (pc' := 17) rfl (v := 0) ic_0 ?_
      refine J_zret dX8_isGreat_17 rfl (by decide) (dv_r1 _) ?_
      exact ⟨by (try simp only [← Int32.not_le] at *); simp [dv_b, ch_s, ch_g, ch_d, *], rfl⟩
    · refine J_iconst dX8_isGreat_12 (pc' := 13) rfl (v := 1) ic_1 ?_
      refine J_goto dX8_isGreat_13 (pc' := 17) (by decide) ?_
      refine J_zret dX8_isGreat_17 rfl (by decide) (dv_r1 _) ?_
      exact ⟨by (try simp only [← Int32.not_le] at *); simp [dv_b, ch_s, ch_g, ch_d, *], rfl⟩
set_option maxRecDepth 100000 in
set_option maxHeartbeats 4000000 in
theorem qX8_isDigit (d : Nat) (S : dv_S) (x : Int32) : dv_M yX8_isDigit cX8_isDigit 1 (some .boolean) (dv_rm (d + 0)) [.int x] S (fun r S' => r = some (.int (dv_b (ch_d x))) ∧ S' = S) := by
  refine dv_M_of [some (.int x)] (by decide) (fun _ _ => Nat.le_of_ble_eq_true rfl) (fun _ _ => rfl) ?_
  refine J_iload_n dX8_isDigit_0 (pc' := 1) rfl rfl ?_
  refine J_bipush dX8_isDigit_1 (pc' := 3) rfl (v := 48) bp_48 ?_
  refine J_icmp_lt dX8_isDigit_3 (pt := 16) (by decide) (pc' := 6) rfl (fun c3 => ?_) (fun c3 => ?_)
  · refine J_iconst dX8_isDigit_16 (pc' := 17) rfl (v := 0) ic_0 ?_
    refine J_zret dX8_isDigit_17 rfl (by decide) (dv_r1 _) ?_
    exact ⟨by (try simp only [← Int32.not_le] at *); simp [dv_b, ch_s, ch_g, ch_d, *], rfl⟩
  · refine J_iload_n dX8_isDigit_6 (pc' := 7) rfl rfl ?_
    refine J_bipush dX8_isDigit_7 (pc' := 9) rfl (v := 57) bp_57 ?_
    refine J_icmp_gt dX8_isDigit_9 (pt := 16) (by decide) (pc' := 12) rfl (fun c9 => ?_) (fun c9 => ?_)
    · refine J_iconst dX8_isDigit_16 (pc' := 17) rfl (v := 0) ic_0 ?_
      refine J_zret dX8_isDigit_17 rfl (by decide) (dv_r1 _) ?_
      exact ⟨by (try simp only [← Int32.not_le] at *); simp [dv_b, ch_s, ch_g, ch_d, *], rfl⟩
    · refine J_iconst dX8_isDigit_12 (pc' := 13) rfl (v := 1) ic_1 ?_
      refine J_goto dX8_isDigit_13 (pc' := 17) (by decide) ?_
      refine J_zret dX8_isDigit_17 rfl (by decide) (dv_r1 _) ?_
      exact ⟨by (try simp only [← Int32.not_le] at *); simp [dv_b, ch_s, ch_g, ch_d, *], rfl⟩
set_option maxRecDepth 100000 in
set_option maxHeartbeats 4000000 in
theorem qX0_has (d : Nat) (S : dv_S) (x : Int32) : dv_M yX0_has cX0_has 2 (some .boolean) (dv_rm (d + 0)) [.ref 13, .int x] S (fun r S' => r = some (.int (dv_b (decide (0 ≤ x ∧ x < S.1 13 5)))) ∧ S' = S) := by
  refine dv_M_of [some (.ref 13), some (.int x)] (by decide) (fun _ _ => Nat.le_of_ble_eq_true rfl) (fun _ _ => rfl) ?_
  refine J_iload_n dX0_has_0 (pc' := 1) rfl rfl ?_
  refine J_if_lt dX0_has_1 (pt := 16) (by decide) (pc' := 4) rfl (fun c1 => ?_) (fun c1 => ?_)
  · refine J_iconst dX0_has_16 (pc' := 17) rfl (v := 0) ic_0 ?_
    refine J_zret dX0_has_17 rfl (by decide) (dv_r1 _) ?_
    exact ⟨by (try simp only [← Int32.not_le] at *); simp [dv_b, ch_s, ch_g, ch_d, *], rfl⟩
  · refine J_iload_n dX0_has_4 (pc' := 5) rfl rfl ?_
    refine J_aload_n dX0_has_5 (pc' := 6) rfl rfl ?_
    refine J_geti fX0_28 kd_13 rf_13_5 dX0_has_6 (pc' := 9) rfl ?_
    refine J_icmp_ge dX0_has_9 (pt := 16) (by decide) (pc' := 12) rfl (fun c9 => ?_) (fun c9 => ?_)
    · refine J_iconst dX0_has_16 (pc' := 17) rfl (v := 0) ic_0 ?_
      refine J_zret dX0_has_17 rfl (by decide) (dv_r1 _) ?_
      exact ⟨by (try simp only [← Int32.not_le] at *); simp [dv_b, ch_s, ch_g, ch_d, *], rfl⟩
    · refine J_iconst dX0_has_12 (pc' := 13) rfl (v := 1) ic_1 ?_
      refine J_goto dX0_has_13 (pc' := 17) (by decide) ?_
      refine J_zret dX0_has_17 rfl (by decide) (dv_r1 _) ?_
      exact ⟨by (try simp only [← Int32.not_le] at *); simp [dv_b, ch_s, ch_g, ch_d, *], rfl⟩
set_option maxRecDepth 100000 in
set_option maxHeartbeats 4000000 in
theorem qX1_has (d : Nat) (S : dv_S) (x : Int32) : dv_M yX1_has cX1_has 2 (some .boolean) (dv_rm (d + 0)) [.ref 9, .int x] S (fun r S' => r = some (.int (dv_b (decide (0 ≤ x ∧ x < S.1 9 3)))) ∧ S' = S) := by
  refine dv_M_of [some (.ref 9), some (.int x)] (by decide) (fun _ _ => Nat.le_of_ble_eq_true rfl) (fun _ _ => rfl) ?_
  refine J_iload_n dX1_has_0 (pc' := 1) rfl rfl ?_
  refine J_if_lt dX1_has_1 (pt := 16) (by decide) (pc' := 4) rfl (fun c1 => ?_) (fun c1 => ?_)
  · refine J_iconst dX1_has_16 (pc' := 17) rfl (v := 0) ic_0 ?_
    refine J_zret dX1_has_17 rfl (by decide) (dv_r1 _) ?_
    exact ⟨by (try simp only [← Int32.not_le] at *); simp [dv_b, ch_s, ch_g, ch_d, *], rfl⟩
  · refine J_iload_n dX1_has_4 (pc' := 5) rfl rfl ?_
    refine J_aload_n dX1_has_5 (pc' := 6) rfl rfl ?_
    refine J_geti fX1_21 kd_9 rf_9_3 dX1_has_6 (pc' := 9) rfl ?_
    refine J_icmp_ge dX1_has_9 (pt := 16) (by decide) (pc' := 12) rfl (fun c9 => ?_) (fun c9 => ?_)
    · refine J_iconst dX1_has_16 (pc' := 17) rfl (v := 0) ic_0 ?_
      refine J_zret dX1_has_17 rfl (by decide) (dv_r1 _) ?_
      exact ⟨by (try simp only [← Int32.not_le] at *); simp [dv_b, ch_s, ch_g, ch_d, *], rfl⟩
    · refine J_iconst dX1_has_12 (pc' := 13) rfl (v := 1) ic_1 ?_
      refine J_goto dX1_has_13 (pc' := 17) (by decide) ?_
      refine J_zret dX1_has_17 rfl (by decide) (dv_r1 _) ?_
      exact ⟨by (try simp only [← Int32.not_le] at *); simp [dv_b, ch_s, ch_g, ch_d, *], rfl⟩
set_option maxRecDepth 100000 in
set_option maxHeartbeats 4000000 in
theorem qX3_has (d : Nat) (S : dv_S) (x : Int32) : dv_M yX3_has cX3_has 2 (some .boolean) (dv_rm (d + 0)) [.ref 19, .int x] S (fun r S' => r = some (.int (dv_b (decide (0 ≤ x ∧ x < S.1 19 1)))) ∧ S' = S) := by
  refine dv_M_of [some (.ref 19), some (.int x)] (by decide) (fun _ _ => Nat.le_of_ble_eq_true rfl) (fun _ _ => rfl) ?_
  refine J_iload_n dX3_has_0 (pc' := 1) rfl rfl ?_
  refine J_if_lt dX3_has_1 (pt := 16) (by decide) (pc' := 4) rfl (fun c1 => ?_) (fun c1 => ?_)
  · refine J_iconst dX3_has_16 (pc' := 17) rfl (v := 0) ic_0 ?_
    refine J_zret dX3_has_17 rfl (by decide) (dv_r1 _) ?_
    exact ⟨by (try simp only [← Int32.not_le] at *); simp [dv_b, ch_s, ch_g, ch_d, *], rfl⟩
  · refine J_iload_n dX3_has_4 (pc' := 5) rfl rfl ?_
    refine J_aload_n dX3_has_5 (pc' := 6) rfl rfl ?_
    refine J_geti fX3_15 kd_19 rf_19_1 dX3_has_6 (pc' := 9) rfl ?_
    refine J_icmp_ge dX3_has_9 (pt := 16) (by decide) (pc' := 12) rfl (fun c9 => ?_) (fun c9 => ?_)
    · refine J_iconst dX3_has_16 (pc' := 17) rfl (v := 0) ic_0 ?_
      refine J_zret dX3_has_17 rfl (by decide) (dv_r1 _) ?_
      exact ⟨by (try simp only [← Int32.not_le] at *); simp [dv_b, ch_s, ch_g, ch_d, *], rfl⟩
    · refine J_iconst dX3_has_12 (pc' := 13) rfl (v := 1) ic_1 ?_
      refine J_goto dX3_has_13 (pc' := 17) (by decide) ?_
      refine J_zret dX3_has_17 rfl (by decide) (dv_r1 _) ?_
      exact ⟨by (try simp only [← Int32.not_le] at *); simp [dv_b, ch_s, ch_g, ch_d, *], rfl⟩
set_option maxRecDepth 100000 in
set_option maxHeartbeats 4000000 in
theorem qX5_has (d : Nat) (S : dv_S) (x : Int32) : dv_M yX5_has cX5_has 2 (some .boolean) (dv_rm (d + 0)) [.ref 21, .int x] S (fun r S' => r = some (.int (dv_b (decide (0 ≤ x ∧ x < S.1 21 3)))) ∧ S' = S) := by
  refine dv_M_of [some (.ref 21), some (.int x)] (by decide) (fun _ _ => Nat.le_of_ble_eq_true rfl) (fun _ _ => rfl) ?_
  refine J_iload_n dX5_has_0 (pc' := 1) rfl rfl ?_
  refine J_if_lt dX5_has_1 (pt := 16) (by decide) (pc' := 4) rfl (fun c1 => ?_) (fun c1 => ?_)
  · refine J_iconst dX5_has_16 (pc' := 17) rfl (v := 0) ic_0 ?_
    refine J_zret dX5_has_17 rfl (by decide) (dv_r1 _) ?_
    exact ⟨by (try simp only [← Int32.not_le] at *); simp [dv_b, ch_s, ch_g, ch_d, *], rfl⟩
  · refine J_iload_n dX5_has_4 (pc' := 5) rfl rfl ?_
    refine J_aload_n dX5_has_5 (pc' := 6) rfl rfl ?_
    refine J_geti fX5_24 kd_21 rf_21_3 dX5_has_6 (pc' := 9) rfl ?_
    refine J_icmp_ge dX5_has_9 (pt := 16) (by decide) (pc' := 12) rfl (fun c9 => ?_) (fun c9 => ?_)
    · refine J_iconst dX5_has_16 (pc' := 17) rfl (v := 0) ic_0 ?_
      refine J_zret dX5_has_17 rfl (by decide) (dv_r1 _) ?_
      exact ⟨by (try simp only [← Int32.not_le] at *); simp [dv_b, ch_s, ch_g, ch_d, *], rfl⟩
    · refine J_iconst dX5_has_12 (pc' := 13) rfl (v := 1) ic_1 ?_
      refine J_goto dX5_has_13 (pc' := 17) (by decide) ?_
      refine J_zret dX5_has_17 rfl (by decide) (dv_r1 _) ?_
      exact ⟨by (try simp only [← Int32.not_le] at *); simp [dv_b, ch_s, ch_g, ch_d, *], rfl⟩
set_option maxRecDepth 100000 in
set_option maxHeartbeats 4000000 in
theorem qX6_has (d : Nat) (S : dv_S) (x : Int32) : dv_M yX6_has cX6_has 2 (some .boolean) (dv_rm (d + 0)) [.ref 185, .int x] S (fun r S' => r = some (.int (dv_b (decide (0 ≤ x ∧ x < S.1 185 2)))) ∧ S' = S) := by
  refine dv_M_of [some (.ref 185), some (.int x)] (by decide) (fun _ _ => Nat.le_of_ble_eq_true rfl) (fun _ _ => rfl) ?_
  refine J_iload_n dX6_has_0 (pc' := 1) rfl rfl ?_
  refine J_if_lt dX6_has_1 (pt := 16) (by decide) (pc' := 4) rfl (fun c1 => ?_) (fun c1 => ?_)
  · refine J_iconst dX6_has_16 (pc' := 17) rfl (v := 0) ic_0 ?_
    refine J_zret dX6_has_17 rfl (by decide) (dv_r1 _) ?_
    exact ⟨by (try simp only [← Int32.not_le] at *); simp [dv_b, ch_s, ch_g, ch_d, *], rfl⟩
  · refine J_iload_n dX6_has_4 (pc' := 5) rfl rfl ?_
    refine J_aload_n dX6_has_5 (pc' := 6) rfl rfl ?_
    refine J_geti fX6_18 kd_185 rf_185_2 dX6_has_6 (pc' := 9) rfl ?_
    refine J_icmp_ge dX6_has_9 (pt := 16) (by decide) (pc' := 12) rfl (fun c9 => ?_) (fun c9 => ?_)
    · refine J_iconst dX6_has_16 (pc' := 17) rfl (v := 0) ic_0 ?_
      refine J_zret dX6_has_17 rfl (by decide) (dv_r1 _) ?_
      exact ⟨by (try simp only [← Int32.not_le] at *); simp [dv_b, ch_s, ch_g, ch_d, *], rfl⟩
    · refine J_iconst dX6_has_12 (pc' := 13) rfl (v := 1) ic_1 ?_
      refine J_goto dX6_has_13 (pc' := 17) (by decide) ?_
      refine J_zret dX6_has_17 rfl (by decide) (dv_r1 _) ?_
      exact ⟨by (try simp only [← Int32.not_le] at *); simp [dv_b, ch_s, ch_g, ch_d, *], rfl⟩
set_option maxRecDepth 100000 in
set_option maxHeartbeats 4000000 in
theorem qX0_size (d : Nat) (S : dv_S)  : dv_M yX0_size cX0_size 1 (some .int) (dv_rm (d + 0)) [.ref 13] S (fun r S' => r = some (.int (S.1 13 5)) ∧ S' = S) := by
  refine dv_M_of [some (.ref 13)] (by decide) (fun _ _ => Nat.le_of_ble_eq_true rfl) (fun _ _ => rfl) ?_
  refine J_aload_n dX0_size_0 (pc' := 1) rfl rfl ?_
  refine J_geti fX0_28 kd_13 rf_13_5 dX0_size_1 (pc' := 4) rfl ?_
  refine J_iret dX0_size_4 rfl (dv_r1 _) ?_
  exact ⟨rfl, rfl⟩
set_option maxRecDepth 100000 in
set_option maxHeartbeats 4000000 in
theorem qX1_size (d : Nat) (S : dv_S)  : dv_M yX1_size cX1_size 1 (some .int) (dv_rm (d + 0)) [.ref 9] S (fun r S' => r = some (.int (S.1 9 3)) ∧ S' = S) := by
  refine dv_M_of [some (.ref 9)] (by decide) (fun _ _ => Nat.le_of_ble_eq_true rfl) (fun _ _ => rfl) ?_
  refine J_aload_n dX1_size_0 (pc' := 1) rfl rfl ?_
  refine J_geti fX1_21 kd_9 rf_9_3 dX1_size_1 (pc' := 4) rfl ?_
  refine J_iret dX1_size_4 rfl (dv_r1 _) ?_
  exact ⟨rfl, rfl⟩
set_option maxRecDepth 100000 in
set_option maxHeartbeats 4000000 in
theorem qX3_size (d : Nat) (S : dv_S)  : dv_M yX3_size cX3_size 1 (some .int) (dv_rm (d + 0)) [.ref 19] S (fun r S' => r = some (.int (S.1 19 1)) ∧ S' = S) := by
  refine dv_M_of [some (.ref 19)] (by decide) (fun _ _ => Nat.le_of_ble_eq_true rfl) (fun _ _ => rfl) ?_
  refine J_aload_n dX3_size_0 (pc' := 1) rfl rfl ?_
  refine J_geti fX3_15 kd_19 rf_19_1 dX3_size_1 (pc' := 4) rfl ?_
  refine J_iret dX3_size_4 rfl (dv_r1 _) ?_
  exact ⟨rfl, rfl⟩
set_option maxRecDepth 100000 in
set_option maxHeartbeats 4000000 in
theorem qX5_size (d : Nat) (S : dv_S)  : dv_M yX5_size cX5_size 1 (some .int) (dv_rm (d + 0)) [.ref 21] S (fun r S' => r = some (.int (S.1 21 3)) ∧ S' = S) := by
  refine dv_M_of [some (.ref 21)] (by decide) (fun _ _ => Nat.le_of_ble_eq_true rfl) (fun _ _ => rfl) ?_
  refine J_aload_n dX5_size_0 (pc' := 1) rfl rfl ?_
  refine J_geti fX5_24 kd_21 rf_21_3 dX5_size_1 (pc' := 4) rfl ?_
  refine J_iret dX5_size_4 rfl (dv_r1 _) ?_
  exact ⟨rfl, rfl⟩
set_option maxRecDepth 100000 in
set_option maxHeartbeats 4000000 in
theorem qX6_size (d : Nat) (S : dv_S)  : dv_M yX6_size cX6_size 1 (some .int) (dv_rm (d + 0)) [.ref 185] S (fun r S' => r = some (.int (S.1 185 2)) ∧ S' = S) := by
  refine dv_M_of [some (.ref 185)] (by decide) (fun _ _ => Nat.le_of_ble_eq_true rfl) (fun _ _ => rfl) ?_
  refine J_aload_n dX6_size_0 (pc' := 1) rfl rfl ?_
  refine J_geti fX6_18 kd_185 rf_185_2 dX6_size_1 (pc' := 4) rfl ?_
  refine J_iret dX6_size_4 rfl (dv_r1 _) ?_
  exact ⟨rfl, rfl⟩
set_option maxRecDepth 100000 in
set_option maxHeartbeats 4000000 in
theorem qX0_isFull (d : Nat) (S : dv_S)  : dv_M yX0_isFull cX0_isFull 1 (some .boolean) (dv_rm (d + 0)) [.ref 13] S (fun r S' => r = some (.int (dv_b (decide (60 ≤ S.1 13 5)))) ∧ S' = S) := by
  refine dv_M_of [some (.ref 13)] (by decide) (fun _ _ => Nat.le_of_ble_eq_true rfl) (fun _ _ => rfl) ?_
  refine J_aload_n dX0_isFull_0 (pc' := 1) rfl rfl ?_
  refine J_geti fX0_28 kd_13 rf_13_5 dX0_isFull_1 (pc' := 4) rfl ?_
  refine J_bipush dX0_isFull_4 (pc' := 6) rfl (v := 60) bp_60 ?_
  refine J_icmp_lt dX0_isFull_6 (pt := 13) (by decide) (pc' := 9) rfl (fun c6 => ?_) (fun c6 => ?_)
  · refine J_iconst dX0_isFull_13 (pc' := 14) rfl (v := 0) ic_0 ?_
    refine J_zret dX0_isFull_14 rfl (by decide) (dv_r1 _) ?_
    exact ⟨by (try simp only [← Int32.not_le] at *); simp [dv_b, ch_s, ch_g, ch_d, *], rfl⟩
  · refine J_iconst dX0_isFull_9 (pc' := 10) rfl (v := 1) ic_1 ?_
    refine J_goto dX0_isFull_10 (pc' := 14) (by decide) ?_
    refine J_zret dX0_isFull_14 rfl (by decide) (dv_r1 _) ?_
    exact ⟨by (try simp only [← Int32.not_le] at *); simp [dv_b, ch_s, ch_g, ch_d, *], rfl⟩
set_option maxRecDepth 100000 in
set_option maxHeartbeats 4000000 in
theorem qX3_isFull (d : Nat) (S : dv_S)  : dv_M yX3_isFull cX3_isFull 1 (some .boolean) (dv_rm (d + 0)) [.ref 19] S (fun r S' => r = some (.int (dv_b (decide (20 ≤ S.1 19 1)))) ∧ S' = S) := by
  refine dv_M_of [some (.ref 19)] (by decide) (fun _ _ => Nat.le_of_ble_eq_true rfl) (fun _ _ => rfl) ?_
  refine J_aload_n dX3_isFull_0 (pc' := 1) rfl rfl ?_
  refine J_geti fX3_15 kd_19 rf_19_1 dX3_isFull_1 (pc' := 4) rfl ?_
  refine J_bipush dX3_isFull_4 (pc' := 6) rfl (v := 20) bp_20 ?_
  refine J_icmp_lt dX3_isFull_6 (pt := 13) (by decide) (pc' := 9) rfl (fun c6 => ?_) (fun c6 => ?_)
  · refine J_iconst dX3_isFull_13 (pc' := 14) rfl (v := 0) ic_0 ?_
    refine J_zret dX3_isFull_14 rfl (by decide) (dv_r1 _) ?_
    exact ⟨by (try simp only [← Int32.not_le] at *); simp [dv_b, ch_s, ch_g, ch_d, *], rfl⟩
  · refine J_iconst dX3_isFull_9 (pc' := 10) rfl (v := 1) ic_1 ?_
    refine J_goto dX3_isFull_10 (pc' := 14) (by decide) ?_
    refine J_zret dX3_isFull_14 rfl (by decide) (dv_r1 _) ?_
    exact ⟨by (try simp only [← Int32.not_le] at *); simp [dv_b, ch_s, ch_g, ch_d, *], rfl⟩
set_option maxRecDepth 100000 in
set_option maxHeartbeats 4000000 in
theorem qX5_isFull (d : Nat) (S : dv_S)  : dv_M yX5_isFull cX5_isFull 1 (some .boolean) (dv_rm (d + 0)) [.ref 21] S (fun r S' => r = some (.int (dv_b (decide (80 ≤ S.1 21 3)))) ∧ S' = S) := by
  refine dv_M_of [some (.ref 21)] (by decide) (fun _ _ => Nat.le_of_ble_eq_true rfl) (fun _ _ => rfl) ?_
  refine J_aload_n dX5_isFull_0 (pc' := 1) rfl rfl ?_
  refine J_geti fX5_24 kd_21 rf_21_3 dX5_isFull_1 (pc' := 4) rfl ?_
  refine J_bipush dX5_isFull_4 (pc' := 6) rfl (v := 80) bp_80 ?_
  refine J_icmp_lt dX5_isFull_6 (pt := 13) (by decide) (pc' := 9) rfl (fun c6 => ?_) (fun c6 => ?_)
  · refine J_iconst dX5_isFull_13 (pc' := 14) rfl (v := 0) ic_0 ?_
    refine J_zret dX5_isFull_14 rfl (by decide) (dv_r1 _) ?_
    exact ⟨by (try simp only [← Int32.not_le] at *); simp [dv_b, ch_s, ch_g, ch_d, *], rfl⟩
  · refine J_iconst dX5_isFull_9 (pc' := 10) rfl (v := 1) ic_1 ?_
    refine J_goto dX5_isFull_10 (pc' := 14) (by decide) ?_
    refine J_zret dX5_isFull_14 rfl (by decide) (dv_r1 _) ?_
    exact ⟨by (try simp only [← Int32.not_le] at *); simp [dv_b, ch_s, ch_g, ch_d, *], rfl⟩
set_option maxRecDepth 100000 in
set_option maxHeartbeats 4000000 in
theorem qX6_isFull (d : Nat) (S : dv_S)  : dv_M yX6_isFull cX6_isFull 1 (some .boolean) (dv_rm (d + 0)) [.ref 185] S (fun r S' => r = some (.int (dv_b (decide (150 ≤ S.1 185 2)))) ∧ S' = S) := by
  refine dv_M_of [some (.ref 185)] (by decide) (fun _ _ => Nat.le_of_ble_eq_true rfl) (fun _ _ => rfl) ?_
  refine J_aload_n dX6_isFull_0 (pc' := 1) rfl rfl ?_
  refine J_geti fX6_18 kd_185 rf_185_2 dX6_isFull_1 (pc' := 4) rfl ?_
  refine J_sipush dX6_isFull_4 (pc' := 7) rfl (v := 150) sp_150 ?_
  refine J_icmp_lt dX6_isFull_7 (pt := 14) (by decide) (pc' := 10) rfl (fun c7 => ?_) (fun c7 => ?_)
  · refine J_iconst dX6_isFull_14 (pc' := 15) rfl (v := 0) ic_0 ?_
    refine J_zret dX6_isFull_15 rfl (by decide) (dv_r1 _) ?_
    exact ⟨by (try simp only [← Int32.not_le] at *); simp [dv_b, ch_s, ch_g, ch_d, *], rfl⟩
  · refine J_iconst dX6_isFull_10 (pc' := 11) rfl (v := 1) ic_1 ?_
    refine J_goto dX6_isFull_11 (pc' := 15) (by decide) ?_
    refine J_zret dX6_isFull_15 rfl (by decide) (dv_r1 _) ?_
    exact ⟨by (try simp only [← Int32.not_le] at *); simp [dv_b, ch_s, ch_g, ch_d, *], rfl⟩
set_option maxRecDepth 100000 in
set_option maxHeartbeats 4000000 in
theorem qX4_size (d : Nat) (S : dv_S) (a : Nat) (ha : dv_kd a = 4) : dv_M yX4_size cX4_size 1 (some .int) (dv_rm (d + 0)) [.ref a] S (fun r S' => r = some (.int (S.1 a 1)) ∧ S' = S) := by
  refine dv_M_of [some (.ref a)] (by decide) (fun _ _ => Nat.le_of_ble_eq_true rfl) (fun _ _ => rfl) ?_
  refine J_aload_n dX4_size_0 (pc' := 1) rfl rfl ?_
  refine J_geti fX4_9 ha (dv_rf4_1 ha) dX4_size_1 (pc' := 4) rfl ?_
  refine J_iret dX4_size_4 rfl (dv_r1 _) ?_
  exact ⟨rfl, rfl⟩
set_option maxRecDepth 100000 in
set_option maxHeartbeats 4000000 in
theorem qX4_has (d : Nat) (S : dv_S) (a : Nat) (x : Int32) (ha : dv_kd a = 4) : dv_M yX4_has cX4_has 2 (some .boolean) (dv_rm (d + 0)) [.ref a, .int x] S (fun r S' => r = some (.int (dv_b (decide (0 ≤ x ∧ x < S.1 a 1)))) ∧ S' = S) := by
  refine dv_M_of [some (.ref a), some (.int x)] (by decide) (fun _ _ => Nat.le_of_ble_eq_true rfl) (fun _ _ => rfl) ?_
  refine J_iload_n dX4_has_0 (pc' := 1) rfl rfl ?_
  refine J_if_lt dX4_has_1 (pt := 16) (by decide) (pc' := 4) rfl (fun c1 => ?_) (fun c1 => ?_)
  · refine J_iconst dX4_has_16 (pc' := 17) rfl (v := 0) ic_0 ?_
    refine J_zret dX4_has_17 rfl (by decide) (dv_r1 _) ?_
    exact ⟨by (try simp only [← Int32.not_le] at *); simp [dv_b, ch_s, ch_g, ch_d, *], rfl⟩
  · refine J_iload_n dX4_has_4 (pc' := 5) rfl rfl ?_
    refine J_aload_n dX4_has_5 (pc' := 6) rfl rfl ?_
    refine J_geti fX4_9 ha (dv_rf4_1 ha) dX4_has_6 (pc' := 9) rfl ?_
    refine J_icmp_ge dX4_has_9 (pt := 16) (by decide) (pc' := 12) rfl (fun c9 => ?_) (fun c9 => ?_)
    · refine J_iconst dX4_has_16 (pc' := 17) rfl (v := 0) ic_0 ?_
      refine J_zret dX4_has_17 rfl (by decide) (dv_r1 _) ?_
      exact ⟨by (try simp only [← Int32.not_le] at *); simp [dv_b, ch_s, ch_g, ch_d, *], rfl⟩
    · refine J_iconst dX4_has_12 (pc' := 13) rfl (v := 1) ic_1 ?_
      refine J_goto dX4_has_13 (pc' := 17) (by decide) ?_
      refine J_zret dX4_has_17 rfl (by decide) (dv_r1 _) ?_
      exact ⟨by (try simp only [← Int32.not_le] at *); simp [dv_b, ch_s, ch_g, ch_d, *], rfl⟩
end
section
set_option maxRecDepth 100000 in
set_option maxHeartbeats 4000000 in
theorem qX7_isLetter (d : Nat) (S : dv_S) (x : Int32) : dv_M yX7_isLetter cX7_isLetter 1 (some .boolean) (dv_rm (d + 1)) [.int x] S (fun r S' => r = some (.int (dv_b (ch_l x))) ∧ S' = S) := by
  refine dv_M_of [some (.int x)] (by decide) (fun _ _ => Nat.le_of_ble_eq_true rfl) (fun _ _ => rfl) ?_
  refine J_iload_n dX7_isLetter_0 (pc' := 1) rfl rfl ?_
  refine J_s1 (As := [.int x]) (rest := []) (qX7_isSmall _ _ _) vX7_isSmall mX7_333 dX7_isLetter_1 (pc' := 4) rfl rfl (Nat.le_of_ble_eq_true rfl) (by decide) ?_
  refine J_bne dX7_isLetter_4 (pt := 14) (by decide) (pc' := 7) rfl (fun c4 => ?_) (fun c4 => ?_)
  · refine J_iconst dX7_isLetter_14 (pc' := 15) rfl (v := 1) ic_1 ?_
    refine J_goto dX7_isLetter_15 (pc' := 19) (by decide) ?_
    refine J_zret dX7_isLetter_19 rfl (by decide) (dv_r1 _) ?_
    exact ⟨by simp [dv_b, ch_l, *], rfl⟩
  · refine J_iload_n dX7_isLetter_7 (pc' := 8) rfl rfl ?_
    refine J_s1 (As := [.int x]) (rest := []) (qX7_isGreat _ _ _) vX7_isGreat mX7_336 dX7_isLetter_8 (pc' := 11) rfl rfl (Nat.le_of_ble_eq_true rfl) (by decide) ?_
    refine J_beq dX7_isLetter_11 (pt := 18) (by decide) (pc' := 14) rfl (fun c11 => ?_) (fun c11 => ?_)
    · refine J_iconst dX7_isLetter_18 (pc' := 19) rfl (v := 0) ic_0 ?_
      refine J_zret dX7_isLetter_19 rfl (by decide) (dv_r1 _) ?_
      exact ⟨by simp [dv_b, ch_l, *], rfl⟩
    · refine J_iconst dX7_isLetter_14 (pc' := 15) rfl (v := 1) ic_1 ?_
      refine J_goto dX7_isLetter_15 (pc' := 19) (by decide) ?_
      refine J_zret dX7_isLetter_19 rfl (by decide) (dv_r1 _) ?_
      exact ⟨by simp [dv_b, ch_l, *], rfl⟩
set_option maxRecDepth 100000 in
set_option maxHeartbeats 4000000 in
theorem qX8_isLetter (d : Nat) (S : dv_S) (x : Int32) : dv_M yX8_isLetter cX8_isLetter 1 (some .boolean) (dv_rm (d + 1)) [.int x] S (fun r S' => r = some (.int (dv_b (ch_l x))) ∧ S' = S) := by
  refine dv_M_of [some (.int x)] (by decide) (fun _ _ => Nat.le_of_ble_eq_true rfl) (fun _ _ => rfl) ?_
  refine J_iload_n dX8_isLetter_0 (pc' := 1) rfl rfl ?_
  refine J_s1 (As := [.int x]) (rest := []) (qX8_isSmall _ _ _) vX8_isSmall mX8_17 dX8_isLetter_1 (pc' := 4) rfl rfl (Nat.le_of_ble_eq_true rfl) (by decide) ?_
  refine J_bne dX8_isLetter_4 (pt := 14) (by decide) (pc' := 7) rfl (fun c4 => ?_) (fun c4 => ?_)
  · refine J_iconst dX8_isLetter_14 (pc' := 15) rfl (v := 1) ic_1 ?_
    refine J_goto dX8_isLetter_15 (pc' := 19) (by decide) ?_
    refine J_zret dX8_isLetter_19 rfl (by decide) (dv_r1 _) ?_
    exact ⟨by simp [dv_b, ch_l, *], rfl⟩
  · refine J_iload_n dX8_isLetter_7 (pc' := 8) rfl rfl ?_
    refine J_s1 (As := [.int x]) (rest := []) (qX8_isGreat _ _ _) vX8_isGreat mX8_21 dX8_isLetter_8 (pc' := 11) rfl rfl (Nat.le_of_ble_eq_true rfl) (by decide) ?_
    refine J_beq dX8_isLetter_11 (pt := 18) (by decide) (pc' := 14) rfl (fun c11 => ?_) (fun c11 => ?_)
    · refine J_iconst dX8_isLetter_18 (pc' := 19) rfl (v := 0) ic_0 ?_
      refine J_zret dX8_isLetter_19 rfl (by decide) (dv_r1 _) ?_
      exact ⟨by simp [dv_b, ch_l, *], rfl⟩
    · refine J_iconst dX8_isLetter_14 (pc' := 15) rfl (v := 1) ic_1 ?_
      refine J_goto dX8_isLetter_15 (pc' := 19) (by decide) ?_
      refine J_zret dX8_isLetter_19 rfl (by decide) (dv_r1 _) ?_
      exact ⟨by simp [dv_b, ch_l, *], rfl⟩
set_option maxRecDepth 100000 in
set_option maxHeartbeats 4000000 in
theorem qX7_smallOf (d : Nat) (S : dv_S) (x : Int32) : dv_M yX7_smallOf cX7_smallOf 1 (some .int) (dv_rm (d + 1)) [.int x] S (fun r S' => r = some (.int (ch_lo x)) ∧ S' = S) := by
  refine dv_M_of [some (.int x)] (by decide) (fun _ _ => Nat.le_of_ble_eq_true rfl) (fun _ _ => rfl) ?_
  refine J_iload_n dX7_smallOf_0 (pc' := 1) rfl rfl ?_
  refine J_s1 (As := [.int x]) (rest := []) (qX7_isGreat _ _ _) vX7_isGreat mX7_336 dX7_smallOf_1 (pc' := 4) rfl rfl (Nat.le_of_ble_eq_true rfl) (by decide) ?_
  refine J_beq dX7_smallOf_4 (pt := 17) (by decide) (pc' := 7) rfl (fun c4 => ?_) (fun c4 => ?_)
  · refine J_iload_n dX7_smallOf_17 (pc' := 18) rfl rfl ?_
    refine J_iret dX7_smallOf_18 rfl (dv_r1 _) ?_
    exact ⟨by simp [ch_lo, *], rfl⟩
  · refine J_iload_n dX7_smallOf_7 (pc' := 8) rfl rfl ?_
    refine J_bipush dX7_smallOf_8 (pc' := 10) rfl (v := 65) bp_65 ?_
    refine J_isub dX7_smallOf_10 (pc' := 11) rfl ?_
    refine J_bipush dX7_smallOf_11 (pc' := 13) rfl (v := 97) bp_97 ?_
    refine J_iadd dX7_smallOf_13 (pc' := 14) rfl ?_
    refine J_goto dX7_smallOf_14 (pc' := 18) (by decide) ?_
    refine J_iret dX7_smallOf_18 rfl (dv_r1 _) ?_
    exact ⟨by simp [ch_lo, *], rfl⟩
set_option maxRecDepth 100000 in
set_option maxHeartbeats 4000000 in
theorem qX7_greatOf (d : Nat) (S : dv_S) (x : Int32) : dv_M yX7_greatOf cX7_greatOf 1 (some .int) (dv_rm (d + 1)) [.int x] S (fun r S' => r = some (.int (ch_up x)) ∧ S' = S) := by
  refine dv_M_of [some (.int x)] (by decide) (fun _ _ => Nat.le_of_ble_eq_true rfl) (fun _ _ => rfl) ?_
  refine J_iload_n dX7_greatOf_0 (pc' := 1) rfl rfl ?_
  refine J_s1 (As := [.int x]) (rest := []) (qX7_isSmall _ _ _) vX7_isSmall mX7_333 dX7_greatOf_1 (pc' := 4) rfl rfl (Nat.le_of_ble_eq_true rfl) (by decide) ?_
  refine J_beq dX7_greatOf_4 (pt := 17) (by decide) (pc' := 7) rfl (fun c4 => ?_) (fun c4 => ?_)
  · refine J_iload_n dX7_greatOf_17 (pc' := 18) rfl rfl ?_
    refine J_iret dX7_greatOf_18 rfl (dv_r1 _) ?_
    exact ⟨by simp [ch_up, *], rfl⟩
  · refine J_iload_n dX7_greatOf_7 (pc' := 8) rfl rfl ?_
    refine J_bipush dX7_greatOf_8 (pc' := 10) rfl (v := 97) bp_97 ?_
    refine J_isub dX7_greatOf_10 (pc' := 11) rfl ?_
    refine J_bipush dX7_greatOf_11 (pc' := 13) rfl (v := 65) bp_65 ?_
    refine J_iadd dX7_greatOf_13 (pc' := 14) rfl ?_
    refine J_goto dX7_greatOf_14 (pc' := 18) (by decide) ?_
    refine J_iret dX7_greatOf_18 rfl (dv_r1 _) ?_
    exact ⟨by simp [ch_up, *], rfl⟩
set_option maxRecDepth 100000 in
set_option maxHeartbeats 4000000 in
theorem qX4_at (d : Nat) (S : dv_S) (a n : Nat) (x : Int32) (ha : dv_kd a = 4) (ha1 : dv_kd (a + 1) = 10) (hn : S.1 a 1 = nI n) (hl : n ≤ dv_ln (a + 1)) : dv_M yX4_at cX4_at 2 (some .int) (dv_rm (d + 1)) [.ref a, .int x] S (fun r S' => r = some (.int (dv_gx (S.2.1 (a + 1)) n x)) ∧ S' = S) := by
  have h31 := dv_ln_lt (a + 1)
  refine dv_M_of [some (.ref a), some (.int x)] (by decide) (fun _ _ => Nat.le_of_ble_eq_true rfl) (fun _ _ => rfl) ?_
  refine J_aload_n dX4_at_0 (pc' := 1) rfl rfl ?_
  refine J_iload_n dX4_at_1 (pc' := 2) rfl rfl ?_
  refine J_v1 (As := [.int x]) (rest := []) (qX4_has _ _ a x ha) vX4_has mX4_23 ha dX4_at_2 (pc' := 5) rfl rfl (Nat.le_of_ble_eq_true rfl) (by decide) ?_
  refine J_beq dX4_at_5 (pt := 17) (by decide) (pc' := 8) rfl (fun c5 => ?_) (fun c5 => ?_)
  · rw [hn] at c5
    refine J_iconst dX4_at_17 (pc' := 18) rfl (v := 0) ic_0 ?_
    refine J_iret dX4_at_18 rfl (dv_r1 _) ?_
    first | exact ⟨by rw [dv_gx_out c5], rfl⟩ | exact ⟨by rw [hxj, dv_gx_in hj (by omega)], rfl⟩
  · obtain ⟨j, hj, hxj⟩ := dv_idx hn (by omega) c5
    refine J_aload_n dX4_at_8 (pc' := 9) rfl rfl ?_
    refine J_getr fX4_19 ha (dv_rf4_0 ha) dX4_at_9 (pc' := 12) rfl ?_
    refine J_iload_n dX4_at_12 (pc' := 13) rfl rfl ?_
    refine J_iald (j := j) ha1 (hxj) (by omega) dX4_at_13 (pc' := 14) rfl ?_
    refine J_goto dX4_at_14 (pc' := 18) (by decide) ?_
    refine J_iret dX4_at_18 rfl (dv_r1 _) ?_
    first | exact ⟨by rw [dv_gx_out c5], rfl⟩ | exact ⟨by rw [hxj, dv_gx_in hj (by omega)], rfl⟩
set_option maxRecDepth 100000 in
set_option maxHeartbeats 4000000 in
theorem qX4_clear (d : Nat) (S : dv_S) (a : Nat) (ha : dv_kd a = 4) : dv_M yX4_clear cX4_clear 1 none (dv_rm (d + 0)) [.ref a] S (fun r S' => r = none ∧ S' = (dv_u (dv_u S.1 a 1 0) a 2 0, S.2)) := by
  refine dv_M_of [some (.ref a)] (by decide) (fun _ _ => Nat.le_of_ble_eq_true rfl) (fun _ _ => rfl) ?_
  refine J_aload_n dX4_clear_0 (pc' := 1) rfl rfl ?_
  refine J_iconst dX4_clear_1 (pc' := 2) rfl (v := 0) ic_0 ?_
  refine J_puti fX4_9 ha (dv_rf4_1 ha) dX4_clear_2 (pc' := 5) rfl ?_
  refine J_aload_n dX4_clear_5 (pc' := 6) rfl rfl ?_
  refine J_iconst dX4_clear_6 (pc' := 7) rfl (v := 0) ic_0 ?_
  refine J_putz fX4_15 ha (dv_rf4_2 ha) (by decide) dX4_clear_7 (pc' := 10) rfl ?_
  refine J_vret dX4_clear_10 rfl (dv_r1 _) ?_
  exact ⟨rfl, rfl⟩
set_option maxRecDepth 100000 in
set_option maxHeartbeats 4000000 in
theorem qX4_add (d : Nat) (S : dv_S) (a n : Nat) (b : Int32) (ha : dv_kd a = 4) (ha1 : dv_kd (a + 1) = 10) (hn : S.1 a 1 = nI n) (hl : n < dv_ln (a + 1)) : dv_M yX4_add cX4_add 2 none (dv_rm (d + 0)) [.ref a, .int b] S (fun r S' => r = none ∧ S' = (dv_ap S a n b)) := by
  have h31 := dv_ln_lt (a + 1)
  refine dv_M_of [some (.ref a), some (.int b)] (by decide) (fun _ _ => Nat.le_of_ble_eq_true rfl) (fun _ _ => rfl) ?_
  refine J_aload_n dX4_add_0 (pc' := 1) rfl rfl ?_
  refine J_geti fX4_9 ha (dv_rf4_1 ha) dX4_add_1 (pc' := 4) rfl ?_
  refine J_aload_n dX4_add_4 (pc' := 5) rfl rfl ?_
  refine J_getr fX4_19 ha (dv_rf4_0 ha) dX4_add_5 (pc' := 8) rfl ?_
  refine J_alen ha1 dX4_add_8 (pc' := 9) rfl ?_
  refine J_icmp_ge dX4_add_9 (pt := 35) (by decide) (pc' := 12) rfl (fun c9 => ?_) (fun c9 => ?_)
  · rw [hn] at c9
    exact absurd c9 (nI_ge hl h31)
  · refine J_aload_n dX4_add_12 (pc' := 13) rfl rfl ?_
    refine J_getr fX4_19 ha (dv_rf4_0 ha) dX4_add_13 (pc' := 16) rfl ?_
    refine J_aload_n dX4_add_16 (pc' := 17) rfl rfl ?_
    refine J_geti fX4_9 ha (dv_rf4_1 ha) dX4_add_17 (pc' := 20) rfl ?_
    refine J_iload_n dX4_add_20 (pc' := 21) rfl rfl ?_
    refine J_iast (j := n) ha1 (hn) hl dX4_add_21 (pc' := 22) rfl ?_
    refine J_aload_n dX4_add_22 (pc' := 23) rfl rfl ?_
    refine J_dup dX4_add_23 (pc' := 24) rfl rfl ?_
    refine J_geti fX4_9 ha (dv_rf4_1 ha) dX4_add_24 (pc' := 27) rfl ?_
    refine J_iconst dX4_add_27 (pc' := 28) rfl (v := 1) ic_1 ?_
    refine J_iadd dX4_add_28 (pc' := 29) rfl ?_
    refine J_puti fX4_9 ha (dv_rf4_1 ha) dX4_add_29 (pc' := 32) rfl ?_
    refine J_goto dX4_add_32 (pc' := 40) (by decide) ?_
    refine J_vret dX4_add_40 rfl (dv_r1 _) ?_
    exact ⟨rfl, by simp [dv_ap, hn, nI_1]⟩
set_option maxRecDepth 100000 in
set_option maxHeartbeats 4000000 in
theorem qX4_addF (d : Nat) (S : dv_S) (a : Nat) (b : Int32) (ha : dv_kd a = 4) (ha1 : dv_kd (a + 1) = 10) (hn : S.1 a 1 = nI (dv_ln (a + 1))) : dv_M yX4_add cX4_add 2 none (dv_rm (d + 0)) [.ref a, .int b] S (fun r S' => r = none ∧ S' = (dv_u S.1 a 2 1, S.2)) := by
  have h31 := dv_ln_lt (a + 1)
  refine dv_M_of [some (.ref a), some (.int b)] (by decide) (fun _ _ => Nat.le_of_ble_eq_true rfl) (fun _ _ => rfl) ?_
  refine J_aload_n dX4_add_0 (pc' := 1) rfl rfl ?_
  refine J_geti fX4_9 ha (dv_rf4_1 ha) dX4_add_1 (pc' := 4) rfl ?_
  refine J_aload_n dX4_add_4 (pc' := 5) rfl rfl ?_
  refine J_getr fX4_19 ha (dv_rf4_0 ha) dX4_add_5 (pc' := 8) rfl ?_
  refine J_alen ha1 dX4_add_8 (pc' := 9) rfl ?_
  refine J_icmp_ge dX4_add_9 (pt := 35) (by decide) (pc' := 12) rfl (fun c9 => ?_) (fun c9 => ?_)
  · refine J_aload_n dX4_add_35 (pc' := 36) rfl rfl ?_
    refine J_iconst dX4_add_36 (pc' := 37) rfl (v := 1) ic_1 ?_
    refine J_putz fX4_15 ha (dv_rf4_2 ha) (by decide) dX4_add_37 (pc' := 40) rfl ?_
    refine J_vret dX4_add_40 rfl (dv_r1 _) ?_
    exact ⟨rfl, rfl⟩
  · rw [hn] at c9
    exact absurd (nI_le (Nat.le_refl _) h31) c9
set_option maxRecDepth 100000 in
set_option maxHeartbeats 4000000 in
theorem qX4_addNumber (d : Nat) (S : dv_S) (a n : Nat) (x : Int32) (ha : dv_kd a = 4) (ha1 : dv_kd (a + 1) = 10) (hn : S.1 a 1 = nI n) (hl : n + 4 ≤ dv_ln (a + 1)) : dv_M yX4_addNumber cX4_addNumber 3 none (dv_rm (d + 1)) [.ref a, .int x] S (fun r S' => r = none ∧ S' = (dv_ap (dv_ap (dv_ap (dv_ap S a n ((x >>> (24 &&& 31)) &&& 255)) a (n + 1) ((x >>> (16 &&& 31)) &&& 255)) a (n + 2) ((x >>> (8 &&& 31)) &&& 255)) a (n + 3) ((x >>> (0 &&& 31)) &&& 255))) := by
  refine dv_M_of [some (.ref a), some (.int x), none] (by decide) (fun _ _ => Nat.le_of_ble_eq_true rfl) (fun _ _ => rfl) ?_
  refine J_bipush dX4_addNumber_0 (pc' := 2) rfl (v := 24) bp_24 ?_
  refine J_istore_n dX4_addNumber_2 (pc' := 3) rfl rfl (by decide) rfl (l' := [some (.ref a), some (.int x), some (.int 24)]) rfl ?_
  refine J_iload_n dX4_addNumber_3 (pc' := 4) rfl rfl ?_
  refine J_if_lt dX4_addNumber_4 (pt := 24) (by decide) (pc' := 7) rfl (fun c4 => ?_) (fun c4 => ?_)
  · exact absurd c4 (by decide)
  · refine J_aload_n dX4_addNumber_7 (pc' := 8) rfl rfl ?_
    refine J_iload_n dX4_addNumber_8 (pc' := 9) rfl rfl ?_
    refine J_iload_n dX4_addNumber_9 (pc' := 10) rfl rfl ?_
    refine J_ishr dX4_addNumber_10 (pc' := 11) rfl ?_
    refine J_sipush dX4_addNumber_11 (pc' := 14) rfl (v := 255) sp_255 ?_
    refine J_iand dX4_addNumber_14 (pc' := 15) rfl ?_
    refine J_v0 (As := [.int ((x >>> (24 &&& 31)) &&& 255)]) (rest := []) (qX4_add _ _ a (n + 0) _ ha ha1 (hn) (by omega)) vX4_add mX4_27 ha dX4_addNumber_15 (pc' := 18) rfl rfl (Nat.le_of_ble_eq_true rfl) (by decide) ?_
    refine J_iinc dX4_addNumber_18 (pc' := 21) rfl rfl (v := 16) (by decide) (by decide) rfl (l' := [some (.ref a), some (.int x), some (.int 16)]) rfl ?_
    refine J_goto dX4_addNumber_21 (pc' := 3) (by decide) ?_
    refine J_iload_n dX4_addNumber_3 (pc' := 4) rfl rfl ?_
    refine J_if_lt dX4_addNumber_4 (pt := 24) (by decide) (pc' := 7) rfl (fun c4 => ?_) (fun c4 => ?_)
    · exact absurd c4 (by decide)
    · refine J_aload_n dX4_addNumber_7 (pc' := 8) rfl rfl ?_
      refine J_iload_n dX4_addNumber_8 (pc' := 9) rfl rfl ?_
      refine J_iload_n dX4_addNumber_9 (pc' := 10) rfl rfl ?_
      refine J_ishr dX4_addNumber_10 (pc' := 11) rfl ?_
      refine J_sipush dX4_addNumber_11 (pc' := 14) rfl (v := 255) sp_255 ?_
      refine J_iand dX4_addNumber_14 (pc' := 15) rfl ?_
      refine J_v0 (As := [.int ((x >>> (16 &&& 31)) &&& 255)]) (rest := []) (qX4_add _ _ a (n + 1) _ ha ha1 (dv_ap_n _ _ _ _) (by omega)) vX4_add mX4_27 ha dX4_addNumber_15 (pc' := 18) rfl rfl (Nat.le_of_ble_eq_true rfl) (by decide) ?_
      refine J_iinc dX4_addNumber_18 (pc' := 21) rfl rfl (v := 8) (by decide) (by decide) rfl (l' := [some (.ref a), some (.int x), some (.int 8)]) rfl ?_
      refine J_goto dX4_addNumber_21 (pc' := 3) (by decide) ?_
      refine J_iload_n dX4_addNumber_3 (pc' := 4) rfl rfl ?_
      refine J_if_lt dX4_addNumber_4 (pt := 24) (by decide) (pc' := 7) rfl (fun c4 => ?_) (fun c4 => ?_)
      · exact absurd c4 (by decide)
      · refine J_aload_n dX4_addNumber_7 (pc' := 8) rfl rfl ?_
        refine J_iload_n dX4_addNumber_8 (pc' := 9) rfl rfl ?_
        refine J_iload_n dX4_addNumber_9 (pc' := 10) rfl rfl ?_
        refine J_ishr dX4_addNumber_10 (pc' := 11) rfl ?_
        refine J_sipush dX4_addNumber_11 (pc' := 14) rfl (v := 255) sp_255 ?_
        refine J_iand dX4_addNumber_14 (pc' := 15) rfl ?_
        refine J_v0 (As := [.int ((x >>> (8 &&& 31)) &&& 255)]) (rest := []) (qX4_add _ _ a (n + 2) _ ha ha1 (dv_ap_n _ _ _ _) (by omega)) vX4_add mX4_27 ha dX4_addNumber_15 (pc' := 18) rfl rfl (Nat.le_of_ble_eq_true rfl) (by decide) ?_
        refine J_iinc dX4_addNumber_18 (pc' := 21) rfl rfl (v := 0) (by decide) (by decide) rfl (l' := [some (.ref a), some (.int x), some (.int 0)]) rfl ?_
        refine J_goto dX4_addNumber_21 (pc' := 3) (by decide) ?_
        refine J_iload_n dX4_addNumber_3 (pc' := 4) rfl rfl ?_
        refine J_if_lt dX4_addNumber_4 (pt := 24) (by decide) (pc' := 7) rfl (fun c4 => ?_) (fun c4 => ?_)
        · exact absurd c4 (by decide)
        · refine J_aload_n dX4_addNumber_7 (pc' := 8) rfl rfl ?_
          refine J_iload_n dX4_addNumber_8 (pc' := 9) rfl rfl ?_
          refine J_iload_n dX4_addNumber_9 (pc' := 10) rfl rfl ?_
          refine J_ishr dX4_addNumber_10 (pc' := 11) rfl ?_
          refine J_sipush dX4_addNumber_11 (pc' := 14) rfl (v := 255) sp_255 ?_
          refine J_iand dX4_addNumber_14 (pc' := 15) rfl ?_
          refine J_v0 (As := [.int ((x >>> (0 &&& 31)) &&& 255)]) (rest := []) (qX4_add _ _ a (n + 3) _ ha ha1 (dv_ap_n _ _ _ _) (by omega)) vX4_add mX4_27 ha dX4_addNumber_15 (pc' := 18) rfl rfl (Nat.le_of_ble_eq_true rfl) (by decide) ?_
          refine J_iinc dX4_addNumber_18 (pc' := 21) rfl rfl (v := (-8)) (by decide) (by decide) rfl (l' := [some (.ref a), some (.int x), some (.int ((-8)))]) rfl ?_
          refine J_goto dX4_addNumber_21 (pc' := 3) (by decide) ?_
          refine J_iload_n dX4_addNumber_3 (pc' := 4) rfl rfl ?_
          refine J_if_lt dX4_addNumber_4 (pt := 24) (by decide) (pc' := 7) rfl (fun c4 => ?_) (fun c4 => ?_)
          · refine J_vret dX4_addNumber_24 rfl (dv_r1 _) ?_
            exact ⟨rfl, rfl⟩
          · exact absurd c4 (by decide)
set_option maxRecDepth 100000 in
set_option maxHeartbeats 4000000 in
theorem qX4_set (d : Nat) (S : dv_S) (a o m : Nat) (ha : dv_kd a = 4) (ha1 : dv_kd (a + 1) = 10) (ho : dv_kd o = 4) (ho1 : dv_kd (o + 1) = 10) (hm : S.1 o 1 = nI m) (hlo : m ≤ dv_ln (o + 1)) (hla : m ≤ dv_ln (a + 1)) (hao : a ≠ o) : dv_M yX4_set cX4_set 3 none (dv_rm (d + 1)) [.ref a, .ref o] S (fun r S' => r = none ∧ S' = (dv_tx S a m (S.2.1 (o + 1)))) := by
  have h31 := dv_ln_lt (o + 1)
  refine dv_M_of [some (.ref a), some (.ref o), none] (by decide) (fun _ _ => Nat.le_of_ble_eq_true rfl) (fun _ _ => rfl) ?_
  refine J_aload_n dX4_set_0 (pc' := 1) rfl rfl ?_
  refine J_v0 (As := []) (rest := []) (qX4_clear _ _ a ha) vX4_clear mX4_31 ha dX4_set_1 (pc' := 4) rfl rfl (Nat.le_of_ble_eq_true rfl) (by decide) ?_
  refine J_iconst dX4_set_4 (pc' := 5) rfl (v := 0) ic_0 ?_
  refine J_istore_n dX4_set_5 (pc' := 6) rfl rfl (by decide) rfl (l' := [some (.ref a), some (.ref o), some (.int 0)]) rfl ?_
  have hlp6 : ∀ i, i ≤ m → dv_J yX4_set cX4_set 3 none (dv_rm (d + 1)) 0 0 6 [some (.ref a), some (.ref o), some (.int (nI i))] [] (dv_tx S a i (S.2.1 (o + 1))) (fun r S' => r = none ∧ S' = (dv_tx S a m (S.2.1 (o + 1)))) := by
    refine dv_up (P := fun i => dv_J yX4_set cX4_set 3 none (dv_rm (d + 1)) 0 0 6 [some (.ref a), some (.ref o), some (.int (nI i))] [] (dv_tx S a i (S.2.1 (o + 1))) (fun r S' => r = none ∧ S' = (dv_tx S a m (S.2.1 (o + 1))))) ?_
    intro i hi6 ih6 
    refine J_iload_n dX4_set_6 (pc' := 7) rfl rfl ?_
    refine J_aload_n dX4_set_7 (pc' := 8) rfl rfl ?_
    refine J_geti fX4_9 ho (dv_rf4_1 ho) dX4_set_8 (pc' := 11) rfl ?_
    refine J_top (w := .int (nI m)) (by simp [dv_tx, dv_u, hm, Ne.symm hao]) ?_
    refine J_icmp_ge dX4_set_11 (pt := 30) (by decide) (pc' := 14) rfl (fun c11 => ?_) (fun c11 => ?_)
    · have hx := dv_ge hi6 (by omega) c11
      refine J_vret dX4_set_30 rfl (dv_r1 _) ?_
      exact ⟨rfl, by rw [hx]⟩
    · have hx := dv_nge hi6 (by omega) c11
      refine J_aload_n dX4_set_14 (pc' := 15) rfl rfl ?_
      refine J_aload_n dX4_set_15 (pc' := 16) rfl rfl ?_
      refine J_getr fX4_19 ho (dv_rf4_0 ho) dX4_set_16 (pc' := 19) rfl ?_
      refine J_iload_n dX4_set_19 (pc' := 20) rfl rfl ?_
      refine J_iald (j := i) ho1 (rfl) (by omega) dX4_set_20 (pc' := 21) rfl ?_
      refine J_top (w := .int (S.2.1 (o + 1) i)) (by simp [dv_tx, dv_rw, Ne.symm hao]) ?_
      refine J_v0 (As := [.int (S.2.1 (o + 1) i)]) (rest := []) (qX4_add _ _ a i _ ha ha1 (dv_tx_n _ _ _ _) (by omega)) vX4_add mX4_27 ha dX4_set_21 (pc' := 24) rfl rfl (Nat.le_of_ble_eq_true rfl) (by decide) ?_
      refine J_iinc dX4_set_24 (pc' := 27) rfl rfl (v := nI (i + 1)) (nI_1 i) (by decide) rfl (l' := [some (.ref a), some (.ref o), some (.int (nI (i + 1)))]) rfl ?_
      refine J_goto dX4_set_27 (pc' := 6) (by decide) ?_
      exact J_sto (dv_tx_s S a i (S.2.1 (o + 1))) (ih6 (i + 1) (by omega) (by omega))
  refine J_loc (l' := [some (.ref a), some (.ref o), some (.int (nI 0))]) (by simp only [nI_0, dv_b_f, dv_b_t]) ?_
  refine J_sto (S' := (dv_tx S a 0 (S.2.1 (o + 1)))) (dv_tx_0 _ _ _) ?_
  exact hlp6 0 (Nat.zero_le _) 
set_option maxRecDepth 100000 in
set_option maxHeartbeats 4000000 in
theorem qX4_same (d : Nat) (S : dv_S) (a o n m : Nat) (ha : dv_kd a = 4) (ha1 : dv_kd (a + 1) = 10) (hn : S.1 a 1 = nI n) (hl : n ≤ dv_ln (a + 1)) (ho : dv_kd o = 4) (ho1 : dv_kd (o + 1) = 10) (hm : S.1 o 1 = nI m) (hlo : m ≤ dv_ln (o + 1)) : dv_M yX4_same cX4_same 3 (some .boolean) (dv_rm (d + 0)) [.ref a, .ref o] S (fun r S' => r = some (.int (dv_b (decide (dv_rd (S.2.1 (a + 1)) n = dv_rd (S.2.1 (o + 1)) m)))) ∧ S' = S) := by
  have h31 := dv_ln_lt (a + 1)
  have h32 := dv_ln_lt (o + 1)
  refine dv_M_of [some (.ref a), some (.ref o), none] (by decide) (fun _ _ => Nat.le_of_ble_eq_true rfl) (fun _ _ => rfl) ?_
  refine J_aload_n dX4_same_0 (pc' := 1) rfl rfl ?_
  refine J_geti fX4_9 ha (dv_rf4_1 ha) dX4_same_1 (pc' := 4) rfl ?_
  refine J_aload_n dX4_same_4 (pc' := 5) rfl rfl ?_
  refine J_geti fX4_9 ho (dv_rf4_1 ho) dX4_same_5 (pc' := 8) rfl ?_
  refine J_top (w := .int (nI m)) (by rw [hm]) ?_
  refine J_icmp_eq dX4_same_8 (pt := 13) (by decide) (pc' := 11) rfl (fun c8 => ?_) (fun c8 => ?_)
  · rw [hn, nI_eq (by omega) (by omega)] at c8
    refine J_iconst dX4_same_13 (pc' := 14) rfl (v := 0) ic_0 ?_
    refine J_istore_n dX4_same_14 (pc' := 15) rfl rfl (by decide) rfl (l' := [some (.ref a), some (.ref o), some (.int 0)]) rfl ?_
    have hlp15 : ∀ i, i ≤ n → (∀ j, j < i → S.2.1 (a + 1) j = S.2.1 (o + 1) j) → dv_J yX4_same cX4_same 3 (some .boolean) (dv_rm (d + 0)) 0 0 15 [some (.ref a), some (.ref o), some (.int (nI i))] [] S (fun r S' => r = some (.int (dv_b (decide (dv_rd (S.2.1 (a + 1)) n = dv_rd (S.2.1 (o + 1)) m)))) ∧ S' = S) := by
      refine dv_up (P := fun i => (∀ j, j < i → S.2.1 (a + 1) j = S.2.1 (o + 1) j) → dv_J yX4_same cX4_same 3 (some .boolean) (dv_rm (d + 0)) 0 0 15 [some (.ref a), some (.ref o), some (.int (nI i))] [] S (fun r S' => r = some (.int (dv_b (decide (dv_rd (S.2.1 (a + 1)) n = dv_rd (S.2.1 (o + 1)) m)))) ∧ S' = S)) ?_
      intro i hi15 ih15 hq
      refine J_iload_n dX4_same_15 (pc' := 16) rfl rfl ?_
      refine J_aload_n dX4_same_16 (pc' := 17) rfl rfl ?_
      refine J_geti fX4_9 ha (dv_rf4_1 ha) dX4_same_17 (pc' := 20) rfl ?_
      refine J_top (w := .int (nI n)) (by rw [hn]) ?_
      refine J_icmp_ge dX4_same_20 (pt := 46) (by decide) (pc' := 23) rfl (fun c20 => ?_) (fun c20 => ?_)
      · have hx := dv_ge hi15 (by omega) c20
        refine J_iconst dX4_same_46 (pc' := 47) rfl (v := 1) ic_1 ?_
        refine J_zret dX4_same_47 rfl (by decide) (dv_r1 _) ?_
        first | exact ⟨by rw [decide_eq_true (dv_rd_eq.mpr ⟨c8, fun j hj => hq j (by omega)⟩)]; rfl, rfl⟩ | exact ⟨by rw [decide_eq_false (fun q => c35 ((dv_rd_eq.mp q).2 _ hx))]; rfl, rfl⟩ | exact ⟨by rw [decide_eq_false (fun q => c8 (dv_rd_eq.mp q).1)]; rfl, rfl⟩
      · have hx := dv_nge hi15 (by omega) c20
        refine J_aload_n dX4_same_23 (pc' := 24) rfl rfl ?_
        refine J_getr fX4_19 ha (dv_rf4_0 ha) dX4_same_24 (pc' := 27) rfl ?_
        refine J_iload_n dX4_same_27 (pc' := 28) rfl rfl ?_
        refine J_iald (j := i) ha1 (rfl) (by omega) dX4_same_28 (pc' := 29) rfl ?_
        refine J_aload_n dX4_same_29 (pc' := 30) rfl rfl ?_
        refine J_getr fX4_19 ho (dv_rf4_0 ho) dX4_same_30 (pc' := 33) rfl ?_
        refine J_iload_n dX4_same_33 (pc' := 34) rfl rfl ?_
        refine J_iald (j := i) ho1 (rfl) (by omega) dX4_same_34 (pc' := 35) rfl ?_
        refine J_icmp_eq dX4_same_35 (pt := 40) (by decide) (pc' := 38) rfl (fun c35 => ?_) (fun c35 => ?_)
        · refine J_iinc dX4_same_40 (pc' := 43) rfl rfl (v := nI (i + 1)) (nI_1 i) (by decide) rfl (l' := [some (.ref a), some (.ref o), some (.int (nI (i + 1)))]) rfl ?_
          refine J_goto dX4_same_43 (pc' := 15) (by decide) ?_
          exact ih15 (i + 1) (by omega) (by omega) (lt_s hq c35)
        · refine J_iconst dX4_same_38 (pc' := 39) rfl (v := 0) ic_0 ?_
          refine J_zret dX4_same_39 rfl (by decide) (dv_r1 _) ?_
          first | exact ⟨by rw [decide_eq_true (dv_rd_eq.mpr ⟨c8, fun j hj => hq j (by omega)⟩)]; rfl, rfl⟩ | exact ⟨by rw [decide_eq_false (fun q => c35 ((dv_rd_eq.mp q).2 _ hx))]; rfl, rfl⟩ | exact ⟨by rw [decide_eq_false (fun q => c8 (dv_rd_eq.mp q).1)]; rfl, rfl⟩
    refine J_loc (l' := [some (.ref a), some (.ref o), some (.int (nI 0))]) (by simp only [nI_0, dv_b_f, dv_b_t]) ?_
    exact hlp15 0 (Nat.zero_le _) (fun j hj => absurd hj (Nat.not_lt_zero j))
  · rw [hn, nI_eq (by omega) (by omega)] at c8
    refine J_iconst dX4_same_11 (pc' := 12) rfl (v := 0) ic_0 ?_
    refine J_zret dX4_same_12 rfl (by decide) (dv_r1 _) ?_
    first | exact ⟨by rw [decide_eq_true (dv_rd_eq.mpr ⟨c8, fun j hj => hq j (by omega)⟩)]; rfl, rfl⟩ | exact ⟨by rw [decide_eq_false (fun q => c35 ((dv_rd_eq.mp q).2 _ hx))]; rfl, rfl⟩ | exact ⟨by rw [decide_eq_false (fun q => c8 (dv_rd_eq.mp q).1)]; rfl, rfl⟩
set_option maxRecDepth 100000 in
set_option maxHeartbeats 4000000 in
theorem qX4_isName (d : Nat) (S : dv_S) (a n : Nat) (ha : dv_kd a = 4) (ha1 : dv_kd (a + 1) = 10) (hn : S.1 a 1 = nI n) (hl : n ≤ dv_ln (a + 1)) : dv_M yX4_isName cX4_isName 3 (some .boolean) (dv_rm (d + 2)) [.ref a] S (fun r S' => r = some (.int (dv_b (decide (S.1 a 2 = 0) && nm_ok (dv_rd (S.2.1 (a + 1)) n)))) ∧ S' = S) := by
  have h31 := dv_ln_lt (a + 1)
  have h24 : (24 : Int32) = nI 24 := by decide
  refine dv_M_of [some (.ref a), none, none] (by decide) (fun _ _ => Nat.le_of_ble_eq_true rfl) (fun _ _ => rfl) ?_
  refine J_aload_n dX4_isName_0 (pc' := 1) rfl rfl ?_
  refine J_geti fX4_15 ha (dv_rf4_2 ha) dX4_isName_1 (pc' := 4) rfl ?_
  refine J_if_ne dX4_isName_4 (pt := 35) (by decide) (pc' := 7) rfl (fun c4 => ?_) (fun c4 => ?_)
  · refine J_iconst dX4_isName_35 (pc' := 36) rfl (v := 0) ic_0 ?_
    refine J_zret dX4_isName_36 rfl (by decide) (dv_r1 _) ?_
    refine ⟨?_, rfl⟩
    first
      | (simp [dv_b, c4]; done)
      | (have h1 : decide (1 ≤ n ∧ n ≤ 24) = false := decide_eq_false (by omega)
         simp only [nm_ok, dv_rd_len, h1]; simp [dv_b]; done)
      | (simp only [nm_ok, dv_rd_hd (f := S.2.1 (a + 1)) (Nat.pos_of_ne_zero hz), c32]; simp [dv_b]; done)
  · refine J_aload_n dX4_isName_7 (pc' := 8) rfl rfl ?_
    refine J_geti fX4_9 ha (dv_rf4_1 ha) dX4_isName_8 (pc' := 11) rfl ?_
    refine J_top (w := .int (nI n)) (by rw [hn]) ?_
    refine J_if_eq dX4_isName_11 (pt := 35) (by decide) (pc' := 14) rfl (fun c11 => ?_) (fun c11 => ?_)
    · have hz : n = 0 := by rw [← nI_0, nI_eq (by omega) (by omega)] at c11; exact c11
      refine J_iconst dX4_isName_35 (pc' := 36) rfl (v := 0) ic_0 ?_
      refine J_zret dX4_isName_36 rfl (by decide) (dv_r1 _) ?_
      refine ⟨?_, rfl⟩
      first
        | (simp [dv_b, c4]; done)
        | (have h1 : decide (1 ≤ n ∧ n ≤ 24) = false := decide_eq_false (by omega)
           simp only [nm_ok, dv_rd_len, h1]; simp [dv_b]; done)
        | (simp only [nm_ok, dv_rd_hd (f := S.2.1 (a + 1)) (Nat.pos_of_ne_zero hz), c32]; simp [dv_b]; done)
    · have hz : n ≠ 0 := fun q => c11 (by rw [q, nI_0])
      refine J_aload_n dX4_isName_14 (pc' := 15) rfl rfl ?_
      refine J_geti fX4_9 ha (dv_rf4_1 ha) dX4_isName_15 (pc' := 18) rfl ?_
      refine J_bipush dX4_isName_18 (pc' := 20) rfl (v := 24) bp_24 ?_
      refine J_icmp_gt dX4_isName_20 (pt := 35) (by decide) (pc' := 23) rfl (fun c20 => ?_) (fun c20 => ?_)
      · rw [hn, h24, nI_ltI (by omega) (by omega)] at c20
        refine J_iconst dX4_isName_35 (pc' := 36) rfl (v := 0) ic_0 ?_
        refine J_zret dX4_isName_36 rfl (by decide) (dv_r1 _) ?_
        refine ⟨?_, rfl⟩
        first
          | (simp [dv_b, c4]; done)
          | (have h1 : decide (1 ≤ n ∧ n ≤ 24) = false := decide_eq_false (by omega)
             simp only [nm_ok, dv_rd_len, h1]; simp [dv_b]; done)
          | (simp only [nm_ok, dv_rd_hd (f := S.2.1 (a + 1)) (Nat.pos_of_ne_zero hz), c32]; simp [dv_b]; done)
      · rw [hn, h24, nI_ltI (by omega) (by omega)] at c20
        refine J_aload_n dX4_isName_23 (pc' := 24) rfl rfl ?_
        refine J_getr fX4_19 ha (dv_rf4_0 ha) dX4_isName_24 (pc' := 27) rfl ?_
        refine J_iconst dX4_isName_27 (pc' := 28) rfl (v := 0) ic_0 ?_
        refine J_iald (j := 0) ha1 (nI_0.symm) (by omega) dX4_isName_28 (pc' := 29) rfl ?_
        refine J_n1 (As := [.int (S.2.1 (a + 1) 0)]) (rest := []) (qX7_isDigit _ _ _) vX7_isDigit nX4_34 dX4_isName_29 (pc' := 32) rfl rfl (Nat.le_of_ble_eq_true rfl) (by decide) ?_
        refine J_beq dX4_isName_32 (pt := 37) (by decide) (pc' := 35) rfl (fun c32 => ?_) (fun c32 => ?_)
        · refine J_iconst dX4_isName_37 (pc' := 38) rfl (v := 0) ic_0 ?_
          refine J_istore_n dX4_isName_38 (pc' := 39) rfl rfl (by decide) rfl (l' := [some (.ref a), some (.int 0), none]) rfl ?_
          refine J_iconst dX4_isName_39 (pc' := 40) rfl (v := 0) ic_0 ?_
          refine J_istore_n dX4_isName_40 (pc' := 41) rfl rfl (by decide) rfl (l' := [some (.ref a), some (.int 0), some (.int 0)]) rfl ?_
          have hlp41 : ∀ i, i ≤ n → ∀ (sl : Bool), (dv_rd (S.2.1 (a + 1)) i).all ch_n = true → sl = (dv_rd (S.2.1 (a + 1)) i).any ch_l → dv_J yX4_isName cX4_isName 3 (some .boolean) (dv_rm (d + 2)) 0 0 41 [some (.ref a), some (.int (dv_b sl)), some (.int (nI i))] [] S (fun r S' => r = some (.int (dv_b (decide (S.1 a 2 = 0) && nm_ok (dv_rd (S.2.1 (a + 1)) n)))) ∧ S' = S) := by
            refine dv_up (P := fun i => ∀ (sl : Bool), (dv_rd (S.2.1 (a + 1)) i).all ch_n = true → sl = (dv_rd (S.2.1 (a + 1)) i).any ch_l → dv_J yX4_isName cX4_isName 3 (some .boolean) (dv_rm (d + 2)) 0 0 41 [some (.ref a), some (.int (dv_b sl)), some (.int (nI i))] [] S (fun r S' => r = some (.int (dv_b (decide (S.1 a 2 = 0) && nm_ok (dv_rd (S.2.1 (a + 1)) n)))) ∧ S' = S)) ?_
            intro i hi41 ih41 sl hal hsl
            refine J_iload_n dX4_isName_41 (pc' := 42) rfl rfl ?_
            refine J_aload_n dX4_isName_42 (pc' := 43) rfl rfl ?_
            refine J_geti fX4_9 ha (dv_rf4_1 ha) dX4_isName_43 (pc' := 46) rfl ?_
            refine J_top (w := .int (nI n)) (by rw [hn]) ?_
            refine J_icmp_ge dX4_isName_46 (pt := 97) (by decide) (pc' := 49) rfl (fun c46 => ?_) (fun c46 => ?_)
            · have hx := dv_ge hi41 (by omega) c46
              refine J_iload_n dX4_isName_97 (pc' := 98) rfl rfl ?_
              refine J_zret dX4_isName_98 rfl (dv_b_01 _) (dv_r1 _) ?_
              refine ⟨?_, rfl⟩
              have h0 := dv_rd_hd (f := S.2.1 (a + 1)) (Nat.pos_of_ne_zero hz)
              have h1 : decide (1 ≤ n ∧ n ≤ 24) = true := decide_eq_true ⟨by omega, by omega⟩
              rw [hx] at hal hsl
              rw [hsl]
              simp only [nm_ok, dv_rd_len, h0, h1, hal, c32, decide_eq_true c4]
              simp
            · have hx := dv_nge hi41 (by omega) c46
              refine J_aload_n dX4_isName_49 (pc' := 50) rfl rfl ?_
              refine J_getr fX4_19 ha (dv_rf4_0 ha) dX4_isName_50 (pc' := 53) rfl ?_
              refine J_iload_n dX4_isName_53 (pc' := 54) rfl rfl ?_
              refine J_iald (j := i) ha1 (rfl) (by omega) dX4_isName_54 (pc' := 55) rfl ?_
              refine J_n1 (As := [.int (S.2.1 (a + 1) i)]) (rest := []) (qX7_isLetter _ _ _) vX7_isLetter nX4_37 dX4_isName_55 (pc' := 58) rfl rfl (Nat.le_of_ble_eq_true rfl) (by decide) ?_
              refine J_beq dX4_isName_58 (pt := 66) (by decide) (pc' := 61) rfl (fun c58 => ?_) (fun c58 => ?_)
              · refine J_aload_n dX4_isName_66 (pc' := 67) rfl rfl ?_
                refine J_getr fX4_19 ha (dv_rf4_0 ha) dX4_isName_67 (pc' := 70) rfl ?_
                refine J_iload_n dX4_isName_70 (pc' := 71) rfl rfl ?_
                refine J_iald (j := i) ha1 (rfl) (by omega) dX4_isName_71 (pc' := 72) rfl ?_
                refine J_n1 (As := [.int (S.2.1 (a + 1) i)]) (rest := []) (qX7_isDigit _ _ _) vX7_isDigit nX4_34 dX4_isName_72 (pc' := 75) rfl rfl (Nat.le_of_ble_eq_true rfl) (by decide) ?_
                refine J_bne dX4_isName_75 (pt := 91) (by decide) (pc' := 78) rfl (fun c75 => ?_) (fun c75 => ?_)
                · refine J_iinc dX4_isName_91 (pc' := 94) rfl rfl (v := nI (i + 1)) (nI_1 i) (by decide) rfl (l' := [some (.ref a), some (.int (dv_b sl)), some (.int (nI (i + 1)))]) rfl ?_
                  refine J_goto dX4_isName_94 (pc' := 41) (by decide) ?_
                  refine J_loc (l' := [some (.ref a), some (.int (dv_b ((dv_rd (S.2.1 (a + 1)) (i + 1)).any ch_l))), some (.int (nI (i + 1)))]) ?_ (ih41 (i + 1) (by omega) (by omega) _ ?_ rfl)
                  · first | (simp only [dv_any_s, c58, Bool.or_true]; rfl) | (simp only [dv_any_s, c58, Bool.or_false, hsl])
                  · first | (simp only [dv_all_s, hal, ch_n, c58, Bool.true_or, Bool.and_self]; done) | (simp only [dv_all_s, hal, ch_n, c75, Bool.true_or, Bool.or_true, Bool.and_self]; done) | (simp only [dv_all_s, hal, ch_n, decide_eq_true c86, Bool.or_true, Bool.and_self]; done)
                · refine J_aload_n dX4_isName_78 (pc' := 79) rfl rfl ?_
                  refine J_getr fX4_19 ha (dv_rf4_0 ha) dX4_isName_79 (pc' := 82) rfl ?_
                  refine J_iload_n dX4_isName_82 (pc' := 83) rfl rfl ?_
                  refine J_iald (j := i) ha1 (rfl) (by omega) dX4_isName_83 (pc' := 84) rfl ?_
                  refine J_bipush dX4_isName_84 (pc' := 86) rfl (v := 95) bp_95 ?_
                  refine J_icmp_eq dX4_isName_86 (pt := 91) (by decide) (pc' := 89) rfl (fun c86 => ?_) (fun c86 => ?_)
                  · refine J_iinc dX4_isName_91 (pc' := 94) rfl rfl (v := nI (i + 1)) (nI_1 i) (by decide) rfl (l' := [some (.ref a), some (.int (dv_b sl)), some (.int (nI (i + 1)))]) rfl ?_
                    refine J_goto dX4_isName_94 (pc' := 41) (by decide) ?_
                    refine J_loc (l' := [some (.ref a), some (.int (dv_b ((dv_rd (S.2.1 (a + 1)) (i + 1)).any ch_l))), some (.int (nI (i + 1)))]) ?_ (ih41 (i + 1) (by omega) (by omega) _ ?_ rfl)
                    · first | (simp only [dv_any_s, c58, Bool.or_true]; rfl) | (simp only [dv_any_s, c58, Bool.or_false, hsl])
                    · first | (simp only [dv_all_s, hal, ch_n, c58, Bool.true_or, Bool.and_self]; done) | (simp only [dv_all_s, hal, ch_n, c75, Bool.true_or, Bool.or_true, Bool.and_self]; done) | (simp only [dv_all_s, hal, ch_n, decide_eq_true c86, Bool.or_true, Bool.and_self]; done)
                  · refine J_iconst dX4_isName_89 (pc' := 90) rfl (v := 0) ic_0 ?_
                    refine J_zret dX4_isName_90 rfl (by decide) (dv_r1 _) ?_
                    refine ⟨?_, rfl⟩
                    have hc : ch_n (S.2.1 (a + 1) i) = false := by simp [ch_n, c58, c75, c86]
                    simp only [nm_ok, dv_all_le hx hc]; simp [dv_b]
              · refine J_iconst dX4_isName_61 (pc' := 62) rfl (v := 1) ic_1 ?_
                refine J_istore_n dX4_isName_62 (pc' := 63) rfl rfl (by decide) rfl (l' := [some (.ref a), some (.int 1), some (.int (nI i))]) rfl ?_
                refine J_goto dX4_isName_63 (pc' := 91) (by decide) ?_
                refine J_iinc dX4_isName_91 (pc' := 94) rfl rfl (v := nI (i + 1)) (nI_1 i) (by decide) rfl (l' := [some (.ref a), some (.int 1), some (.int (nI (i + 1)))]) rfl ?_
                refine J_goto dX4_isName_94 (pc' := 41) (by decide) ?_
                refine J_loc (l' := [some (.ref a), some (.int (dv_b ((dv_rd (S.2.1 (a + 1)) (i + 1)).any ch_l))), some (.int (nI (i + 1)))]) ?_ (ih41 (i + 1) (by omega) (by omega) _ ?_ rfl)
                · first | (simp only [dv_any_s, c58, Bool.or_true]; rfl) | (simp only [dv_any_s, c58, Bool.or_false, hsl])
                · first | (simp only [dv_all_s, hal, ch_n, c58, Bool.true_or, Bool.and_self]; done) | (simp only [dv_all_s, hal, ch_n, c75, Bool.true_or, Bool.or_true, Bool.and_self]; done) | (simp only [dv_all_s, hal, ch_n, decide_eq_true c86, Bool.or_true, Bool.and_self]; done)
          refine J_loc (l' := [some (.ref a), some (.int (dv_b false)), some (.int (nI 0))]) (by simp only [nI_0, dv_b_f, dv_b_t]) ?_
          exact hlp41 0 (Nat.zero_le _) false rfl rfl
        · refine J_iconst dX4_isName_35 (pc' := 36) rfl (v := 0) ic_0 ?_
          refine J_zret dX4_isName_36 rfl (by decide) (dv_r1 _) ?_
          refine ⟨?_, rfl⟩
          first
            | (simp [dv_b, c4]; done)
            | (have h1 : decide (1 ≤ n ∧ n ≤ 24) = false := decide_eq_false (by omega)
               simp only [nm_ok, dv_rd_len, h1]; simp [dv_b]; done)
            | (simp only [nm_ok, dv_rd_hd (f := S.2.1 (a + 1)) (Nat.pos_of_ne_zero hz), c32]; simp [dv_b]; done)
set_option maxRecDepth 100000 in
set_option maxHeartbeats 4000000 in
theorem qX4_isWord (d : Nat) (S : dv_S) (a n : Nat) (ha : dv_kd a = 4) (ha1 : dv_kd (a + 1) = 10) (hn : S.1 a 1 = nI n) (hl : n ≤ dv_ln (a + 1)) : dv_M yX4_isWord cX4_isWord 2 (some .boolean) (dv_rm (d + 1)) [.ref a] S (fun r S' => r = some (.int (dv_b (decide (S.1 a 2 = 0) && wd_ok (dv_rd (S.2.1 (a + 1)) n)))) ∧ S' = S) := by
  have h31 := dv_ln_lt (a + 1)
  have h12 : (12 : Int32) = nI 12 := by decide
  refine dv_M_of [some (.ref a), none] (by decide) (fun _ _ => Nat.le_of_ble_eq_true rfl) (fun _ _ => rfl) ?_
  refine J_aload_n dX4_isWord_0 (pc' := 1) rfl rfl ?_
  refine J_geti fX4_15 ha (dv_rf4_2 ha) dX4_isWord_1 (pc' := 4) rfl ?_
  refine J_if_ne dX4_isWord_4 (pt := 23) (by decide) (pc' := 7) rfl (fun c4 => ?_) (fun c4 => ?_)
  · refine J_iconst dX4_isWord_23 (pc' := 24) rfl (v := 0) ic_0 ?_
    refine J_zret dX4_isWord_24 rfl (by decide) (dv_r1 _) ?_
    refine ⟨?_, rfl⟩
    first
      | (simp [dv_b, c4]; done)
      | (have h1 : decide (1 ≤ n ∧ n ≤ 12) = false := decide_eq_false (by omega)
         simp only [wd_ok, dv_rd_len, h1]; simp [dv_b]; done)
  · refine J_aload_n dX4_isWord_7 (pc' := 8) rfl rfl ?_
    refine J_geti fX4_9 ha (dv_rf4_1 ha) dX4_isWord_8 (pc' := 11) rfl ?_
    refine J_top (w := .int (nI n)) (by rw [hn]) ?_
    refine J_if_eq dX4_isWord_11 (pt := 23) (by decide) (pc' := 14) rfl (fun c11 => ?_) (fun c11 => ?_)
    · have hz : n = 0 := by rw [← nI_0, nI_eq (by omega) (by omega)] at c11; exact c11
      refine J_iconst dX4_isWord_23 (pc' := 24) rfl (v := 0) ic_0 ?_
      refine J_zret dX4_isWord_24 rfl (by decide) (dv_r1 _) ?_
      refine ⟨?_, rfl⟩
      first
        | (simp [dv_b, c4]; done)
        | (have h1 : decide (1 ≤ n ∧ n ≤ 12) = false := decide_eq_false (by omega)
           simp only [wd_ok, dv_rd_len, h1]; simp [dv_b]; done)
    · have hz : n ≠ 0 := fun q => c11 (by rw [q, nI_0])
      refine J_aload_n dX4_isWord_14 (pc' := 15) rfl rfl ?_
      refine J_geti fX4_9 ha (dv_rf4_1 ha) dX4_isWord_15 (pc' := 18) rfl ?_
      refine J_bipush dX4_isWord_18 (pc' := 20) rfl (v := 12) bp_12 ?_
      refine J_icmp_le dX4_isWord_20 (pt := 25) (by decide) (pc' := 23) rfl (fun c20 => ?_) (fun c20 => ?_)
      · rw [hn, h12, nI_leI (by omega) (by omega)] at c20
        refine J_iconst dX4_isWord_25 (pc' := 26) rfl (v := 0) ic_0 ?_
        refine J_istore_n dX4_isWord_26 (pc' := 27) rfl rfl (by decide) rfl (l' := [some (.ref a), some (.int 0)]) rfl ?_
        have hlp27 : ∀ i, i ≤ n → (dv_rd (S.2.1 (a + 1)) i).all ch_s = true → dv_J yX4_isWord cX4_isWord 2 (some .boolean) (dv_rm (d + 1)) 0 0 27 [some (.ref a), some (.int (nI i))] [] S (fun r S' => r = some (.int (dv_b (decide (S.1 a 2 = 0) && wd_ok (dv_rd (S.2.1 (a + 1)) n)))) ∧ S' = S) := by
          refine dv_up (P := fun i => (dv_rd (S.2.1 (a + 1)) i).all ch_s = true → dv_J yX4_isWord cX4_isWord 2 (some .boolean) (dv_rm (d + 1)) 0 0 27 [some (.ref a), some (.int (nI i))] [] S (fun r S' => r = some (.int (dv_b (decide (S.1 a 2 = 0) && wd_ok (dv_rd (S.2.1 (a + 1)) n)))) ∧ S' = S)) ?_
          intro i hi27 ih27 hal
          refine J_iload_n dX4_isWord_27 (pc' := 28) rfl rfl ?_
          refine J_aload_n dX4_isWord_28 (pc' := 29) rfl rfl ?_
          refine J_geti fX4_9 ha (dv_rf4_1 ha) dX4_isWord_29 (pc' := 32) rfl ?_
          refine J_top (w := .int (nI n)) (by rw [hn]) ?_
          refine J_icmp_ge dX4_isWord_32 (pt := 55) (by decide) (pc' := 35) rfl (fun c32 => ?_) (fun c32 => ?_)
          · have hx := dv_ge hi27 (by omega) c32
            refine J_iconst dX4_isWord_55 (pc' := 56) rfl (v := 1) ic_1 ?_
            refine J_zret dX4_isWord_56 rfl (by decide) (dv_r1 _) ?_
            refine ⟨?_, rfl⟩
            have h1 : decide (1 ≤ n ∧ n ≤ 12) = true := decide_eq_true ⟨by omega, by omega⟩
            rw [hx] at hal
            simp only [wd_ok, dv_rd_len, h1, hal, decide_eq_true c4]
            simp [dv_b]
          · have hx := dv_nge hi27 (by omega) c32
            refine J_aload_n dX4_isWord_35 (pc' := 36) rfl rfl ?_
            refine J_getr fX4_19 ha (dv_rf4_0 ha) dX4_isWord_36 (pc' := 39) rfl ?_
            refine J_iload_n dX4_isWord_39 (pc' := 40) rfl rfl ?_
            refine J_iald (j := i) ha1 (rfl) (by omega) dX4_isWord_40 (pc' := 41) rfl ?_
            refine J_n1 (As := [.int (S.2.1 (a + 1) i)]) (rest := []) (qX7_isSmall _ _ _) vX7_isSmall nX4_40 dX4_isWord_41 (pc' := 44) rfl rfl (Nat.le_of_ble_eq_true rfl) (by decide) ?_
            refine J_bne dX4_isWord_44 (pt := 49) (by decide) (pc' := 47) rfl (fun c44 => ?_) (fun c44 => ?_)
            · refine J_iinc dX4_isWord_49 (pc' := 52) rfl rfl (v := nI (i + 1)) (nI_1 i) (by decide) rfl (l' := [some (.ref a), some (.int (nI (i + 1)))]) rfl ?_
              refine J_goto dX4_isWord_52 (pc' := 27) (by decide) ?_
              exact ih27 (i + 1) (by omega) (by omega) (by simp only [dv_all_s, hal, c44, Bool.and_self])
            · refine J_iconst dX4_isWord_47 (pc' := 48) rfl (v := 0) ic_0 ?_
              refine J_zret dX4_isWord_48 rfl (by decide) (dv_r1 _) ?_
              refine ⟨?_, rfl⟩
              simp only [wd_ok, dv_all_le hx c44]; simp [dv_b]
        refine J_loc (l' := [some (.ref a), some (.int (nI 0))]) (by simp only [nI_0, dv_b_f, dv_b_t]) ?_
        exact hlp27 0 (Nat.zero_le _) rfl
      · rw [hn, h12, nI_leI (by omega) (by omega)] at c20
        refine J_iconst dX4_isWord_23 (pc' := 24) rfl (v := 0) ic_0 ?_
        refine J_zret dX4_isWord_24 rfl (by decide) (dv_r1 _) ?_
        refine ⟨?_, rfl⟩
        first
          | (simp [dv_b, c4]; done)
          | (have h1 : decide (1 ≤ n ∧ n ≤ 12) = false := decide_eq_false (by omega)
             simp only [wd_ok, dv_rd_len, h1]; simp [dv_b]; done)
set_option maxRecDepth 100000 in
set_option maxHeartbeats 4000000 in
theorem qX4_style (d : Nat) (S : dv_S) (a n : Nat) (ha : dv_kd a = 4) (ha1 : dv_kd (a + 1) = 10) (hn : S.1 a 1 = nI n) (hl : n ≤ dv_ln (a + 1)) : dv_M yX4_style cX4_style 7 (some .int) (dv_rm (d + 1)) [.ref a] S (fun r S' => r = some (.int (st_of (dv_rd (S.2.1 (a + 1)) n))) ∧ S' = S) := by
  have h31 := dv_ln_lt (a + 1)
  refine dv_M_of [some (.ref a), none, none, none, none, none, none] (by decide) (fun _ _ => Nat.le_of_ble_eq_true rfl) (fun _ _ => rfl) ?_
  refine J_iconst dX4_style_0 (pc' := 1) rfl (v := 0) ic_0 ?_
  refine J_istore_n dX4_style_1 (pc' := 2) rfl rfl (by decide) rfl (l' := [some (.ref a), some (.int 0), none, none, none, none, none]) rfl ?_
  refine J_iconst dX4_style_2 (pc' := 3) rfl (v := 0) ic_0 ?_
  refine J_istore_n dX4_style_3 (pc' := 4) rfl rfl (by decide) rfl (l' := [some (.ref a), some (.int 0), some (.int 0), none, none, none, none]) rfl ?_
  refine J_iconst dX4_style_4 (pc' := 5) rfl (v := 0) ic_0 ?_
  refine J_istore_n dX4_style_5 (pc' := 6) rfl rfl (by decide) rfl (l' := [some (.ref a), some (.int 0), some (.int 0), some (.int 0), none, none, none]) rfl ?_
  refine J_iconst dX4_style_6 (pc' := 7) rfl (v := 0) ic_0 ?_
  refine J_istore dX4_style_7 (pc' := 9) rfl (by decide) rfl (l' := [some (.ref a), some (.int 0), some (.int 0), some (.int 0), some (.int 0), none, none]) rfl ?_
  refine J_iconst dX4_style_9 (pc' := 10) rfl (v := 0) ic_0 ?_
  refine J_istore dX4_style_10 (pc' := 12) rfl (by decide) rfl (l' := [some (.ref a), some (.int 0), some (.int 0), some (.int 0), some (.int 0), some (.int 0), none]) rfl ?_
  have hlp12 : ∀ i, i ≤ n → ∀ (lw gr sm gf : Bool), lw = (dv_rd (S.2.1 (a + 1)) i).any (fun x => decide (x = 95)) → gr = (dv_rd (S.2.1 (a + 1)) i).any ch_g → sm = (dv_rd (S.2.1 (a + 1)) i).any ch_s → gf = st_gf (dv_rd (S.2.1 (a + 1)) i) → dv_J yX4_style cX4_style 7 (some .int) (dv_rm (d + 1)) 0 0 12 [some (.ref a), some (.int (dv_b lw)), some (.int (dv_b gr)), some (.int (dv_b sm)), some (.int (dv_b gf)), some (.int (nI i)), none] [] S (fun r S' => r = some (.int (st_of (dv_rd (S.2.1 (a + 1)) n))) ∧ S' = S) := by
    refine dv_up (P := fun i => ∀ (lw gr sm gf : Bool), lw = (dv_rd (S.2.1 (a + 1)) i).any (fun x => decide (x = 95)) → gr = (dv_rd (S.2.1 (a + 1)) i).any ch_g → sm = (dv_rd (S.2.1 (a + 1)) i).any ch_s → gf = st_gf (dv_rd (S.2.1 (a + 1)) i) → dv_J yX4_style cX4_style 7 (some .int) (dv_rm (d + 1)) 0 0 12 [some (.ref a), some (.int (dv_b lw)), some (.int (dv_b gr)), some (.int (dv_b sm)), some (.int (dv_b gf)), some (.int (nI i)), none] [] S (fun r S' => r = some (.int (st_of (dv_rd (S.2.1 (a + 1)) n))) ∧ S' = S)) ?_
    intro i hi12 ih12 lw gr sm gf h1 h2 h3 h4
    refine J_iload dX4_style_12 (pc' := 14) rfl rfl ?_
    refine J_aload_n dX4_style_14 (pc' := 15) rfl rfl ?_
    refine J_geti fX4_9 ha (dv_rf4_1 ha) dX4_style_15 (pc' := 18) rfl ?_
    refine J_top (w := .int (nI n)) (by rw [hn]) ?_
    refine J_icmp_ge dX4_style_18 (pt := 113) (by decide) (pc' := 21) rfl (fun c18 => ?_) (fun c18 => ?_)
    · have hx := dv_ge hi12 (by omega) c18
      refine J_iload_n dX4_style_113 (pc' := 114) rfl rfl ?_
      refine J_beq dX4_style_114 (pt := 123) (by decide) (pc' := 117) rfl (fun c114 => ?_) (fun c114 => ?_)
      · refine J_iload_n dX4_style_123 (pc' := 124) rfl rfl ?_
        refine J_beq dX4_style_124 (pt := 133) (by decide) (pc' := 127) rfl (fun c124 => ?_) (fun c124 => ?_)
        · refine J_iload dX4_style_133 (pc' := 135) rfl rfl ?_
          refine J_beq dX4_style_135 (pt := 142) (by decide) (pc' := 138) rfl (fun c135 => ?_) (fun c135 => ?_)
          · refine J_iconst dX4_style_142 (pc' := 143) rfl (v := 0) ic_0 ?_
            refine J_iret dX4_style_143 rfl (dv_r1 _) ?_
            refine ⟨?_, rfl⟩
            rw [hx] at h1 h2 h3 h4
            simp only [st_of, ← h1, ← h2, ← h3, ← h4]
            clear ih12 h1 h2 h3 h4
            simp_all
          · refine J_iconst dX4_style_138 (pc' := 139) rfl (v := 1) ic_1 ?_
            refine J_goto dX4_style_139 (pc' := 143) (by decide) ?_
            refine J_iret dX4_style_143 rfl (dv_r1 _) ?_
            refine ⟨?_, rfl⟩
            rw [hx] at h1 h2 h3 h4
            simp only [st_of, ← h1, ← h2, ← h3, ← h4]
            clear ih12 h1 h2 h3 h4
            simp_all
        · refine J_iload_n dX4_style_127 (pc' := 128) rfl rfl ?_
          refine J_bne dX4_style_128 (pt := 133) (by decide) (pc' := 131) rfl (fun c128 => ?_) (fun c128 => ?_)
          · refine J_iload dX4_style_133 (pc' := 135) rfl rfl ?_
            refine J_beq dX4_style_135 (pt := 142) (by decide) (pc' := 138) rfl (fun c135 => ?_) (fun c135 => ?_)
            · refine J_iconst dX4_style_142 (pc' := 143) rfl (v := 0) ic_0 ?_
              refine J_iret dX4_style_143 rfl (dv_r1 _) ?_
              refine ⟨?_, rfl⟩
              rw [hx] at h1 h2 h3 h4
              simp only [st_of, ← h1, ← h2, ← h3, ← h4]
              clear ih12 h1 h2 h3 h4
              simp_all
            · refine J_iconst dX4_style_138 (pc' := 139) rfl (v := 1) ic_1 ?_
              refine J_goto dX4_style_139 (pc' := 143) (by decide) ?_
              refine J_iret dX4_style_143 rfl (dv_r1 _) ?_
              refine ⟨?_, rfl⟩
              rw [hx] at h1 h2 h3 h4
              simp only [st_of, ← h1, ← h2, ← h3, ← h4]
              clear ih12 h1 h2 h3 h4
              simp_all
          · refine J_iconst dX4_style_131 (pc' := 132) rfl (v := 3) ic_3 ?_
            refine J_iret dX4_style_132 rfl (dv_r1 _) ?_
            refine ⟨?_, rfl⟩
            rw [hx] at h1 h2 h3 h4
            simp only [st_of, ← h1, ← h2, ← h3, ← h4]
            clear ih12 h1 h2 h3 h4
            simp_all
      · refine J_iload_n dX4_style_117 (pc' := 118) rfl rfl ?_
        refine J_bne dX4_style_118 (pt := 123) (by decide) (pc' := 121) rfl (fun c118 => ?_) (fun c118 => ?_)
        · refine J_iload_n dX4_style_123 (pc' := 124) rfl rfl ?_
          refine J_beq dX4_style_124 (pt := 133) (by decide) (pc' := 127) rfl (fun c124 => ?_) (fun c124 => ?_)
          · refine J_iload dX4_style_133 (pc' := 135) rfl rfl ?_
            refine J_beq dX4_style_135 (pt := 142) (by decide) (pc' := 138) rfl (fun c135 => ?_) (fun c135 => ?_)
            · refine J_iconst dX4_style_142 (pc' := 143) rfl (v := 0) ic_0 ?_
              refine J_iret dX4_style_143 rfl (dv_r1 _) ?_
              refine ⟨?_, rfl⟩
              rw [hx] at h1 h2 h3 h4
              simp only [st_of, ← h1, ← h2, ← h3, ← h4]
              clear ih12 h1 h2 h3 h4
              simp_all
            · refine J_iconst dX4_style_138 (pc' := 139) rfl (v := 1) ic_1 ?_
              refine J_goto dX4_style_139 (pc' := 143) (by decide) ?_
              refine J_iret dX4_style_143 rfl (dv_r1 _) ?_
              refine ⟨?_, rfl⟩
              rw [hx] at h1 h2 h3 h4
              simp only [st_of, ← h1, ← h2, ← h3, ← h4]
              clear ih12 h1 h2 h3 h4
              simp_all
          · refine J_iload_n dX4_style_127 (pc' := 128) rfl rfl ?_
            refine J_bne dX4_style_128 (pt := 133) (by decide) (pc' := 131) rfl (fun c128 => ?_) (fun c128 => ?_)
            · refine J_iload dX4_style_133 (pc' := 135) rfl rfl ?_
              refine J_beq dX4_style_135 (pt := 142) (by decide) (pc' := 138) rfl (fun c135 => ?_) (fun c135 => ?_)
              · refine J_iconst dX4_style_142 (pc' := 143) rfl (v := 0) ic_0 ?_
                refine J_iret dX4_style_143 rfl (dv_r1 _) ?_
                refine ⟨?_, rfl⟩
                rw [hx] at h1 h2 h3 h4
                simp only [st_of, ← h1, ← h2, ← h3, ← h4]
                clear ih12 h1 h2 h3 h4
                simp_all
              · refine J_iconst dX4_style_138 (pc' := 139) rfl (v := 1) ic_1 ?_
                refine J_goto dX4_style_139 (pc' := 143) (by decide) ?_
                refine J_iret dX4_style_143 rfl (dv_r1 _) ?_
                refine ⟨?_, rfl⟩
                rw [hx] at h1 h2 h3 h4
                simp only [st_of, ← h1, ← h2, ← h3, ← h4]
                clear ih12 h1 h2 h3 h4
                simp_all
            · refine J_iconst dX4_style_131 (pc' := 132) rfl (v := 3) ic_3 ?_
              refine J_iret dX4_style_132 rfl (dv_r1 _) ?_
              refine ⟨?_, rfl⟩
              rw [hx] at h1 h2 h3 h4
              simp only [st_of, ← h1, ← h2, ← h3, ← h4]
              clear ih12 h1 h2 h3 h4
              simp_all
        · refine J_iconst dX4_style_121 (pc' := 122) rfl (v := 2) ic_2 ?_
          refine J_iret dX4_style_122 rfl (dv_r1 _) ?_
          refine ⟨?_, rfl⟩
          rw [hx] at h1 h2 h3 h4
          simp only [st_of, ← h1, ← h2, ← h3, ← h4]
          clear ih12 h1 h2 h3 h4
          simp_all
    · have hx := dv_nge hi12 (by omega) c18
      refine J_aload_n dX4_style_21 (pc' := 22) rfl rfl ?_
      refine J_getr fX4_19 ha (dv_rf4_0 ha) dX4_style_22 (pc' := 25) rfl ?_
      refine J_iload dX4_style_25 (pc' := 27) rfl rfl ?_
      refine J_iald (j := i) ha1 (rfl) (by omega) dX4_style_27 (pc' := 28) rfl ?_
      refine J_istore dX4_style_28 (pc' := 30) rfl (by decide) rfl (l' := [some (.ref a), some (.int (dv_b lw)), some (.int (dv_b gr)), some (.int (dv_b sm)), some (.int (dv_b gf)), some (.int (nI i)), some (.int (S.2.1 (a + 1) i))]) rfl ?_
      have hj52 : ∀ v : Int32, (dv_b (gf || (ch_g (S.2.1 (a + 1) i) && !sm))) = v → dv_J yX4_style cX4_style 7 (some .int) (dv_rm (d + 1)) 0 0 52 [some (.ref a), some (.int (dv_b lw)), some (.int (dv_b gr)), some (.int (dv_b sm)), some (.int (dv_b gf)), some (.int (nI i)), some (.int (S.2.1 (a + 1) i))] [.int v] S (fun r S' => r = some (.int (st_of (dv_rd (S.2.1 (a + 1)) n))) ∧ S' = S) := by
        intro v hv
        subst hv
        refine J_istore dX4_style_52 (pc' := 54) rfl (by decide) rfl (l' := [some (.ref a), some (.int (dv_b lw)), some (.int (dv_b gr)), some (.int (dv_b sm)), some (.int (dv_b (gf || (ch_g (S.2.1 (a + 1) i) && !sm)))), some (.int (nI i)), some (.int (S.2.1 (a + 1) i))]) rfl ?_
        have hj70 : ∀ v : Int32, (dv_b (lw || decide (S.2.1 (a + 1) i = 95))) = v → dv_J yX4_style cX4_style 7 (some .int) (dv_rm (d + 1)) 0 0 70 [some (.ref a), some (.int (dv_b lw)), some (.int (dv_b gr)), some (.int (dv_b sm)), some (.int (dv_b (gf || (ch_g (S.2.1 (a + 1) i) && !sm)))), some (.int (nI i)), some (.int (S.2.1 (a + 1) i))] [.int v] S (fun r S' => r = some (.int (st_of (dv_rd (S.2.1 (a + 1)) n))) ∧ S' = S) := by
          intro v hv
          subst hv
          refine J_istore_n dX4_style_70 (pc' := 71) rfl rfl (by decide) rfl (l' := [some (.ref a), some (.int (dv_b (lw || decide (S.2.1 (a + 1) i = 95)))), some (.int (dv_b gr)), some (.int (dv_b sm)), some (.int (dv_b (gf || (ch_g (S.2.1 (a + 1) i) && !sm)))), some (.int (nI i)), some (.int (S.2.1 (a + 1) i))]) rfl ?_
          have hj88 : ∀ v : Int32, (dv_b (gr || ch_g (S.2.1 (a + 1) i))) = v → dv_J yX4_style cX4_style 7 (some .int) (dv_rm (d + 1)) 0 0 88 [some (.ref a), some (.int (dv_b (lw || decide (S.2.1 (a + 1) i = 95)))), some (.int (dv_b gr)), some (.int (dv_b sm)), some (.int (dv_b (gf || (ch_g (S.2.1 (a + 1) i) && !sm)))), some (.int (nI i)), some (.int (S.2.1 (a + 1) i))] [.int v] S (fun r S' => r = some (.int (st_of (dv_rd (S.2.1 (a + 1)) n))) ∧ S' = S) := by
            intro v hv
            subst hv
            refine J_istore_n dX4_style_88 (pc' := 89) rfl rfl (by decide) rfl (l' := [some (.ref a), some (.int (dv_b (lw || decide (S.2.1 (a + 1) i = 95)))), some (.int (dv_b (gr || ch_g (S.2.1 (a + 1) i)))), some (.int (dv_b sm)), some (.int (dv_b (gf || (ch_g (S.2.1 (a + 1) i) && !sm)))), some (.int (nI i)), some (.int (S.2.1 (a + 1) i))]) rfl ?_
            have hj106 : ∀ v : Int32, (dv_b (sm || ch_s (S.2.1 (a + 1) i))) = v → dv_J yX4_style cX4_style 7 (some .int) (dv_rm (d + 1)) 0 0 106 [some (.ref a), some (.int (dv_b (lw || decide (S.2.1 (a + 1) i = 95)))), some (.int (dv_b (gr || ch_g (S.2.1 (a + 1) i)))), some (.int (dv_b sm)), some (.int (dv_b (gf || (ch_g (S.2.1 (a + 1) i) && !sm)))), some (.int (nI i)), some (.int (S.2.1 (a + 1) i))] [.int v] S (fun r S' => r = some (.int (st_of (dv_rd (S.2.1 (a + 1)) n))) ∧ S' = S) := by
              intro v hv
              subst hv
              refine J_istore_n dX4_style_106 (pc' := 107) rfl rfl (by decide) rfl (l' := [some (.ref a), some (.int (dv_b (lw || decide (S.2.1 (a + 1) i = 95)))), some (.int (dv_b (gr || ch_g (S.2.1 (a + 1) i)))), some (.int (dv_b (sm || ch_s (S.2.1 (a + 1) i)))), some (.int (dv_b (gf || (ch_g (S.2.1 (a + 1) i) && !sm)))), some (.int (nI i)), some (.int (S.2.1 (a + 1) i))]) rfl ?_
              refine J_iinc dX4_style_107 (pc' := 110) rfl rfl (v := nI (i + 1)) (nI_1 i) (by decide) rfl (l' := [some (.ref a), some (.int (dv_b (lw || decide (S.2.1 (a + 1) i = 95)))), some (.int (dv_b (gr || ch_g (S.2.1 (a + 1) i)))), some (.int (dv_b (sm || ch_s (S.2.1 (a + 1) i)))), some (.int (dv_b (gf || (ch_g (S.2.1 (a + 1) i) && !sm)))), some (.int (nI (i + 1))), some (.int (S.2.1 (a + 1) i))]) rfl ?_
              refine J_goto dX4_style_110 (pc' := 12) (by decide) ?_
              refine J_drop 6 (l' := [some (.ref a), some (.int (dv_b (lw || decide (S.2.1 (a + 1) i = 95)))), some (.int (dv_b (gr || ch_g (S.2.1 (a + 1) i)))), some (.int (dv_b (sm || ch_s (S.2.1 (a + 1) i)))), some (.int (dv_b (gf || (ch_g (S.2.1 (a + 1) i) && !sm)))), some (.int (nI (i + 1))), none]) rfl ?_
              refine ih12 (i + 1) (by omega) (by omega) _ _ _ _ ?_ ?_ ?_ ?_
              · simp only [dv_any_s, h1]
              · simp only [dv_any_s, h2]
              · simp only [dv_any_s, h3]
              · simp only [dv_rd_s, st_gf_s, h4, h3]
            refine J_iload_n dX4_style_89 (pc' := 90) rfl rfl ?_
            refine J_bne dX4_style_90 (pt := 101) (by decide) (pc' := 93) rfl (fun c90 => ?_) (fun c90 => ?_)
            · refine J_iconst dX4_style_101 (pc' := 102) rfl (v := 1) ic_1 ?_
              refine J_goto dX4_style_102 (pc' := 106) (by decide) ?_
              exact hj106 _ (by clear ih12 h1 h2 h3 h4; simp_all [dv_b])
            · refine J_iload dX4_style_93 (pc' := 95) rfl rfl ?_
              refine J_n1 (As := [.int (S.2.1 (a + 1) i)]) (rest := []) (qX7_isSmall _ _ _) vX7_isSmall nX4_40 dX4_style_95 (pc' := 98) rfl rfl (Nat.le_of_ble_eq_true rfl) (by decide) ?_
              refine J_beq dX4_style_98 (pt := 105) (by decide) (pc' := 101) rfl (fun c98 => ?_) (fun c98 => ?_)
              · refine J_iconst dX4_style_105 (pc' := 106) rfl (v := 0) ic_0 ?_
                exact hj106 _ (by clear ih12 h1 h2 h3 h4; simp_all [dv_b])
              · refine J_iconst dX4_style_101 (pc' := 102) rfl (v := 1) ic_1 ?_
                refine J_goto dX4_style_102 (pc' := 106) (by decide) ?_
                exact hj106 _ (by clear ih12 h1 h2 h3 h4; simp_all [dv_b])
          refine J_iload_n dX4_style_71 (pc' := 72) rfl rfl ?_
          refine J_bne dX4_style_72 (pt := 83) (by decide) (pc' := 75) rfl (fun c72 => ?_) (fun c72 => ?_)
          · refine J_iconst dX4_style_83 (pc' := 84) rfl (v := 1) ic_1 ?_
            refine J_goto dX4_style_84 (pc' := 88) (by decide) ?_
            exact hj88 _ (by clear ih12 h1 h2 h3 h4; simp_all [dv_b])
          · refine J_iload dX4_style_75 (pc' := 77) rfl rfl ?_
            refine J_n1 (As := [.int (S.2.1 (a + 1) i)]) (rest := []) (qX7_isGreat _ _ _) vX7_isGreat nX4_43 dX4_style_77 (pc' := 80) rfl rfl (Nat.le_of_ble_eq_true rfl) (by decide) ?_
            refine J_beq dX4_style_80 (pt := 87) (by decide) (pc' := 83) rfl (fun c80 => ?_) (fun c80 => ?_)
            · refine J_iconst dX4_style_87 (pc' := 88) rfl (v := 0) ic_0 ?_
              exact hj88 _ (by clear ih12 h1 h2 h3 h4; simp_all [dv_b])
            · refine J_iconst dX4_style_83 (pc' := 84) rfl (v := 1) ic_1 ?_
              refine J_goto dX4_style_84 (pc' := 88) (by decide) ?_
              exact hj88 _ (by clear ih12 h1 h2 h3 h4; simp_all [dv_b])
        refine J_iload_n dX4_style_54 (pc' := 55) rfl rfl ?_
        refine J_bne dX4_style_55 (pt := 65) (by decide) (pc' := 58) rfl (fun c55 => ?_) (fun c55 => ?_)
        · refine J_iconst dX4_style_65 (pc' := 66) rfl (v := 1) ic_1 ?_
          refine J_goto dX4_style_66 (pc' := 70) (by decide) ?_
          exact hj70 _ (by clear ih12 h1 h2 h3 h4; simp_all [dv_b])
        · refine J_iload dX4_style_58 (pc' := 60) rfl rfl ?_
          refine J_bipush dX4_style_60 (pc' := 62) rfl (v := 95) bp_95 ?_
          refine J_icmp_ne dX4_style_62 (pt := 69) (by decide) (pc' := 65) rfl (fun c62 => ?_) (fun c62 => ?_)
          · refine J_iconst dX4_style_69 (pc' := 70) rfl (v := 0) ic_0 ?_
            exact hj70 _ (by clear ih12 h1 h2 h3 h4; simp_all [dv_b])
          · refine J_iconst dX4_style_65 (pc' := 66) rfl (v := 1) ic_1 ?_
            refine J_goto dX4_style_66 (pc' := 70) (by decide) ?_
            exact hj70 _ (by clear ih12 h1 h2 h3 h4; simp_all [dv_b])
      refine J_iload dX4_style_30 (pc' := 32) rfl rfl ?_
      refine J_bne dX4_style_32 (pt := 47) (by decide) (pc' := 35) rfl (fun c32 => ?_) (fun c32 => ?_)
      · refine J_iconst dX4_style_47 (pc' := 48) rfl (v := 1) ic_1 ?_
        refine J_goto dX4_style_48 (pc' := 52) (by decide) ?_
        exact hj52 _ (by clear ih12 h1 h2 h3 h4; simp_all [dv_b])
      · refine J_iload dX4_style_35 (pc' := 37) rfl rfl ?_
        refine J_n1 (As := [.int (S.2.1 (a + 1) i)]) (rest := []) (qX7_isGreat _ _ _) vX7_isGreat nX4_43 dX4_style_37 (pc' := 40) rfl rfl (Nat.le_of_ble_eq_true rfl) (by decide) ?_
        refine J_beq dX4_style_40 (pt := 51) (by decide) (pc' := 43) rfl (fun c40 => ?_) (fun c40 => ?_)
        · refine J_iconst dX4_style_51 (pc' := 52) rfl (v := 0) ic_0 ?_
          exact hj52 _ (by clear ih12 h1 h2 h3 h4; simp_all [dv_b])
        · refine J_iload_n dX4_style_43 (pc' := 44) rfl rfl ?_
          refine J_bne dX4_style_44 (pt := 51) (by decide) (pc' := 47) rfl (fun c44 => ?_) (fun c44 => ?_)
          · refine J_iconst dX4_style_51 (pc' := 52) rfl (v := 0) ic_0 ?_
            exact hj52 _ (by clear ih12 h1 h2 h3 h4; simp_all [dv_b])
          · refine J_iconst dX4_style_47 (pc' := 48) rfl (v := 1) ic_1 ?_
            refine J_goto dX4_style_48 (pc' := 52) (by decide) ?_
            exact hj52 _ (by clear ih12 h1 h2 h3 h4; simp_all [dv_b])
  refine J_loc (l' := [some (.ref a), some (.int (dv_b false)), some (.int (dv_b false)), some (.int (dv_b false)), some (.int (dv_b false)), some (.int (nI 0)), none]) (by simp only [nI_0, dv_b_f, dv_b_t]) ?_
  exact hlp12 0 (Nat.zero_le _) false false false false rfl rfl rfl rfl
end

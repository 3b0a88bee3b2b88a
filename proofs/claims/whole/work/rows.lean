section
-- ===== PART A: goes FIRST, ahead of the names: the tables' words, and 'selects' of the private methods out of them =====
/-- a private method of a class that the tables say can be made, by its rows of tables_1 -/
def lw_okq (q : MethodName × Nat) : Prop := (q.1.cls ≠ "java/lang/invoke/MethodHandle" ∧ q.1.cls ≠ "java/lang/invoke/VarHandle") ∧ Cond.instantiable q.1.cls q.2 ∈ tables_1 ∧ Cond.privateMethod q.1 ∈ tables_1 ∧ Cond.instanceMethod q.1 ∈ tables_1
theorem lw_p0 : lw_okq (⟨"AbbeyLedgers$Versions", "addChild", "(II)I"⟩, 5) := ⟨⟨by decide +kernel, by decide +kernel⟩, List.mem_of_getElem? (i := 44) (by decide +kernel), List.mem_of_getElem? (i := 303) (by decide +kernel), List.mem_of_getElem? (i := 304) (by decide +kernel)⟩
theorem lw_p1 : lw_okq (⟨"AbbeyLedgers$Versions", "makePage", "(III)V"⟩, 5) := ⟨⟨by decide +kernel, by decide +kernel⟩, List.mem_of_getElem? (i := 44) (by decide +kernel), List.mem_of_getElem? (i := 308) (by decide +kernel), List.mem_of_getElem? (i := 309) (by decide +kernel)⟩
theorem lw_p2 : lw_okq (⟨"AbbeyLedgers$Versions", "totalOfHalves", "(II)I"⟩, 5) := ⟨⟨by decide +kernel, by decide +kernel⟩, List.mem_of_getElem? (i := 44) (by decide +kernel), List.mem_of_getElem? (i := 320) (by decide +kernel), List.mem_of_getElem? (i := 321) (by decide +kernel)⟩
theorem lw_p3 : lw_okq (⟨"AbbeyLedgers", "settled", "(I)I"⟩, 10) := ⟨⟨by decide +kernel, by decide +kernel⟩, List.mem_of_getElem? (i := 24) (by decide +kernel), List.mem_of_getElem? (i := 329) (by decide +kernel), List.mem_of_getElem? (i := 330) (by decide +kernel)⟩
theorem lw_p4 : lw_okq (⟨"java/lang/Throwable", "fillInStackTrace", "(I)Ljava/lang/Throwable;"⟩, 6) := ⟨⟨by decide +kernel, by decide +kernel⟩, List.mem_of_getElem? (i := 385) (by decide +kernel), List.mem_of_getElem? (i := 383) (by decide +kernel), List.mem_of_getElem? (i := 384) (by decide +kernel)⟩
theorem lw_p5 : lw_okq (⟨"AbbeyLedgers$Versions", "takePage", "(III)V"⟩, 5) := ⟨⟨by decide +kernel, by decide +kernel⟩, List.mem_of_getElem? (i := 44) (by decide +kernel), List.mem_of_getElem? (i := 445) (by decide +kernel), List.mem_of_getElem? (i := 446) (by decide +kernel)⟩
theorem lw_p6 : lw_okq (⟨"AbbeyLedgers", "checkVersion", "(I)V"⟩, 10) := ⟨⟨by decide +kernel, by decide +kernel⟩, List.mem_of_getElem? (i := 24) (by decide +kernel), List.mem_of_getElem? (i := 531) (by decide +kernel), List.mem_of_getElem? (i := 532) (by decide +kernel)⟩
theorem lw_p7 : lw_okq (⟨"AbbeyLedgers$Versions", "versionsAheadOf", "(I)I"⟩, 5) := ⟨⟨by decide +kernel, by decide +kernel⟩, List.mem_of_getElem? (i := 44) (by decide +kernel), List.mem_of_getElem? (i := 762) (by decide +kernel), List.mem_of_getElem? (i := 763) (by decide +kernel)⟩
theorem lw_p8 : lw_okq (⟨"AbbeyLedgers$Versions", "pagesOfOthersMadeBy", "(I)I"⟩, 5) := ⟨⟨by decide +kernel, by decide +kernel⟩, List.mem_of_getElem? (i := 44) (by decide +kernel), List.mem_of_getElem? (i := 779) (by decide +kernel), List.mem_of_getElem? (i := 780) (by decide +kernel)⟩
theorem lw_p9 : lw_okq (⟨"AbbeyLedgers$Draft", "signAhead", "()C"⟩, 5) := ⟨⟨by decide +kernel, by decide +kernel⟩, List.mem_of_getElem? (i := 137) (by decide +kernel), List.mem_of_getElem? (i := 840) (by decide +kernel), List.mem_of_getElem? (i := 841) (by decide +kernel)⟩
theorem lw_p10 : lw_okq (⟨"AbbeyLedgers$Draft", "readNumber", "(II)Z"⟩, 5) := ⟨⟨by decide +kernel, by decide +kernel⟩, List.mem_of_getElem? (i := 137) (by decide +kernel), List.mem_of_getElem? (i := 908) (by decide +kernel), List.mem_of_getElem? (i := 909) (by decide +kernel)⟩
theorem lw_p11 : lw_okq (⟨"AbbeyLedgersModel", "refuses", "(II)I"⟩, 22) := ⟨⟨by decide +kernel, by decide +kernel⟩, List.mem_of_getElem? (i := 1052) (by decide +kernel), List.mem_of_getElem? (i := 1142) (by decide +kernel), List.mem_of_getElem? (i := 1143) (by decide +kernel)⟩
theorem lw_p12 : lw_okq (⟨"AbbeyLedgersModel", "amountOf", "(II)I"⟩, 22) := ⟨⟨by decide +kernel, by decide +kernel⟩, List.mem_of_getElem? (i := 1052) (by decide +kernel), List.mem_of_getElem? (i := 1146) (by decide +kernel), List.mem_of_getElem? (i := 1147) (by decide +kernel)⟩
theorem lw_p13 : lw_okq (⟨"AbbeyLedgersModel", "of", "(II)I"⟩, 22) := ⟨⟨by decide +kernel, by decide +kernel⟩, List.mem_of_getElem? (i := 1052) (by decide +kernel), List.mem_of_getElem? (i := 1150) (by decide +kernel), List.mem_of_getElem? (i := 1151) (by decide +kernel)⟩
theorem lw_p14 : lw_okq (⟨"AbbeyLedgersModel", "keeps", "([I)V"⟩, 22) := ⟨⟨by decide +kernel, by decide +kernel⟩, List.mem_of_getElem? (i := 1052) (by decide +kernel), List.mem_of_getElem? (i := 1154) (by decide +kernel), List.mem_of_getElem? (i := 1155) (by decide +kernel)⟩
theorem lw_p15 : lw_okq (⟨"AbbeyLedgersModel", "comes", "(I)I"⟩, 22) := ⟨⟨by decide +kernel, by decide +kernel⟩, List.mem_of_getElem? (i := 1052) (by decide +kernel), List.mem_of_getElem? (i := 1161) (by decide +kernel), List.mem_of_getElem? (i := 1162) (by decide +kernel)⟩
def lw_privs_1 : List (MethodName × Nat) := [(⟨"AbbeyLedgers$Versions", "addChild", "(II)I"⟩, 5), (⟨"AbbeyLedgers$Versions", "makePage", "(III)V"⟩, 5), (⟨"AbbeyLedgers$Versions", "totalOfHalves", "(II)I"⟩, 5), (⟨"AbbeyLedgers", "settled", "(I)I"⟩, 10), (⟨"java/lang/Throwable", "fillInStackTrace", "(I)Ljava/lang/Throwable;"⟩, 6), (⟨"AbbeyLedgers$Versions", "takePage", "(III)V"⟩, 5), (⟨"AbbeyLedgers", "checkVersion", "(I)V"⟩, 10), (⟨"AbbeyLedgers$Versions", "versionsAheadOf", "(I)I"⟩, 5), (⟨"AbbeyLedgers$Versions", "pagesOfOthersMadeBy", "(I)I"⟩, 5), (⟨"AbbeyLedgers$Draft", "signAhead", "()C"⟩, 5), (⟨"AbbeyLedgers$Draft", "readNumber", "(II)Z"⟩, 5), (⟨"AbbeyLedgersModel", "refuses", "(II)I"⟩, 22), (⟨"AbbeyLedgersModel", "amountOf", "(II)I"⟩, 22), (⟨"AbbeyLedgersModel", "of", "(II)I"⟩, 22), (⟨"AbbeyLedgersModel", "keeps", "([I)V"⟩, 22), (⟨"AbbeyLedgersModel", "comes", "(I)I"⟩, 22)]
theorem lw_r1 : ∀ q ∈ lw_privs_1, lw_okq q := List.forall_mem_cons.mpr ⟨lw_p0, List.forall_mem_cons.mpr ⟨lw_p1, List.forall_mem_cons.mpr ⟨lw_p2, List.forall_mem_cons.mpr ⟨lw_p3, List.forall_mem_cons.mpr ⟨lw_p4, List.forall_mem_cons.mpr ⟨lw_p5, List.forall_mem_cons.mpr ⟨lw_p6, List.forall_mem_cons.mpr ⟨lw_p7, List.forall_mem_cons.mpr ⟨lw_p8, List.forall_mem_cons.mpr ⟨lw_p9, List.forall_mem_cons.mpr ⟨lw_p10, List.forall_mem_cons.mpr ⟨lw_p11, List.forall_mem_cons.mpr ⟨lw_p12, List.forall_mem_cons.mpr ⟨lw_p13, List.forall_mem_cons.mpr ⟨lw_p14, List.forall_mem_cons.mpr ⟨lw_p15, fun _ h => absurd h List.not_mem_nil⟩⟩⟩⟩⟩⟩⟩⟩⟩⟩⟩⟩⟩⟩⟩⟩
theorem lw_p16 : lw_okq (⟨"AbbeyLedgersModel", "lays", "(III)V"⟩, 22) := ⟨⟨by decide +kernel, by decide +kernel⟩, List.mem_of_getElem? (i := 1052) (by decide +kernel), List.mem_of_getElem? (i := 1165) (by decide +kernel), List.mem_of_getElem? (i := 1166) (by decide +kernel)⟩
theorem lw_p17 : lw_okq (⟨"AbbeyLedgersModel", "has", "(III)Z"⟩, 22) := ⟨⟨by decide +kernel, by decide +kernel⟩, List.mem_of_getElem? (i := 1052) (by decide +kernel), List.mem_of_getElem? (i := 1169) (by decide +kernel), List.mem_of_getElem? (i := 1170) (by decide +kernel)⟩
theorem lw_p18 : lw_okq (⟨"AbbeyLedgersModel", "isVersion", "(I)Z"⟩, 22) := ⟨⟨by decide +kernel, by decide +kernel⟩, List.mem_of_getElem? (i := 1052) (by decide +kernel), List.mem_of_getElem? (i := 1177) (by decide +kernel), List.mem_of_getElem? (i := 1178) (by decide +kernel)⟩
theorem lw_p19 : lw_okq (⟨"AbbeyLedgersModel", "areLike", "(IIII)Z"⟩, 22) := ⟨⟨by decide +kernel, by decide +kernel⟩, List.mem_of_getElem? (i := 1052) (by decide +kernel), List.mem_of_getElem? (i := 1181) (by decide +kernel), List.mem_of_getElem? (i := 1182) (by decide +kernel)⟩
theorem lw_p20 : lw_okq (⟨"AbbeyLedgersModel", "isWithin0", "(III)Z"⟩, 22) := ⟨⟨by decide +kernel, by decide +kernel⟩, List.mem_of_getElem? (i := 1052) (by decide +kernel), List.mem_of_getElem? (i := 1185) (by decide +kernel), List.mem_of_getElem? (i := 1186) (by decide +kernel)⟩
theorem lw_p21 : lw_okq (⟨"AbbeyLedgersModel", "ancestors", "(I)I"⟩, 22) := ⟨⟨by decide +kernel, by decide +kernel⟩, List.mem_of_getElem? (i := 1052) (by decide +kernel), List.mem_of_getElem? (i := 1197) (by decide +kernel), List.mem_of_getElem? (i := 1198) (by decide +kernel)⟩
theorem lw_p22 : lw_okq (⟨"AbbeyLedgersModel", "fails", "(I)Z"⟩, 22) := ⟨⟨by decide +kernel, by decide +kernel⟩, List.mem_of_getElem? (i := 1052) (by decide +kernel), List.mem_of_getElem? (i := 1209) (by decide +kernel), List.mem_of_getElem? (i := 1210) (by decide +kernel)⟩
theorem lw_p23 : lw_okq (⟨"AbbeyLedgersModel", "sumOf", "(III)I"⟩, 22) := ⟨⟨by decide +kernel, by decide +kernel⟩, List.mem_of_getElem? (i := 1052) (by decide +kernel), List.mem_of_getElem? (i := 1224) (by decide +kernel), List.mem_of_getElem? (i := 1225) (by decide +kernel)⟩
theorem lw_p24 : lw_okq (⟨"AbbeyLedgersModel", "children", "(I)I"⟩, 22) := ⟨⟨by decide +kernel, by decide +kernel⟩, List.mem_of_getElem? (i := 1052) (by decide +kernel), List.mem_of_getElem? (i := 1245) (by decide +kernel), List.mem_of_getElem? (i := 1246) (by decide +kernel)⟩
theorem lw_p25 : lw_okq (⟨"AbbeyLedgersModel", "made", "(I)I"⟩, 22) := ⟨⟨by decide +kernel, by decide +kernel⟩, List.mem_of_getElem? (i := 1052) (by decide +kernel), List.mem_of_getElem? (i := 1249) (by decide +kernel), List.mem_of_getElem? (i := 1250) (by decide +kernel)⟩
theorem lw_p26 : lw_okq (⟨"AbbeyLedgersModel", "apart0", "(II)I"⟩, 22) := ⟨⟨by decide +kernel, by decide +kernel⟩, List.mem_of_getElem? (i := 1052) (by decide +kernel), List.mem_of_getElem? (i := 1253) (by decide +kernel), List.mem_of_getElem? (i := 1254) (by decide +kernel)⟩
theorem lw_p27 : lw_okq (⟨"AbbeyLedgersModel", "houses", "(I)I"⟩, 22) := ⟨⟨by decide +kernel, by decide +kernel⟩, List.mem_of_getElem? (i := 1052) (by decide +kernel), List.mem_of_getElem? (i := 1257) (by decide +kernel), List.mem_of_getElem? (i := 1258) (by decide +kernel)⟩
theorem lw_p28 : lw_okq (⟨"AbbeyLedgersModel", "areVersions", "(II)Z"⟩, 22) := ⟨⟨by decide +kernel, by decide +kernel⟩, List.mem_of_getElem? (i := 1052) (by decide +kernel), List.mem_of_getElem? (i := 1277) (by decide +kernel), List.mem_of_getElem? (i := 1278) (by decide +kernel)⟩
theorem lw_p29 : lw_okq (⟨"AbbeyLedgersModel", "usersOf", "(II)I"⟩, 22) := ⟨⟨by decide +kernel, by decide +kernel⟩, List.mem_of_getElem? (i := 1052) (by decide +kernel), List.mem_of_getElem? (i := 1297) (by decide +kernel), List.mem_of_getElem? (i := 1298) (by decide +kernel)⟩
theorem lw_p30 : lw_okq (⟨"AbbeyLedgersModel", "lent", "(I)I"⟩, 22) := ⟨⟨by decide +kernel, by decide +kernel⟩, List.mem_of_getElem? (i := 1052) (by decide +kernel), List.mem_of_getElem? (i := 1317) (by decide +kernel), List.mem_of_getElem? (i := 1318) (by decide +kernel)⟩
theorem lw_p31 : lw_okq (⟨"AbbeyLedgersModel", "isText", "()Z"⟩, 22) := ⟨⟨by decide +kernel, by decide +kernel⟩, List.mem_of_getElem? (i := 1052) (by decide +kernel), List.mem_of_getElem? (i := 1329) (by decide +kernel), List.mem_of_getElem? (i := 1330) (by decide +kernel)⟩
def lw_privs_2 : List (MethodName × Nat) := [(⟨"AbbeyLedgersModel", "lays", "(III)V"⟩, 22), (⟨"AbbeyLedgersModel", "has", "(III)Z"⟩, 22), (⟨"AbbeyLedgersModel", "isVersion", "(I)Z"⟩, 22), (⟨"AbbeyLedgersModel", "areLike", "(IIII)Z"⟩, 22), (⟨"AbbeyLedgersModel", "isWithin0", "(III)Z"⟩, 22), (⟨"AbbeyLedgersModel", "ancestors", "(I)I"⟩, 22), (⟨"AbbeyLedgersModel", "fails", "(I)Z"⟩, 22), (⟨"AbbeyLedgersModel", "sumOf", "(III)I"⟩, 22), (⟨"AbbeyLedgersModel", "children", "(I)I"⟩, 22), (⟨"AbbeyLedgersModel", "made", "(I)I"⟩, 22), (⟨"AbbeyLedgersModel", "apart0", "(II)I"⟩, 22), (⟨"AbbeyLedgersModel", "houses", "(I)I"⟩, 22), (⟨"AbbeyLedgersModel", "areVersions", "(II)Z"⟩, 22), (⟨"AbbeyLedgersModel", "usersOf", "(II)I"⟩, 22), (⟨"AbbeyLedgersModel", "lent", "(I)I"⟩, 22), (⟨"AbbeyLedgersModel", "isText", "()Z"⟩, 22)]
theorem lw_r2 : ∀ q ∈ lw_privs_2, lw_okq q := List.forall_mem_cons.mpr ⟨lw_p16, List.forall_mem_cons.mpr ⟨lw_p17, List.forall_mem_cons.mpr ⟨lw_p18, List.forall_mem_cons.mpr ⟨lw_p19, List.forall_mem_cons.mpr ⟨lw_p20, List.forall_mem_cons.mpr ⟨lw_p21, List.forall_mem_cons.mpr ⟨lw_p22, List.forall_mem_cons.mpr ⟨lw_p23, List.forall_mem_cons.mpr ⟨lw_p24, List.forall_mem_cons.mpr ⟨lw_p25, List.forall_mem_cons.mpr ⟨lw_p26, List.forall_mem_cons.mpr ⟨lw_p27, List.forall_mem_cons.mpr ⟨lw_p28, List.forall_mem_cons.mpr ⟨lw_p29, List.forall_mem_cons.mpr ⟨lw_p30, List.forall_mem_cons.mpr ⟨lw_p31, fun _ h => absurd h List.not_mem_nil⟩⟩⟩⟩⟩⟩⟩⟩⟩⟩⟩⟩⟩⟩⟩⟩
theorem lw_p32 : lw_okq (⟨"AbbeyLedgersModel", "commandHere", "()Z"⟩, 22) := ⟨⟨by decide +kernel, by decide +kernel⟩, List.mem_of_getElem? (i := 1052) (by decide +kernel), List.mem_of_getElem? (i := 1333) (by decide +kernel), List.mem_of_getElem? (i := 1334) (by decide +kernel)⟩
theorem lw_p33 : lw_okq (⟨"AbbeyLedgersModel", "here", "()I"⟩, 22) := ⟨⟨by decide +kernel, by decide +kernel⟩, List.mem_of_getElem? (i := 1052) (by decide +kernel), List.mem_of_getElem? (i := 1337) (by decide +kernel), List.mem_of_getElem? (i := 1338) (by decide +kernel)⟩
theorem lw_p34 : lw_okq (⟨"AbbeyLedgersModel", "skips", "(I)Z"⟩, 22) := ⟨⟨by decide +kernel, by decide +kernel⟩, List.mem_of_getElem? (i := 1052) (by decide +kernel), List.mem_of_getElem? (i := 1341) (by decide +kernel), List.mem_of_getElem? (i := 1342) (by decide +kernel)⟩
theorem lw_p35 : lw_okq (⟨"AbbeyLedgersModel", "figures", "(II)Z"⟩, 22) := ⟨⟨by decide +kernel, by decide +kernel⟩, List.mem_of_getElem? (i := 1052) (by decide +kernel), List.mem_of_getElem? (i := 1345) (by decide +kernel), List.mem_of_getElem? (i := 1346) (by decide +kernel)⟩
theorem lw_p36 : lw_okq (⟨"AbbeyLedgersModel", "carries", "(I)I"⟩, 22) := ⟨⟨by decide +kernel, by decide +kernel⟩, List.mem_of_getElem? (i := 1052) (by decide +kernel), List.mem_of_getElem? (i := 1349) (by decide +kernel), List.mem_of_getElem? (i := 1350) (by decide +kernel)⟩
theorem lw_p37 : lw_okq (⟨"AbbeyLedgersModel", "writes", "(I)V"⟩, 22) := ⟨⟨by decide +kernel, by decide +kernel⟩, List.mem_of_getElem? (i := 1052) (by decide +kernel), List.mem_of_getElem? (i := 1370) (by decide +kernel), List.mem_of_getElem? (i := 1371) (by decide +kernel)⟩
theorem lw_p38 : lw_okq (⟨"AbbeyLedgersModel", "writesNumber", "(I)V"⟩, 22) := ⟨⟨by decide +kernel, by decide +kernel⟩, List.mem_of_getElem? (i := 1052) (by decide +kernel), List.mem_of_getElem? (i := 1374) (by decide +kernel), List.mem_of_getElem? (i := 1375) (by decide +kernel)⟩
theorem lw_p39 : lw_okq (⟨"AbbeyLedgersModel", "allMade", "()I"⟩, 22) := ⟨⟨by decide +kernel, by decide +kernel⟩, List.mem_of_getElem? (i := 1052) (by decide +kernel), List.mem_of_getElem? (i := 1395) (by decide +kernel), List.mem_of_getElem? (i := 1396) (by decide +kernel)⟩
theorem lw_p40 : lw_okq (⟨"AbbeyLedgersModel", "versionsThat", "(Z)I"⟩, 22) := ⟨⟨by decide +kernel, by decide +kernel⟩, List.mem_of_getElem? (i := 1052) (by decide +kernel), List.mem_of_getElem? (i := 1403) (by decide +kernel), List.mem_of_getElem? (i := 1404) (by decide +kernel)⟩
def lw_privs_3 : List (MethodName × Nat) := [(⟨"AbbeyLedgersModel", "commandHere", "()Z"⟩, 22), (⟨"AbbeyLedgersModel", "here", "()I"⟩, 22), (⟨"AbbeyLedgersModel", "skips", "(I)Z"⟩, 22), (⟨"AbbeyLedgersModel", "figures", "(II)Z"⟩, 22), (⟨"AbbeyLedgersModel", "carries", "(I)I"⟩, 22), (⟨"AbbeyLedgersModel", "writes", "(I)V"⟩, 22), (⟨"AbbeyLedgersModel", "writesNumber", "(I)V"⟩, 22), (⟨"AbbeyLedgersModel", "allMade", "()I"⟩, 22), (⟨"AbbeyLedgersModel", "versionsThat", "(Z)I"⟩, 22)]
theorem lw_r3 : ∀ q ∈ lw_privs_3, lw_okq q := List.forall_mem_cons.mpr ⟨lw_p32, List.forall_mem_cons.mpr ⟨lw_p33, List.forall_mem_cons.mpr ⟨lw_p34, List.forall_mem_cons.mpr ⟨lw_p35, List.forall_mem_cons.mpr ⟨lw_p36, List.forall_mem_cons.mpr ⟨lw_p37, List.forall_mem_cons.mpr ⟨lw_p38, List.forall_mem_cons.mpr ⟨lw_p39, List.forall_mem_cons.mpr ⟨lw_p40, fun _ h => absurd h List.not_mem_nil⟩⟩⟩⟩⟩⟩⟩⟩⟩
def lw_privs : List (MethodName × Nat) := lw_privs_1 ++ (lw_privs_2 ++ (lw_privs_3))
def lw_tbl : List Cond := k2_sels lw_privs ++ tables_1
theorem lw_privs_ok : ∀ q ∈ lw_privs, lw_okq q := by
  show ∀ q ∈ lw_privs_1 ++ (lw_privs_2 ++ (lw_privs_3)), lw_okq q
  exact List.forall_mem_append.mpr ⟨lw_r1, List.forall_mem_append.mpr ⟨lw_r2, lw_r3⟩⟩
/-- the streams that the claim lets the run draw from -/
abbrev lw_cs : List Choice := [Jvm.Choice.named "NaN.bits"]
theorem lw_bits : nanBits ∈ lw_cs := by first | decide | exact List.mem_cons_self | simp [lw_cs, nanBits]
/-! ===== BEGIN words of one list among another's, by their places ===== -/
theorem goodIn_r {big : List Cond} (ws : List Cond) (ps : List Nat) (hp : ws = ps.filterMap (fun i => big[i]?)) (h : ws.all goodWord = true) : GoodIn big ws := by
  intro w hw
  have h1 := List.all_eq_true.mp h w hw
  rw [hp] at hw
  obtain ⟨i, -, hi⟩ := List.mem_filterMap.mp hw
  have hm : w ∈ big := by first | exact List.mem_of_getElem? hi | exact List.getElem?_mem hi
  exact ⟨hm, good_of_word h1⟩
theorem goodIn_app {big a b : List Cond} (ha : GoodIn big a) (hb : GoodIn big b) : GoodIn big (a ++ b) := fun w h => (List.mem_append.mp h).elim (ha w) (hb w)
theorem goodIn_ca {big a b : List Cond} {c : Cond} (ha : GoodIn big (c :: a)) (hb : GoodIn big b) : GoodIn big (c :: (a ++ b)) := fun w h => (List.mem_cons.mp h).elim (fun e => ha w (List.mem_cons.mpr (Or.inl e))) (fun h => (List.mem_append.mp h).elim (fun h => ha w (List.mem_cons.mpr (Or.inr h))) (hb w))
theorem goodIn_sub {big ws : List Cond} (hm : ∀ w ∈ ws, w ∈ big) (h : ws.all goodWord = true) : GoodIn big ws := fun w hw => ⟨hm w hw, good_of_word (List.all_eq_true.mp h w hw)⟩
/-! ===== END ===== -/

/-! ===== BEGIN exceptions that leave a method, and their catching by the caller (launches without stack traces) ===== -/
section VXA
/-! The laws vx_back, vx_callV, vx_callS, vx_callSW, vx_throw0, vx_throwS follow proofs of the library, with one case more: JvmDerived/Free/Laws.lean (Back.of_free), Shelf42/LK1.lean (callV, callS), Shelf/KitTraced.lean (throwNew0V, throwNewS). -/
/-- where a method has thrown q: the class by its name, the cell, what was written, the world -/
def vx_T (XC : String → State → State → Prop) (st : State) (q : Addr) (t : State) (mc ms : Nat) (free : Addr → Prop) : Prop :=
  ∃ (E : String) (ce : Cell) (L : List Loc), XC E st t ∧ t.heap[q]? = some ce ∧ ce.vm = .none ∧ st.vm.findClass E = some ce.cls ∧ st.WarmedH t.vm ∧ st.sameButNew ({ t with vm := st.vm } : State) L mc ms ∧ ∀ z ∈ L, free z.base
def vx_Q (Qc : Array Value → State → Outcome → State → Prop) (XC : String → State → State → Prop) (mc ms : Nat) (free : Addr → Prop) : Array Value → State → Outcome → State → Prop := fun a st o t =>
  (Qc a st o t ∧ ∃ L, FrameEnd st o t L mc ms ∧ ∀ q ∈ L, free q.base) ∨ ∃ q, o = .threw q ∧ vx_T XC st q t mc ms free
/-- a callee that returns or throws -/
def vx_Met (l : Launch) (y : MethodName) (ws : List Cond) (rm : Room) (Pc : Array Value → State → Prop) (Qc : Array Value → State → Outcome → State → Prop) (XC : String → State → State → Prop) (mc ms : Nat) (free : Addr → Prop) : Prop :=
  MetFree l y (headSpec ws rm) Pc (fun _ _ _ _ _ => True) (vx_Q Qc XC mc ms free)
def vx_Post (XC : String → State → State → Prop) (mc ms : Nat) (free : Addr → Prop) : Pt → Array Value → Addr → Pt → Prop := fun A a q B =>
  ∃ (g : JFrame) (mk : MethodId) (t : State) (L : List Loc) (E : String) (ce : Cell), B.U.heap = t.heap ∧ B.U.vm = t.vm ∧ XC E (A.U.calling g mk a) t ∧ t.heap[q]? = some ce ∧ ce.vm = .none ∧ A.U.vm.findClass E = some ce.cls ∧ B.locs = A.locs ++ L ∧ (∀ z ∈ L, free z.base) ∧ B.cells = A.cells + mc ∧ B.slots = A.slots + ms
def vx_Back (l : Launch) (R : Room) (p : Program) (e : Env) (below : List Frame) (s : State) (sargs : Array Value) (y : MethodName) (len W9 : Nat)
    (Pre : Pt → Array Value → Prop) (Post : Pt → Array Value → Option Value → Pt → Prop) (PostX : Pt → Array Value → Addr → Pt → Prop) : Prop :=
  ∀ (m : MethodId) (meth : Method) (c : Code) (A : Pt) (g : JFrame) (ig : Instr) (mk : MethodId) (a : Array Value),
    Stand p l e R s m sargs below meth c A.U A.locs A.cells A.slots → g.method = m → g.locals.size = c.maxLocals → decode c.code g.pc = .ok (ig, len) →
    2 * g.monitorRoom + (g.stack.map fun v => v.category).sum ≤ W9 → A.U.methodNamed? y = some mk → Pre A a →
    (∃ (v : Option Value) (B : Pt), Stand p l e R s m sargs below meth c B.U B.locs B.cells B.slots ∧ Post A a v B ∧
      Steps p.tables e below (doInvoke e (A.U.setTop g) [] mk a).1 (B.U.setTop { g with pc := g.pc + len, stack := v.toList ++ g.stack })) ∨
    (∃ (q : Addr) (B : Pt), Stand p l e R s m sargs below meth c B.U B.locs B.cells B.slots ∧ PostX A a q B ∧
      Steps p.tables e below (doInvoke e (A.U.setTop g) [] mk a).1 ((B.U.setTop g).pushFrame (.throwing q)))
section Payer
variable {l : Launch} {R : Room} {p : Program} {e : Env} {below : List Frame} {s : State} {sargs : Array Value} {y : MethodName} {len W9 : Nat}
theorem vx_back {ws : List Cond} {rm : Room} {Pc : Array Value → State → Prop} {Qc : Array Value → State → Outcome → State → Prop} {XC : String → State → State → Prop} {mc ms : Nat} {free : Addr → Prop} {bytes : ByteArray} {maxL : Nat} {ret : Option FieldType}
    (hM : vx_Met l y ws rm Pc Qc XC mc ms free) (hblind : FrameBlind Pc) (hrc : rm.cells = mc) (hrs : rm.slots = ms)
    (hframes : rm.frames + 1 ≤ R.frames) (hlocals : W9 + (maxL + 11) + rm.locals ≤ R.locals)
    (hws : ∀ w ∈ ws, ∀ a' U, s.WarmedH U.vm → w.before a' U = true) (hcode : Cond.code y bytes maxL ret ∈ ws) (hinit : ∀ a' U, s.WarmedH U.vm → (Cond.initialized y.cls).before a' U = true) :
    vx_Back l R p e below s sargs y len W9 (PreOf R mc ms Pc) (PostOf Qc mc ms free) (vx_Post XC mc ms free) := by
  intro m meth c A g ig mk a X hg hsize hdg hW hn hp
  have h1 : (headSpec ws rm).pre.before a A.U = true := atoms_intro fun w hw => hws w hw _ _ X.warmed
  have h2 : (Cond.code y bytes maxL ret).before a A.U = true := hws _ hcode _ _ X.warmed
  have h3 : (Cond.initialized y.cls).before a A.U = true := hinit _ _ X.warmed
  have h4 : A.cells + (headSpec ws rm).room.cells ≤ R.cells := by rw [show (headSpec ws rm).room.cells = mc from hrc]; exact hp.1
  have h5 : A.slots + (headSpec ws rm).room.slots ≤ R.slots := by rw [show (headSpec ws rm).room.slots = ms from hrs]; exact hp.2.1
  have hPc : Pc a (A.U.calling g mk a) := hblind _ _ _ _ hp.2.2
  obtain ⟨U, Ls, c0, s0⟩ := A
  dsimp only [Pt.U, Pt.locs, Pt.cells, Pt.slots] at h1 h2 h3 h4 h5 X hn hPc ⊢
  obtain ⟨methY, cY, hmY, hcY, -, hlY, -, -, -, -⟩ := Cond.code_spec hn h2
  obtain ⟨kY, hkY, -⟩ := className_of_methodNamed hn
  have hinitY : kY.init = .initialized := Cond.initialized_spec (findClass_of_methodNamed hn) hkY h3
  have h : At U g.method c below := by rw [hg]; exact X.here
  have hlocals9 : W9 + (maxL + 11) + (headSpec ws rm).room.locals ≤ R.locals := hlocals
  have happ : (headSpec ws rm).appliesLoose y e.platform (U.calling g mk a) = true :=
    Spec.appliesLoose_calling (g := g) h hdg hn hkY hinitY
      (X.room_calling (g := g) (R' := (headSpec ws rm).room) hsize hmY hcY hframes (by rw [hlY]; omega) h4 h5) h1
  obtain ⟨mid, hmid⟩ := h.above
  have hfr : (U.setTop g).frames = (.java g :: mid) ++ below := by rw [State.frames_setTop' g h.top, hmid]; rfl
  obtain ⟨o, s₂, hsteps, -, hend, hq⟩ := Steps.callFree hM p X.admits X.cas X.clock (acts := []) hfr happ hPc trivial
  have hq' : vx_Q Qc XC mc ms free a (U.calling g mk a) o s₂ := hq
  rw [State.frames_setTop' g h.top] at hend
  obtain ⟨g₀, hg0⟩ := Option.isSome_iff_exists.mp h.top
  obtain ⟨r, hr⟩ := State.topJava?_eq_some.mp hg0
  have hr' : (({ U with heap := s₂.heap, slotsUsed := s₂.slotsUsed } : State).setVm s₂.vm).frames = .java g₀ :: r := hr
  rcases hq' with ⟨hqc, L, hfe, hL⟩ | ⟨q, rfl, E, ce, L, hx, hce, hcv, hcl, hW₂, hsm, hL⟩
  · obtain ⟨⟨v, rfl⟩, hW₂, e2, q2, q3, q4, q5, q6⟩ := id hfe
    have e3 : s₂ = ({ (U.calling g mk a).setFrames s₂.frames with heap := s₂.heap, slotsUsed := s₂.slotsUsed } : State).setVm s₂.vm := by
      have : s₂ = ({ s₂ with vm := (U.calling g mk a).vm } : State).setVm s₂.vm := rfl
      rw [e2] at this
      exact this
    obtain ⟨c₂, i₂, len₂, hc₂, hd₂, hf₂⟩ := hend
    have hW' : U.WarmedH s₂.vm := hW₂
    have hcc : c₂ = c := by
      have h1 : s₂.code? g.method = U.code? g.method := by
        rw [State.code?_eq, State.code?_eq, hW'.alike.method?]
      exact Option.some.inj (hc₂.symm.trans (h1.trans h.code))
    subst hcc
    have hlen : len₂ = len := by rw [hdg] at hd₂; cases hd₂; rfl
    subst hlen
    have hs₂ : s₂ = (({ U with heap := s₂.heap, slotsUsed := s₂.slotsUsed } : State).setVm s₂.vm).setTop { g with pc := g.pc + len₂, stack := v.toList ++ g.stack } := by
      refine e3.trans ?_
      rw [hf₂, State.calling_eq h.top, State.setFrames_setFrames, State.setTop_of_frames _ hr', hr]
      rfl
    have hsame : U.sameButNew ({ U with heap := s₂.heap, slotsUsed := s₂.slotsUsed } : State) L mc ms := by
      refine ⟨?_, q2, q3, q4, q5, q6⟩
      obtain ⟨t, ht, -⟩ := State.frames_cons hr
      show ({ U with heap := s₂.heap, slotsUsed := s₂.slotsUsed } : State) = { U.setFrames U.frames with heap := s₂.heap, slotsUsed := s₂.slotsUsed }
      rw [State.setFrames_self ht]
    subst hg
    refine Or.inl ⟨v, ⟨(({ U with heap := s₂.heap, slotsUsed := s₂.slotsUsed } : State).setVm s₂.vm), Ls ++ L, c0 + mc, s0 + ms⟩,
      ⟨X.admits, X.cas, X.clock, X.frames, X.room, X.hears, X.method, X.code, (X.here.setHeapUsed s₂.heap s₂.slotsUsed).setVm hW'.alike, X.tail, State.WarmedH.trans X.warmed hW', X.limits, X.bytes, X.same.trans (hsame.setVm s.vm)⟩,
      ⟨g, mk, s₂, L, rfl, rfl, hqc, rfl, hL, rfl, rfl⟩, ?_⟩
    show Steps p.tables e below _ ((({ U with heap := s₂.heap, slotsUsed := s₂.slotsUsed } : State).setVm s₂.vm).setTop { g with pc := g.pc + len₂, stack := v.toList ++ g.stack })
    rw [← hs₂]
    exact hsteps
  · obtain ⟨e2, q2, q3, q4, q5, q6⟩ := id hsm
    have e3 : s₂ = ({ (U.calling g mk a).setFrames s₂.frames with heap := s₂.heap, slotsUsed := s₂.slotsUsed } : State).setVm s₂.vm := by
      have : s₂ = ({ s₂ with vm := (U.calling g mk a).vm } : State).setVm s₂.vm := rfl
      rw [e2] at this
      exact this
    have hf₂ : s₂.frames = .throwing q :: .java g :: U.frames.tail := hend
    have hW' : U.WarmedH s₂.vm := hW₂
    have hs₂ : s₂ = ((({ U with heap := s₂.heap, slotsUsed := s₂.slotsUsed } : State).setVm s₂.vm).setTop g).pushFrame (.throwing q) := by
      refine e3.trans ?_
      rw [hf₂, State.calling_eq h.top, State.setFrames_setFrames, State.pushFrame, State.frames_setTop _ hr', State.setTop_of_frames _ hr', State.setFrames_setFrames, hr]
      rfl
    have hsame : U.sameButNew ({ U with heap := s₂.heap, slotsUsed := s₂.slotsUsed } : State) L mc ms := by
      refine ⟨?_, q2, q3, q4, q5, q6⟩
      obtain ⟨t, ht, -⟩ := State.frames_cons hr
      show ({ U with heap := s₂.heap, slotsUsed := s₂.slotsUsed } : State) = { U.setFrames U.frames with heap := s₂.heap, slotsUsed := s₂.slotsUsed }
      rw [State.setFrames_self ht]
    subst hg
    refine Or.inr ⟨q, ⟨(({ U with heap := s₂.heap, slotsUsed := s₂.slotsUsed } : State).setVm s₂.vm), Ls ++ L, c0 + mc, s0 + ms⟩,
      ⟨X.admits, X.cas, X.clock, X.frames, X.room, X.hears, X.method, X.code, (X.here.setHeapUsed s₂.heap s₂.slotsUsed).setVm hW'.alike, X.tail, State.WarmedH.trans X.warmed hW', X.limits, X.bytes, X.same.trans (hsame.setVm s.vm)⟩,
      ⟨g, mk, s₂, L, E, ce, rfl, rfl, hx, hce, hcv, hcl, rfl, hL, rfl, rfl⟩, ?_⟩
    show Steps p.tables e below _ (((({ U with heap := s₂.heap, slotsUsed := s₂.slotsUsed } : State).setVm s₂.vm).setTop g).pushFrame (.throwing q))
    rw [← hs₂]
    exact hsteps
end Payer
section Calls
variable {p : Program} {l : Launch} {e : Env} {R : Room} {s : State} {m : MethodId} {args : Array Value} {below : List Frame} {meth : Method} {c : Code} {T : State} {locs : List Loc} {cells slots : Nat}
theorem vx_callV (X : Stand p l e R s m args below meth c T locs cells slots) (hexec : p.tables.exec = Jvm.exec) {own C : String} {index : Nat} {y : MethodName} {bytes : ByteArray} {maxL : Nat} {ret : Option FieldType}
    (hown : s.vm.findClass own = some m.cls) (hlink : (Cond.methodLink own index y).before args s = true) (hinst : (Cond.instanceMethod y).before args s = true) (hsel : (Cond.selects C y y).before args s = true)
    (hcode : (Cond.code y bytes maxL ret).before args s = true) (hy : y.cls ≠ "java/lang/invoke/MethodHandle" ∧ y.cls ≠ "java/lang/invoke/VarHandle")
    {W9 : Nat} {Pre : Pt → Array Value → Prop} {Post : Pt → Array Value → Option Value → Pt → Prop} {PostX : Pt → Array Value → Addr → Pt → Prop} (hK : vx_Back l R p e below s args y 3 W9 Pre Post PostX)
    {b : Addr} {cellB : Cell} (hcell : T.heap[b]? = some cellB) (hobj : cellB.vm.isStatics = false) (hcls : s.vm.findClass C = some cellB.cls)
    {g : JFrame} (hg : g.method = m) (hsize : g.locals.size = c.maxLocals) {argsL rest : List Value} (hlen : ∀ sig, parseMethodDescriptor y.desc = some sig → argsL.length = sig.parameters.length)
    (hstack : g.stack = argsL.reverse ++ .ref b :: rest) (hW : 2 * g.monitorRoom + (rest.map fun v => v.category).sum ≤ W9) (hdg : decode c.code g.pc = .ok (.invokevirtual index, 3))
    (hpre : ∀ vm₁, s.WarmedH vm₁ → Pre ⟨T.setVm vm₁, locs, cells, slots⟩ (Value.ref b :: argsL).toArray) :
    (∃ (v : Option Value) (vm₁ : Vm) (B : Pt), s.WarmedH vm₁ ∧ Stand p l e R s m args below meth c B.U B.locs B.cells B.slots ∧ Post ⟨T.setVm vm₁, locs, cells, slots⟩ (Value.ref b :: argsL).toArray v B ∧
      ∀ target, Steps p.tables e below (B.U.setTop { g with pc := g.pc + 3, stack := v.toList ++ rest }) target → Steps p.tables e below (T.setTop g) target) ∨
    (∃ (q : Addr) (vm₁ : Vm) (B : Pt), s.WarmedH vm₁ ∧ Stand p l e R s m args below meth c B.U B.locs B.cells B.slots ∧ PostX ⟨T.setVm vm₁, locs, cells, slots⟩ (Value.ref b :: argsL).toArray q B ∧
      Steps p.tables e below (T.setTop g) ((B.U.setTop { g with stack := rest }).pushFrame (.throwing q))) := by
  obtain ⟨mk, methM, hnamed, hmethM, hstM, habM⟩ := Cond.instanceMethod_spec hinst
  obtain ⟨methM', cM, hmethM', -, -, -, -, -, -, hsigM⟩ := Cond.code_spec hnamed hcode
  cases hmethM.symm.trans hmethM'
  obtain ⟨c2, r2, m2, q1, q2, q3, q4, kP, hkP, hkPi⟩ := Cond.selects_spec hsel
  cases hcls.symm.trans q1
  cases (State.methodFound?_of_named hnamed hy).symm.trans q2
  cases hnamed.symm.trans q3
  have hselP : selectMethod e.platform s.vm cellB.cls mk = .method mk := by rw [Launch.admits_selectMethod X.admits]; exact q4
  obtain ⟨vm₁, X₁, hstep₁⟩ := X.invokevirtual hexec hown hlink hnamed hmethM hstM hkP hkPi hy (a := b) (cell := cellB) hcell
    (fun z h => by rw [h] at hobj; cases hobj) hselP hmethM habM hkP hkPi (g := g) hg (argsL := argsL) (rest := rest) (hlen _ hsigM) hstack hdg
  rcases hK m meth c ⟨T.setVm vm₁, locs, cells, slots⟩ { g with stack := rest } (.invokevirtual index) mk (Value.ref b :: argsL).toArray X₁ hg hsize hdg hW (X₁.named hnamed) (hpre vm₁ X₁.warmed) with ⟨v, B, X', hpost, hsteps⟩ | ⟨q, B, X', hpost, hsteps⟩
  · exact Or.inl ⟨v, vm₁, B, X₁.warmed, X', hpost, fun target h => hstep₁ _ fun acts => by rw [doInvoke_state]; exact hsteps.trans h⟩
  · exact Or.inr ⟨q, vm₁, B, X₁.warmed, X', hpost, hstep₁ _ fun acts => by rw [doInvoke_state]; exact hsteps⟩
theorem vx_callS (X : Stand p l e R s m args below meth c T locs cells slots) (hexec : p.tables.exec = Jvm.exec) {own : String} {index : Nat} {y : MethodName} {bytes : ByteArray} {maxL : Nat} {ret : Option FieldType}
    (hown : s.vm.findClass own = some m.cls) (hlink : (Cond.methodLink own index y).before args s = true) (hstat : (Cond.static y).before args s = true) (hinit : (Cond.initialized y.cls).before args s = true)
    (hcode : (Cond.code y bytes maxL ret).before args s = true) (hy : y.cls ≠ "java/lang/invoke/MethodHandle" ∧ y.cls ≠ "java/lang/invoke/VarHandle")
    {W9 : Nat} {Pre : Pt → Array Value → Prop} {Post : Pt → Array Value → Option Value → Pt → Prop} {PostX : Pt → Array Value → Addr → Pt → Prop} (hK : vx_Back l R p e below s args y 3 W9 Pre Post PostX)
    {g : JFrame} (hg : g.method = m) (hsize : g.locals.size = c.maxLocals) {argsL rest : List Value} (hlen : ∀ sig, parseMethodDescriptor y.desc = some sig → argsL.length = sig.parameters.length)
    (hstack : g.stack = argsL.reverse ++ rest) (hW : 2 * g.monitorRoom + (rest.map fun v => v.category).sum ≤ W9) (hdg : decode c.code g.pc = .ok (.invokestatic index, 3))
    (hpre : ∀ vm₁, s.WarmedH vm₁ → Pre ⟨T.setVm vm₁, locs, cells, slots⟩ argsL.toArray) :
    (∃ (v : Option Value) (vm₁ : Vm) (B : Pt), s.WarmedH vm₁ ∧ Stand p l e R s m args below meth c B.U B.locs B.cells B.slots ∧ Post ⟨T.setVm vm₁, locs, cells, slots⟩ argsL.toArray v B ∧
      ∀ target, Steps p.tables e below (B.U.setTop { g with pc := g.pc + 3, stack := v.toList ++ rest }) target → Steps p.tables e below (T.setTop g) target) ∨
    (∃ (q : Addr) (vm₁ : Vm) (B : Pt), s.WarmedH vm₁ ∧ Stand p l e R s m args below meth c B.U B.locs B.cells B.slots ∧ PostX ⟨T.setVm vm₁, locs, cells, slots⟩ argsL.toArray q B ∧
      Steps p.tables e below (T.setTop g) ((B.U.setTop { g with stack := rest }).pushFrame (.throwing q))) := by
  obtain ⟨mk, hnamed⟩ := Cond.code_named hcode
  obtain ⟨methM, cM, hmethM, -, -, -, -, -, -, hsigM⟩ := Cond.code_spec hnamed hcode
  have hstatic : methM.isStatic = true := Cond.static_spec hnamed hmethM hstat
  obtain ⟨kP, hkP, -⟩ := className_of_methodNamed hnamed
  have hinitP : kP.init = .initialized := Cond.initialized_spec (findClass_of_methodNamed hnamed) hkP hinit
  obtain ⟨vm₁, X₁, hstep₁⟩ := X.invokestatic hexec hown hlink hnamed hmethM hstatic hkP hinitP hy (g := g) hg (argsL := argsL) (rest := rest) (hlen _ hsigM) hstack hdg
  rcases hK m meth c ⟨T.setVm vm₁, locs, cells, slots⟩ { g with stack := rest } (.invokestatic index) mk argsL.toArray X₁ hg hsize hdg hW (X₁.named hnamed) (hpre vm₁ X₁.warmed) with ⟨v, B, X', hpost, hsteps⟩ | ⟨q, B, X', hpost, hsteps⟩
  · exact Or.inl ⟨v, vm₁, B, X₁.warmed, X', hpost, fun target h => hstep₁ _ fun acts => by rw [doInvoke_state]; exact hsteps.trans h⟩
  · exact Or.inr ⟨q, vm₁, B, X₁.warmed, X', hpost, hstep₁ _ fun acts => by rw [doInvoke_state]; exact hsteps⟩
end Calls
theorem vx_cls {s : State} {T : State} {vm₁ : Vm} {E : String} {k : ClassId} (hW : s.WarmedH vm₁) (h : (T.setVm vm₁).vm.findClass E = some k) : s.vm.findClass E = some k := by
  have h1 : vm₁.findClass E = some k := h
  rw [hW.alike.findClass] at h1
  exact h1
/-- the method's frame g, with q thrown over it -/
def vx_W (p : Program) (l : Launch) (e : Env) (R : Room) (s : State) (m : MethodId) (args : Array Value) (below : List Frame) (meth : Method) (c : Code) (H : Heap) (locs : List Loc) (cells slots : Nat) (Q : State → Prop) (g : JFrame) (q : Addr) : Prop :=
  ∀ T : State, T.heap = H → Stand p l e R s m args below meth c T locs cells slots → ∃ t, Steps p.tables e below ((T.setTop g).pushFrame (.throwing q)) t ∧ Q t
def vx_Run (p : Program) (l : Launch) (e : Env) (R : Room) (s : State) (m : MethodId) (args : Array Value) (below : List Frame) (meth : Method) (c : Code) (H : Heap) (locs : List Loc) (cells slots mc ms : Nat) (g : JFrame) (rest : List Value) (Qa : State → Outcome → State → Prop) (XC : String → State → State → Prop) (free : Addr → Prop) : Prop :=
  ∀ T : State, T.heap = H → Stand p l e R s m args below meth c T locs cells slots →
    (∃ (v : Option Value) (st₀ t T' : State) (L : List Loc), st₀.heap = H ∧ Stand p l e R s m args below meth c T' (locs ++ L) (cells + mc) (slots + ms) ∧ (∀ q ∈ L, free q.base) ∧ T'.heap = t.heap ∧ T'.vm = t.vm ∧ Qa st₀ (.returned v) t ∧
      Goes p e below T g T' { g with pc := g.pc + 3, stack := v.toList ++ rest }) ∨
    (∃ (q : Addr) (st₀ t T' : State) (L : List Loc) (E : String) (ce : Cell), st₀.heap = H ∧ Stand p l e R s m args below meth c T' (locs ++ L) (cells + mc) (slots + ms) ∧ (∀ z ∈ L, free z.base) ∧ T'.heap = t.heap ∧ T'.vm = t.vm ∧ XC E st₀ t ∧ t.heap[q]? = some ce ∧ ce.vm = .none ∧ s.vm.findClass E = some ce.cls ∧
      Steps p.tables e below (T.setTop g) ((T'.setTop { g with stack := rest }).pushFrame (.throwing q)))
def vx_X {S : Type} (px : S → Prop) (B : String → S → State → Prop) (A : Nat → Prop) : String → State → State → Prop := fun E st t => ∃ u : S, px u ∧ B E u t ∧ va_F A st t
section Runs
variable {p : Program} {l : Launch} {e : Env} {R : Room} {s : State} {m : MethodId} {args : Array Value} {below : List Frame} {meth : Method} {c : Code} {H : Heap} {locs : List Loc} {cells slots : Nat}
variable {y : MethodName} {bytes cc : ByteArray} {maxL nL mc ms n index : Nat} {ret : Option FieldType} {ws : List Cond} {rm : Room} {Pc : Array Value → State → Prop} {Qc : Array Value → State → Outcome → State → Prop} {XC : String → State → State → Prop} {free : Addr → Prop} {Ts : List Cond} {own C : String} {b : Addr} {As rest : List Value} {g : JFrame}
theorem vx_callBack (cb : CallB R s args own index y bytes maxL ret ws rm mc ms n) (hM : vx_Met l y ws rm Pc Qc XC mc ms free) (hbl : FrameBlind Pc) : vx_Back l R p e below s args y 3 8 (PreOf R mc ms Pc) (PostOf Qc mc ms free) (vx_Post XC mc ms free) := by
  obtain ⟨hrc, hrs, hfr, hlo, hws, hcw, -, hini, -⟩ := cb
  exact vx_back (bytes := bytes) (maxL := maxL) (ret := ret) hM hbl hrc hrs hfr hlo hws hcw (fun a' U hW => word_at hW (Or.inl (by first | rfl | simp [Cond.onTables, Cond.keeps, Cond.steady])) hini)
theorem vx_runV (S : CallFix p m c cc nL s args Ts own) (hM : vx_Met l y ws rm Pc Qc XC mc ms free) (cw : CallW R s args own C index y bytes maxL ret ws rm mc ms n) (hp : PreV s H C b Pc As)
    (hg : g.method = m) (hn : As.length = n) (hsize : g.locals.size = nL) (hstack : g.stack = As.reverse ++ .ref b :: rest) (hW : 2 * g.monitorRoom + (rest.map fun v => v.category).sum ≤ 8) (hdg : decode cc g.pc = .ok (.invokevirtual index, 3)) (hf : cells + mc ≤ R.cells ∧ slots + ms ≤ R.slots) :
    vx_Run p l e R s m args below meth c H locs cells slots mc ms g rest (Qc (Value.ref b :: As).toArray) XC free := by
  have hK : vx_Back l R p e below s args y 3 8 (PreOf R mc ms Pc) (PostOf Qc mc ms free) (vx_Post XC mc ms free) := vx_callBack cw.1 hM hp.1
  obtain ⟨⟨-, -, -, -, -, -, hcode, -, hy, hlen, hl⟩, hin, hse⟩ := cw
  obtain ⟨hx, hb, hml, ho, -⟩ := S
  obtain ⟨-, ⟨cellB, hcB, hoB, hclB⟩, hPc⟩ := hp
  intro T hT X
  rcases vx_callV X hx (C := C) (bytes := bytes) (maxL := maxL) (ret := ret) ho hl hin hse hcode hy hK (by rw [hT]; exact hcB) hoB hclB hg (hsize.trans hml.symm) (argsL := As) (rest := rest) (fun sig h => hn.trans (hlen sig h)) hstack hW (by rw [hb]; exact hdg)
    (fun vm₁ hW₁ => ⟨hf.1, hf.2, hPc (T.setVm vm₁) hT hW₁⟩) with ⟨v, vm₁, ⟨U', l2, c2, s2⟩, hW₁, X', ⟨g', mk, t, L, e1, e2, hq, h1, hL, h2, h3⟩, st⟩ | ⟨q, vm₁, ⟨U', l2, c2, s2⟩, hW₁, X', ⟨g', mk, t, L, E, ce, e1, e2, hq, hce, hcv, hcl, h1, hL, h2, h3⟩, st⟩
  · dsimp only [Pt.U, Pt.locs, Pt.cells, Pt.slots] at X' e1 e2 h1 h2 h3 st
    subst h1; subst h2; subst h3
    exact Or.inl ⟨v, (T.setVm vm₁).calling g' mk (Value.ref b :: As).toArray, t, U', L, hT, X', hL, e1, e2, hq, st⟩
  · dsimp only [Pt.U, Pt.locs, Pt.cells, Pt.slots] at X' e1 e2 h1 h2 h3 st hcl
    subst h1; subst h2; subst h3
    exact Or.inr ⟨q, (T.setVm vm₁).calling g' mk (Value.ref b :: As).toArray, t, U', L, E, ce, hT, X', hL, e1, e2, hq, hce, hcv, vx_cls hW₁ hcl, st⟩
theorem vx_runS (S : CallFix p m c cc nL s args Ts own) (hM : vx_Met l y ws rm Pc Qc XC mc ms free) (cw : CallB R s args own index y bytes maxL ret ws rm mc ms n ∧ (Cond.static y).before args s = true) (hp : PreS s H Pc As)
    (hg : g.method = m) (hn : As.length = n) (hsize : g.locals.size = nL) (hstack : g.stack = As.reverse ++ rest) (hW : 2 * g.monitorRoom + (rest.map fun v => v.category).sum ≤ 8) (hdg : decode cc g.pc = .ok (.invokestatic index, 3)) (hf : cells + mc ≤ R.cells ∧ slots + ms ≤ R.slots) :
    vx_Run p l e R s m args below meth c H locs cells slots mc ms g rest (Qc As.toArray) XC free := by
  have hK : vx_Back l R p e below s args y 3 8 (PreOf R mc ms Pc) (PostOf Qc mc ms free) (vx_Post XC mc ms free) := vx_callBack cw.1 hM hp.1
  obtain ⟨⟨-, -, -, -, -, -, hcode, hini, hy, hlen, hl⟩, hstt⟩ := cw
  obtain ⟨hx, hb, hml, ho, -⟩ := S
  intro T hT X
  rcases vx_callS X hx (bytes := bytes) (maxL := maxL) (ret := ret) ho hl hstt hini hcode hy hK hg (hsize.trans hml.symm) (argsL := As) (rest := rest) (fun sig h => hn.trans (hlen sig h)) hstack hW (by rw [hb]; exact hdg)
    (fun vm₁ hW₁ => ⟨hf.1, hf.2, hp.2 (T.setVm vm₁) hT hW₁⟩) with ⟨v, vm₁, ⟨U', l2, c2, s2⟩, hW₁, X', ⟨g', mk, t, L, e1, e2, hq, h1, hL, h2, h3⟩, st⟩ | ⟨q, vm₁, ⟨U', l2, c2, s2⟩, hW₁, X', ⟨g', mk, t, L, E, ce, e1, e2, hq, hce, hcv, hcl, h1, hL, h2, h3⟩, st⟩
  · dsimp only [Pt.U, Pt.locs, Pt.cells, Pt.slots] at X' e1 e2 h1 h2 h3 st
    subst h1; subst h2; subst h3
    exact Or.inl ⟨v, (T.setVm vm₁).calling g' mk As.toArray, t, U', L, hT, X', hL, e1, e2, hq, st⟩
  · dsimp only [Pt.U, Pt.locs, Pt.cells, Pt.slots] at X' e1 e2 h1 h2 h3 st hcl
    subst h1; subst h2; subst h3
    exact Or.inr ⟨q, (T.setVm vm₁).calling g' mk As.toArray, t, U', L, E, ce, hT, X', hL, e1, e2, hq, hce, hcv, vx_cls hW₁ hcl, st⟩
end Runs
section Rows
variable {p : Program} {l : Launch} {e : Env} {R : Room} {s : State} {m : MethodId} {args : Array Value} {below : List Frame} {meth : Method} {c : Code} {H : Heap} {locs : List Loc} {cells slots : Nat} {Q : State → Prop}
variable {mc ms : Nat} {free : Addr → Prop} {A0 A1 : Nat → Prop} {H0 : Heap} {a : Array Value} {pc : Nat} {ls : Array Slot} {st0 rest : List Value}
theorem vx_keep {st₀ t T' : State} {L : List Loc} (h0 : st₀.heap = H) (e1 : T'.heap = t.heap) (hS : va_S A0 H0 H locs) (hA : ∀ q, q < H.size → A1 q → A0 q) (hf : ∀ q, free q → A0 q) (hL : ∀ q ∈ L, free q.base) (hF : va_F A1 st₀ t) :
    H.size ≤ T'.heap.size ∧ (∀ q : Nat, q < H.size → ¬ A1 q → T'.heap[q]? = H[q]?) ∧ va_S A0 H0 T'.heap (locs ++ L) := by
  obtain ⟨hz, hk⟩ := hF
  rw [h0] at hz hk
  exact ⟨by rw [e1]; exact hz, fun q h1 h2 => by rw [e1]; exact hk q h1 h2,
    ⟨Nat.le_trans hS.1 (by rw [e1]; exact hz), fun q h1 h2 => by rw [e1, hk q (Nat.lt_of_lt_of_le h1 hS.1) (fun z => h2 (hA q (Nat.lt_of_lt_of_le h1 hS.1) z))]; exact hS.2.1 q h1 h2, fun q hq => by
      rcases List.mem_append.mp hq with h | h
      · exact hS.2.2 q h
      · exact hf _ (hL q h)⟩⟩
theorem vx_calli {S SX : Type} {post : Int32 → S → Prop} {px : SX → Prop} {B : S → State → Prop} {BX : String → SX → State → Prop} {AX : Nat → Prop} (hr : vx_Run p l e R s m args below meth c H locs cells slots mc ms (F0 m pc ls st0) rest (va_Qi post B A1 a) (vx_X px BX AX) free) (hS : va_S A0 H0 H locs) (hA : ∀ q, q < H.size → A1 q → A0 q) (hf : ∀ q, free q → A0 q) (hAX : ∀ q, q < H.size → AX q → A0 q)
    (kx : ∀ (E : String) (ce : Cell) (q9 : Addr) (u : SX) (t : State) (H1 : Heap) (locs1 : List Loc), t.heap = H1 → s.vm.Alike t.vm → px u → BX E u t → H.size ≤ H1.size → (∀ q : Nat, q < H.size → ¬ AX q → H1[q]? = H[q]?) → va_S A0 H0 H1 locs1 → H1[q9]? = some ce → ce.vm = .none → s.vm.findClass E = some ce.cls → vx_W p l e R s m args below meth c H1 locs1 (cells + mc) (slots + ms) Q (F0 m pc ls rest) q9)
    (kk : ∀ (r : Int32) (u : S) (t : State) (H1 : Heap) (locs1 : List Loc), t.heap = H1 → s.vm.Alike t.vm → post r u → B u t → H.size ≤ H1.size → (∀ q : Nat, q < H.size → ¬ A1 q → H1[q]? = H[q]?) → va_S A0 H0 H1 locs1 → W p l e R s m args below meth c H1 locs1 (cells + mc) (slots + ms) Q (F0 m (pc + 3) ls (.int r :: rest))) : W p l e R s m args below meth c H locs cells slots Q (F0 m pc ls st0) := by
  intro T hT X
  rcases hr T hT X with ⟨v, st₀, t, T', L, h0, X', hL, e1, e2, ⟨⟨r, u, hv, hp, hb⟩, hF⟩, st⟩ | ⟨q, st₀, t, T', L, E, ce, h0, X', hL, e1, e2, ⟨u, hp, hb, hF⟩, hce, hcv, hcl, st⟩
  · cases hv
    obtain ⟨k1, k2, k3⟩ := vx_keep h0 e1 hS hA hf hL hF
    obtain ⟨t2, a1, b1⟩ := kk r u t T'.heap (locs ++ L) e1.symm (by rw [← e2]; exact X'.warmed.alike) hp hb k1 k2 k3 T' rfl X'
    exact ⟨t2, st t2 a1, b1⟩
  · obtain ⟨k1, k2, k3⟩ := vx_keep h0 e1 hS hAX hf hL hF
    obtain ⟨t2, a1, b1⟩ := kx E ce q u t T'.heap (locs ++ L) e1.symm (by rw [← e2]; exact X'.warmed.alike) hp hb k1 k2 k3 (by rw [e1]; exact hce) hcv hcl T' rfl X'
    exact ⟨t2, st.trans a1, b1⟩
theorem vx_calll {S SX : Type} {post : Int64 → S → Prop} {px : SX → Prop} {B : S → State → Prop} {BX : String → SX → State → Prop} {AX : Nat → Prop} (hr : vx_Run p l e R s m args below meth c H locs cells slots mc ms (F0 m pc ls st0) rest (va_Ql post B A1 a) (vx_X px BX AX) free) (hS : va_S A0 H0 H locs) (hA : ∀ q, q < H.size → A1 q → A0 q) (hf : ∀ q, free q → A0 q) (hAX : ∀ q, q < H.size → AX q → A0 q)
    (kx : ∀ (E : String) (ce : Cell) (q9 : Addr) (u : SX) (t : State) (H1 : Heap) (locs1 : List Loc), t.heap = H1 → s.vm.Alike t.vm → px u → BX E u t → H.size ≤ H1.size → (∀ q : Nat, q < H.size → ¬ AX q → H1[q]? = H[q]?) → va_S A0 H0 H1 locs1 → H1[q9]? = some ce → ce.vm = .none → s.vm.findClass E = some ce.cls → vx_W p l e R s m args below meth c H1 locs1 (cells + mc) (slots + ms) Q (F0 m pc ls rest) q9)
    (kk : ∀ (r : Int64) (u : S) (t : State) (H1 : Heap) (locs1 : List Loc), t.heap = H1 → s.vm.Alike t.vm → post r u → B u t → H.size ≤ H1.size → (∀ q : Nat, q < H.size → ¬ A1 q → H1[q]? = H[q]?) → va_S A0 H0 H1 locs1 → W p l e R s m args below meth c H1 locs1 (cells + mc) (slots + ms) Q (F0 m (pc + 3) ls (.long r :: rest))) : W p l e R s m args below meth c H locs cells slots Q (F0 m pc ls st0) := by
  intro T hT X
  rcases hr T hT X with ⟨v, st₀, t, T', L, h0, X', hL, e1, e2, ⟨⟨r, u, hv, hp, hb⟩, hF⟩, st⟩ | ⟨q, st₀, t, T', L, E, ce, h0, X', hL, e1, e2, ⟨u, hp, hb, hF⟩, hce, hcv, hcl, st⟩
  · cases hv
    obtain ⟨k1, k2, k3⟩ := vx_keep h0 e1 hS hA hf hL hF
    obtain ⟨t2, a1, b1⟩ := kk r u t T'.heap (locs ++ L) e1.symm (by rw [← e2]; exact X'.warmed.alike) hp hb k1 k2 k3 T' rfl X'
    exact ⟨t2, st t2 a1, b1⟩
  · obtain ⟨k1, k2, k3⟩ := vx_keep h0 e1 hS hAX hf hL hF
    obtain ⟨t2, a1, b1⟩ := kx E ce q u t T'.heap (locs ++ L) e1.symm (by rw [← e2]; exact X'.warmed.alike) hp hb k1 k2 k3 (by rw [e1]; exact hce) hcv hcl T' rfl X'
    exact ⟨t2, st.trans a1, b1⟩
theorem vx_callf {S SX : Type} {post : UInt32 → S → Prop} {px : SX → Prop} {B : S → State → Prop} {BX : String → SX → State → Prop} {AX : Nat → Prop} (hr : vx_Run p l e R s m args below meth c H locs cells slots mc ms (F0 m pc ls st0) rest (va_Qf post B A1 a) (vx_X px BX AX) free) (hS : va_S A0 H0 H locs) (hA : ∀ q, q < H.size → A1 q → A0 q) (hf : ∀ q, free q → A0 q) (hAX : ∀ q, q < H.size → AX q → A0 q)
    (kx : ∀ (E : String) (ce : Cell) (q9 : Addr) (u : SX) (t : State) (H1 : Heap) (locs1 : List Loc), t.heap = H1 → s.vm.Alike t.vm → px u → BX E u t → H.size ≤ H1.size → (∀ q : Nat, q < H.size → ¬ AX q → H1[q]? = H[q]?) → va_S A0 H0 H1 locs1 → H1[q9]? = some ce → ce.vm = .none → s.vm.findClass E = some ce.cls → vx_W p l e R s m args below meth c H1 locs1 (cells + mc) (slots + ms) Q (F0 m pc ls rest) q9)
    (kk : ∀ (r : UInt32) (u : S) (t : State) (H1 : Heap) (locs1 : List Loc), t.heap = H1 → s.vm.Alike t.vm → post r u → B u t → H.size ≤ H1.size → (∀ q : Nat, q < H.size → ¬ A1 q → H1[q]? = H[q]?) → va_S A0 H0 H1 locs1 → W p l e R s m args below meth c H1 locs1 (cells + mc) (slots + ms) Q (F0 m (pc + 3) ls (.float r :: rest))) : W p l e R s m args below meth c H locs cells slots Q (F0 m pc ls st0) := by
  intro T hT X
  rcases hr T hT X with ⟨v, st₀, t, T', L, h0, X', hL, e1, e2, ⟨⟨r, u, hv, hp, hb⟩, hF⟩, st⟩ | ⟨q, st₀, t, T', L, E, ce, h0, X', hL, e1, e2, ⟨u, hp, hb, hF⟩, hce, hcv, hcl, st⟩
  · cases hv
    obtain ⟨k1, k2, k3⟩ := vx_keep h0 e1 hS hA hf hL hF
    obtain ⟨t2, a1, b1⟩ := kk r u t T'.heap (locs ++ L) e1.symm (by rw [← e2]; exact X'.warmed.alike) hp hb k1 k2 k3 T' rfl X'
    exact ⟨t2, st t2 a1, b1⟩
  · obtain ⟨k1, k2, k3⟩ := vx_keep h0 e1 hS hAX hf hL hF
    obtain ⟨t2, a1, b1⟩ := kx E ce q u t T'.heap (locs ++ L) e1.symm (by rw [← e2]; exact X'.warmed.alike) hp hb k1 k2 k3 (by rw [e1]; exact hce) hcv hcl T' rfl X'
    exact ⟨t2, st.trans a1, b1⟩
theorem vx_calld {S SX : Type} {post : UInt64 → S → Prop} {px : SX → Prop} {B : S → State → Prop} {BX : String → SX → State → Prop} {AX : Nat → Prop} (hr : vx_Run p l e R s m args below meth c H locs cells slots mc ms (F0 m pc ls st0) rest (va_Qd post B A1 a) (vx_X px BX AX) free) (hS : va_S A0 H0 H locs) (hA : ∀ q, q < H.size → A1 q → A0 q) (hf : ∀ q, free q → A0 q) (hAX : ∀ q, q < H.size → AX q → A0 q)
    (kx : ∀ (E : String) (ce : Cell) (q9 : Addr) (u : SX) (t : State) (H1 : Heap) (locs1 : List Loc), t.heap = H1 → s.vm.Alike t.vm → px u → BX E u t → H.size ≤ H1.size → (∀ q : Nat, q < H.size → ¬ AX q → H1[q]? = H[q]?) → va_S A0 H0 H1 locs1 → H1[q9]? = some ce → ce.vm = .none → s.vm.findClass E = some ce.cls → vx_W p l e R s m args below meth c H1 locs1 (cells + mc) (slots + ms) Q (F0 m pc ls rest) q9)
    (kk : ∀ (r : UInt64) (u : S) (t : State) (H1 : Heap) (locs1 : List Loc), t.heap = H1 → s.vm.Alike t.vm → post r u → B u t → H.size ≤ H1.size → (∀ q : Nat, q < H.size → ¬ A1 q → H1[q]? = H[q]?) → va_S A0 H0 H1 locs1 → W p l e R s m args below meth c H1 locs1 (cells + mc) (slots + ms) Q (F0 m (pc + 3) ls (.double r :: rest))) : W p l e R s m args below meth c H locs cells slots Q (F0 m pc ls st0) := by
  intro T hT X
  rcases hr T hT X with ⟨v, st₀, t, T', L, h0, X', hL, e1, e2, ⟨⟨r, u, hv, hp, hb⟩, hF⟩, st⟩ | ⟨q, st₀, t, T', L, E, ce, h0, X', hL, e1, e2, ⟨u, hp, hb, hF⟩, hce, hcv, hcl, st⟩
  · cases hv
    obtain ⟨k1, k2, k3⟩ := vx_keep h0 e1 hS hA hf hL hF
    obtain ⟨t2, a1, b1⟩ := kk r u t T'.heap (locs ++ L) e1.symm (by rw [← e2]; exact X'.warmed.alike) hp hb k1 k2 k3 T' rfl X'
    exact ⟨t2, st t2 a1, b1⟩
  · obtain ⟨k1, k2, k3⟩ := vx_keep h0 e1 hS hAX hf hL hF
    obtain ⟨t2, a1, b1⟩ := kx E ce q u t T'.heap (locs ++ L) e1.symm (by rw [← e2]; exact X'.warmed.alike) hp hb k1 k2 k3 (by rw [e1]; exact hce) hcv hcl T' rfl X'
    exact ⟨t2, st.trans a1, b1⟩
theorem vx_callv {S SX : Type} {post : S → Prop} {px : SX → Prop} {B : S → State → Prop} {BX : String → SX → State → Prop} {AX : Nat → Prop} (hr : vx_Run p l e R s m args below meth c H locs cells slots mc ms (F0 m pc ls st0) rest (va_Qv post B A1 a) (vx_X px BX AX) free) (hS : va_S A0 H0 H locs) (hA : ∀ q, q < H.size → A1 q → A0 q) (hf : ∀ q, free q → A0 q) (hAX : ∀ q, q < H.size → AX q → A0 q)
    (kx : ∀ (E : String) (ce : Cell) (q9 : Addr) (u : SX) (t : State) (H1 : Heap) (locs1 : List Loc), t.heap = H1 → s.vm.Alike t.vm → px u → BX E u t → H.size ≤ H1.size → (∀ q : Nat, q < H.size → ¬ AX q → H1[q]? = H[q]?) → va_S A0 H0 H1 locs1 → H1[q9]? = some ce → ce.vm = .none → s.vm.findClass E = some ce.cls → vx_W p l e R s m args below meth c H1 locs1 (cells + mc) (slots + ms) Q (F0 m pc ls rest) q9)
    (kk : ∀ (u : S) (t : State) (H1 : Heap) (locs1 : List Loc), t.heap = H1 → s.vm.Alike t.vm → post u → B u t → H.size ≤ H1.size → (∀ q : Nat, q < H.size → ¬ A1 q → H1[q]? = H[q]?) → va_S A0 H0 H1 locs1 → W p l e R s m args below meth c H1 locs1 (cells + mc) (slots + ms) Q (F0 m (pc + 3) ls (rest))) : W p l e R s m args below meth c H locs cells slots Q (F0 m pc ls st0) := by
  intro T hT X
  rcases hr T hT X with ⟨v, st₀, t, T', L, h0, X', hL, e1, e2, ⟨⟨u, hv, hp, hb⟩, hF⟩, st⟩ | ⟨q, st₀, t, T', L, E, ce, h0, X', hL, e1, e2, ⟨u, hp, hb, hF⟩, hce, hcv, hcl, st⟩
  · cases hv
    obtain ⟨k1, k2, k3⟩ := vx_keep h0 e1 hS hA hf hL hF
    obtain ⟨t2, a1, b1⟩ := kk u t T'.heap (locs ++ L) e1.symm (by rw [← e2]; exact X'.warmed.alike) hp hb k1 k2 k3 T' rfl X'
    exact ⟨t2, st t2 a1, b1⟩
  · obtain ⟨k1, k2, k3⟩ := vx_keep h0 e1 hS hAX hf hL hF
    obtain ⟨t2, a1, b1⟩ := kx E ce q u t T'.heap (locs ++ L) e1.symm (by rw [← e2]; exact X'.warmed.alike) hp hb k1 k2 k3 (by rw [e1]; exact hce) hcv hcl T' rfl X'
    exact ⟨t2, st.trans a1, b1⟩
/-- caught by the row x of this method's table; the rows ahead don't take it -/
theorem vx_catch {own name : String} {E : String} {ce : Cell} {q : Addr} (hown : s.vm.findClass own = some m.cls) (pre : List ExceptionTableEntry) (x : ExceptionTableEntry) (suf : List ExceptionTableEntry) (hsplit : c.exceptionTable.toList = pre ++ x :: suf)
    (hpass : ∀ z ∈ pre, covers z pc = false ∨ (z.catchType ≠ 0 ∧ ∃ nm : String, (Cond.classLink own z.catchType nm).before args s = true ∧ va_Nc E nm s)) (hx : covers x pc = true) (h0 : x.catchType ≠ 0)
    (hlink : (Cond.classLink own x.catchType name).before args s = true) (hcast : (Cond.castable E name).before args s = true) (hcell : H[q]? = some ce) (hv : ce.vm = .none) (hcl : s.vm.findClass E = some ce.cls)
    (kk : W p l e R s m args below meth c H locs cells slots Q (F0 m x.handlerPc ls [.ref q])) : vx_W p l e R s m args below meth c H locs cells slots Q (F0 m pc ls rest) q := by
  intro T hT X
  have hpl : e.platform.magicAccessors = ({} : Platform).magicAccessors := by rw [X.admits.platform]
  obtain ⟨c3, c4, hc3, hc4, hasg⟩ := Cond.castable_spec hcast
  cases Option.some.inj (hc3.symm.trans hcl)
  obtain ⟨c5, hc5, hcl5⟩ := Cond.classLink_spec hown hlink e.platform hpl
  cases Option.some.inj (hc4.symm.trans hc5)
  obtain ⟨vm', X', st⟩ := X.thenCaughtThrough q (g := F0 m pc ls rest) rfl (Steps.refl _) (by rw [hT]; exact hcell) (by rw [hv]; rfl) (by obtain ⟨k9, h9, -⟩ := Vm.findClass_spec hcl; exact ⟨k9, h9⟩) pre x suf hsplit
    (fun z hz => by
      rcases hpass z hz with h | ⟨hz0, nm, hl1, hn1⟩
      · exact Or.inl h
      · obtain ⟨c6, hc6, hcl6⟩ := Cond.classLink_spec hown hl1 e.platform hpl
        obtain ⟨a8, b8, h1, h2, h3⟩ := hn1
        cases Option.some.inj (h1.symm.trans hcl)
        cases Option.some.inj (h2.symm.trans hc6)
        exact Or.inr ⟨hz0, _, hcl6, h3⟩) hx (Or.inr ⟨h0, c4, hcl5, hasg⟩)
  obtain ⟨t, a1, b1⟩ := kk (T.setVm vm') hT X'
  exact ⟨t, st.trans a1, b1⟩
end Rows
section Ends
variable {p : Program} {l : Launch} {e : Env} {R : Room} {s : State} {m : MethodId} {args : Array Value} {below : List Frame} {meth : Method} {c : Code} {H : Heap} {locs : List Loc} {cells slots : Nat} {Q : State → Prop}
variable {mc ms : Nat} {free : Addr → Prop} {A0 A1 : Nat → Prop} {H0 : Heap} {a : Array Value} {ls : Array Slot} {st0 rest : List Value}
variable {Qc : Array Value → State → Outcome → State → Prop} {XC : String → State → State → Prop}
/-- what a body that may throw owes at its end -/
def vx_MQ (below : List Frame) (Qc : Array Value → State → Outcome → State → Prop) (XC : String → State → State → Prop) (a : Array Value) (s : State) (mc ms : Nat) (free : Addr → Prop) : State → Prop := fun t =>
  ∃ o, t.status = .running ∧ Ended t below o ∧ vx_Q Qc XC mc ms free a s o t
theorem vx_ret {g : JFrame} {mc ms : Nat} (k : W p l e R s m args below meth c H locs cells slots (MQ below Qc args s mc ms free) g) : W p l e R s m args below meth c H locs cells slots (vx_MQ below Qc XC args s mc ms free) g := by
  intro T hT X
  obtain ⟨t, a1, o, b1, b2, b3, b4⟩ := k T hT X
  exact ⟨t, a1, o, b1, b2, Or.inl ⟨b3, b4⟩⟩
/-- not caught here: it goes on to the caller -/
theorem vx_widen {g : JFrame} {q : Addr} {k n : Nat} (h1 : cells ≤ k) (h2 : slots ≤ n) (kk : vx_W p l e R s m args below meth c H locs k n Q g q) : vx_W p l e R s m args below meth c H locs cells slots Q g q := fun T hT X => kk T hT (stand_widen X h1 h2)
theorem vx_out {pc : Nat} {E : String} {ce : Cell} {q : Addr} {mc ms : Nat} (hout : ∀ x ∈ c.exceptionTable.toList, covers x pc = false) (hlocks : meth.locks = false) (hcell : H[q]? = some ce) (hv : ce.vm = .none) (hcl : s.vm.findClass E = some ce.cls)
    (hx : ∀ t : State, t.heap = H → s.vm.Alike t.vm → XC E s t) (hf : ∀ z ∈ locs, free z.base) (hc : cells ≤ mc) (hs : slots ≤ ms) :
    vx_W p l e R s m args below meth c H locs cells slots (vx_MQ below Qc XC args s mc ms free) (F0 m pc ls rest) q := by
  intro T hT X
  obtain ⟨st1, hrun, hend, hW, hsm⟩ := X.leaveThrown q (g := F0 m pc ls rest) rfl rfl rfl hout hlocks
  have hcell9 : (T.setFrames (.throwing q :: below)).heap[q]? = some ce := by
    show T.heap[q]? = some ce
    rw [hT]; exact hcell
  exact ⟨_, st1, .threw q, hrun, hend, Or.inr ⟨q, rfl, E, ce, locs, hx _ hT hW.alike, hcell9, hv, hcl, hW, hsm.mono hc hs, hf⟩⟩
theorem vx_frame {U : State} {k n : Nat} (h : s.sameButNew ({ U with vm := s.vm } : State) locs k n) : s.heap.size ≤ U.heap.size ∧ ∀ q : Nat, q < s.heap.size → (∀ z ∈ locs, z.base ≠ q) → U.heap[q]? = s.heap[q]? := by
  obtain ⟨-, h2, -, -, -, h6⟩ := h
  refine ⟨h2, fun q hq hz => ?_⟩
  obtain ⟨c9, e1, e2, e3, e4⟩ := h6 q _ (Array.getElem?_eq_getElem hq)
  have hs : c9.slots = (s.heap[q]).slots := Array.ext_getElem? fun i => e4 i fun hm => hz _ hm rfl
  have h9 : c9 = s.heap[q] := by
    rw [hs] at e2
    exact e2
  have e5 : U.heap[q]? = some c9 := e1
  rw [e5, h9, Array.getElem?_eq_getElem hq]
/-- the words of a throw but the four that speak of the heap -/
def vx_no (w : Cond) : Bool := decide (w ≠ .isRef (.static Bundle.tN "UNASSIGNED_STACK" Bundle.steD)) && decide (w ≠ .isRef (.static Bundle.tN "SUPPRESSED_SENTINEL" Bundle.listD)) && decide (w ≠ .laysStatic Bundle.tN "UNASSIGNED_STACK" Bundle.steD) && decide (w ≠ .laysStatic Bundle.tN "SUPPRESSED_SENTINEL" Bundle.listD)
def vx_at0 (own : String) (ic : Nat) (X : String) (names : List String) : List Cond := (Bundle.ownAtoms0 own ic X names).filter vx_no
def vx_atS (own : String) (ic : Nat) (X : String) (names : List String) : List Cond := (Bundle.ownAtoms own ic X names).filter vx_no
/-- a word that the tables alone decide, or a good one -/
def vx_ot (w : Cond) : Bool := w.onTables || goodWord w
theorem vx_ot_at {args a' : Array Value} {s U : State} {w : Cond} (hW : s.WarmedH U.vm) (hvm : s.vm = U.vm) (hg : vx_ot w = true) (h : w.before args s = true) : w.before a' U = true := by
  simp only [vx_ot, Bool.or_eq_true] at hg
  rcases hg with hg | hg
  · exact va_tabs hg hvm h
  · exact word_at hW (good_of_word hg) h
/-- a list's words: the good ones out of the method's own list, the others by premises of their own -/
theorem vx_hat {args : Array Value} {s : State} {L B : List Cond} (h1 : ∀ w ∈ L.filter goodWord, w.before args s = true) (h2 : ∀ w ∈ L.filter (fun w => !goodWord w), w ∈ B) (h3 : ∀ w ∈ B, w.before args s = true) : ∀ w ∈ L, w.before args s = true := by
  intro w hw
  by_cases g : goodWord w = true
  · exact h1 w (List.mem_filter.mpr ⟨hw, g⟩)
  · refine h3 w (h2 w (List.mem_filter.mpr ⟨hw, ?_⟩))
    show (!goodWord w) = true
    cases hgw : goodWord w
    · rfl
    · exact absurd hgw g
theorem vx_c {args : Array Value} {s : State} {w : Cond} {B : List Cond} (h : w.before args s = true) (t : ∀ w ∈ B, w.before args s = true) : ∀ w' ∈ w :: B, w'.before args s = true := fun w' h' => (List.mem_cons.mp h').elim (fun e => by rw [e]; exact h) (t w')
theorem vx_n {args : Array Value} {s : State} : ∀ w ∈ ([] : List Cond), w.before args s = true := fun _ h => nomatch h
theorem vx_own {args : Array Value} {s : State} {L : List Cond} (h1 : ∀ w ∈ L.filter vx_no, w.before args s = true)
    (hU : (Cond.isRef (.static Bundle.tN "UNASSIGNED_STACK" Bundle.steD)).before args s = true) (hN : (Cond.isRef (.static Bundle.tN "SUPPRESSED_SENTINEL" Bundle.listD)).before args s = true)
    (lU : (Cond.laysStatic Bundle.tN "UNASSIGNED_STACK" Bundle.steD).before args s = true) (lN : (Cond.laysStatic Bundle.tN "SUPPRESSED_SENTINEL" Bundle.listD).before args s = true) : ∀ w ∈ L, w.before args s = true := by
  intro w hw
  by_cases e1 : w = .isRef (.static Bundle.tN "UNASSIGNED_STACK" Bundle.steD)
  · rw [e1]; exact hU
  · by_cases e2 : w = .isRef (.static Bundle.tN "SUPPRESSED_SENTINEL" Bundle.listD)
    · rw [e2]; exact hN
    · by_cases e3 : w = .laysStatic Bundle.tN "UNASSIGNED_STACK" Bundle.steD
      · rw [e3]; exact lU
      · by_cases e4 : w = .laysStatic Bundle.tN "SUPPRESSED_SENTINEL" Bundle.listD
        · rw [e4]; exact lN
        · exact h1 w (List.mem_filter.mpr ⟨hw, by unfold vx_no; rw [decide_eq_true e1, decide_eq_true e2, decide_eq_true e3, decide_eq_true e4]; rfl⟩)
/-- where a static field lies, its class's statics cell in H -/
def vx_L (C n d : String) (A : Nat → Prop) (U : State) (H : Heap) : Prop := ∃ (c : ClassId) (k : Class) (i : Nat) (f : Field) (a : Nat) (cell : Cell), U.vm.findClass C = some c ∧ U.fieldFound? C n d = some (c, k, i, f) ∧ f.isStatic = true ∧ k.statics = some a ∧ H[a]? = some cell ∧ cell.vm.isStatics = true ∧ cell.cls = c ∧ f.slot < cell.slots.size ∧ k.staticTypes[f.slot]? = some f.type ∧ ¬ A a
theorem vx_L.moved {C n d : String} {A : Nat → Prop} {u U : State} {H : Heap} (hvm : u.vm.Alike U.vm) (h : vx_L C n d A u H) : vx_L C n d A U H := by
  obtain ⟨c, k, i, f, a, cell, h1, h2, h3, h4, h5, h6, h7, h8, h9, h10⟩ := h
  obtain ⟨k', hi', he⟩ := State.fieldFound?_setVm hvm h2
  exact ⟨c, k', i, f, a, cell, by rw [hvm.findClass]; exact h1, hi', h3, by rw [he]; exact h4, h5, h6, h7, h8, by rw [he]; exact h9, h10⟩
theorem vx_L.kept {C n d : String} {A : Nat → Prop} {U : State} {H H1 : Heap} (h : vx_L C n d A U H) (hq : ∀ a : Nat, a < H.size → ¬ A a → H1[a]? = H[a]?) : vx_L C n d A U H1 := by
  obtain ⟨c, k, i, f, a, cell, h1, h2, h3, h4, h5, h6, h7, h8, h9, h10⟩ := h
  exact ⟨c, k, i, f, a, cell, h1, h2, h3, h4, by rw [hq a (Array.getElem?_eq_some_iff.mp h5).1 h10]; exact h5, h6, h7, h8, h9, h10⟩
theorem vx_L.narrow {C n d : String} {A B : Nat → Prop} {U : State} {H : Heap} (h : vx_L C n d A U H) (hAB : ∀ q, B q → A q) : vx_L C n d B U H := by
  obtain ⟨c, k, i, f, a, cell, h1, h2, h3, h4, h5, h6, h7, h8, h9, h10⟩ := h
  exact ⟨c, k, i, f, a, cell, h1, h2, h3, h4, h5, h6, h7, h8, h9, fun z => h10 (hAB _ z)⟩
theorem vx_L.word {C n d : String} {A : Nat → Prop} {s : State} {args : Array Value} (h : vx_L C n d A s s.heap) : (Cond.laysStatic C n d).before args s = true := by
  obtain ⟨c, k, i, f, a, cell, h1, h2, h3, h4, h5, h6, h7, h8, h9, -⟩ := h
  show (Cond.laysStatic C n d).holds args s none s [] = true
  exact Cond.laysStatic_of h1 h2 h3 h4 h5 h6 h7 h8 h9
/-- .. and what it holds: null or some reference -/
def vx_Zq (C n d : String) (A : Nat → Prop) (U : State) (H : Heap) : Prop := va_Zq C n d A U H ∧ vx_L C n d A U H
theorem vx_Zq.moved {C n d : String} {A : Nat → Prop} {u U : State} {H : Heap} (hvm : u.vm.Alike U.vm) (h : vx_Zq C n d A u H) : vx_Zq C n d A U H := ⟨va_Zq.moved hvm h.1, vx_L.moved hvm h.2⟩
theorem vx_Zq.kept {C n d : String} {A : Nat → Prop} {U : State} {H H1 : Heap} (h : vx_Zq C n d A U H) (hq : ∀ a : Nat, a < H.size → ¬ A a → H1[a]? = H[a]?) : vx_Zq C n d A U H1 := ⟨va_Zq.kept h.1 hq, vx_L.kept h.2 hq⟩
theorem vx_Zq.narrow {C n d : String} {A B : Nat → Prop} {U : State} {H : Heap} (h : vx_Zq C n d A U H) (hAB : ∀ q, B q → A q) : vx_Zq C n d B U H := ⟨va_Zq.narrow h.1 hAB, vx_L.narrow h.2 hAB⟩
theorem vx_Zqof {args : Array Value} {s : State} {C n d : String} {A : Nat → Prop} (hl : (Cond.laysStatic C n d).before args s = true) (hini : (Cond.initialized C).before args s = true) (h : (Cond.isRef (.static C n d)).before args s = true) (hA : ∀ a : Nat, a < s.heap.size → ¬ A a) : vx_Zq C n d A s s.heap := by
  refine ⟨va_Zqof hl hini h hA, ?_⟩
  obtain ⟨c, k, i, f, a, cell, h1, h2, h3, h4, h5, h6, h7, h8, h9⟩ := Cond.laysStatic_spec hl
  exact ⟨c, k, i, f, a, cell, h1, h2, h3, h4, h5, h6, h7, h8, h9, hA a (Array.getElem?_eq_some_iff.mp h5).1⟩
theorem vx_isRef {C n d : String} {v : Value} {A : Nat → Prop} {s : State} {args : Array Value} (h : va_Z C n d v A s s.heap) (hv : v.isRef = true) : (Cond.isRef (.static C n d)).before args s = true := by
  obtain ⟨cf, kf, fi, f, a, cell, h1, h2, h3, h4, h5, h6, h7, -⟩ := h
  have he : (Term.static C n d).eval args s none [] s = some v := by
    simp [Term.eval, State.fieldNamed?, h1, h2, h4, h5, h6, h7]
  simp only [Cond.before, Cond.holds, Cond.value, he]
  cases v <;> simp_all [Value.isRef]
theorem vx_isRefq {C n d : String} {A : Nat → Prop} {s : State} {args : Array Value} (h : va_Zq C n d A s s.heap) : (Cond.isRef (.static C n d)).before args s = true := by
  rcases h with h | ⟨t, h⟩
  · exact vx_isRef h rfl
  · exact vx_isRef h rfl
/-- the same frame, seen from here: as if the method were called anew in this heap -/
theorem vx_rebase {T : State} (X : Stand p l e R s m args below meth c T locs cells slots) {R' : Room} (hf : R'.frames ≤ R.frames) (hl : R'.locals ≤ R.locals) (hc : cells + R'.cells ≤ R.cells) (hs : slots + R'.slots ≤ R.slots) :
    Stand p l e R' ((T.setVm s.vm).setFrames (.invoking m args :: below)) m args below meth c T [] 0 0 := by
  have htop : (T.setVm s.vm).topJava?.isSome := X.here.top
  have hF : ((T.setVm s.vm).setFrames (.invoking m args :: below)).frames = .invoking m args :: below := State.frames_setFrames _ (State.cur_lt_of_top htop)
  obtain ⟨g₀, hg0⟩ := Option.isSome_iff_exists.mp htop
  obtain ⟨r, hr⟩ := State.topJava?_eq_some.mp hg0
  have hl9 : e.platform.stackLimits (T.setVm s.vm).me = e.platform.stackLimits s.me := X.limits
  have hb9 : (T.setVm s.vm).me.stackBytes = s.me.stackBytes := X.bytes
  refine ⟨X.admits, X.cas, X.clock, hF, ?_, X.hears, X.method, X.code, X.here, X.tail, X.warmed, ?_, ?_, ?_⟩
  · have h := X.room
    have hU : ((T.setVm s.vm).setFrames (.invoking m args :: below)).localsInUse = s.localsInUse := by
      rw [State.localsInUse_invoking hF (meth := meth) (c := c) X.method X.code, State.localsInUse_invoking X.frames X.method X.code]
    simp only [State.hasRoom, Bool.and_eq_true, decide_eq_true_eq] at h ⊢
    obtain ⟨⟨⟨⟨h1, h2, h3, h4, h5, h6⟩, h7⟩, h8⟩, h9⟩ := h
    rw [X.frames, List.length_cons] at h2 h3
    have q1 := X.heapSize
    have q2 := X.used
    simp only [hF, hU, List.length_cons, State.stackLimits_setFrames, State.stackBytes_setFrames, hl9, hb9]
    refine ⟨⟨⟨⟨by omega, by omega, by omega, by omega, by omega, h6⟩, ?_⟩, ?_⟩, X.book⟩
    · show T.heap.size + R'.cells ≤ e.platform.maxCells
      omega
    · show T.slotsUsed + R'.slots ≤ e.platform.maxSlots
      omega
  · rw [State.stackLimits_setFrames]; rfl
  · rw [State.stackBytes_setFrames]; rfl
  · refine ⟨?_, Nat.le_refl _, Nat.le_refl _, ?_, ?_, fun a c9 h9 => ⟨c9, h9, rfl, rfl, fun _ _ => rfl⟩⟩
    · obtain ⟨t, ht, -⟩ := State.frames_cons hr
      show T.setVm s.vm = { ((T.setVm s.vm).setFrames (.invoking m args :: below)).setFrames (T.setVm s.vm).frames with heap := T.heap, slotsUsed := T.slotsUsed }
      rw [State.setFrames_setFrames, State.setFrames_self ht]
      rfl
    · show T.slotsUsed = T.slotsUsed + ((T.heap.toList.drop T.heap.size).map (·.slots.size)).sum
      rw [List.drop_eq_nil_of_le (Nat.le_of_eq Array.length_toList)]
      rfl
    · show ((T.heap.toList.drop T.heap.size).map (·.slots.size)).sum ≤ 0
      rw [List.drop_eq_nil_of_le (Nat.le_of_eq Array.length_toList)]
      exact Nat.le_refl _
/-- 'throw new E()': new; dup; invokespecial; athrow -/
theorem vx_throw0 {cc : ByteArray} {pc : Nat} (hexec : p.tables.exec = Jvm.exec) (hb : c.code = cc) (hl : l.stackTraces = false) {own cls : String} {names : List String} {ik ic mc ms : Nat} {A : Nat → Prop}
    (hown : s.vm.findClass own = some m.cls) (hcls : Bundle.fit cls = true) (hnames : ∀ n ∈ names, Bundle.fit n = true)
    (hk : (Cond.classLink own ik cls).before args s = true) (hini : (Cond.initialized cls).before args s = true) (hat : ∀ w ∈ vx_at0 own ic cls names, w.before args s = true)
    (hgood : ∀ w ∈ Cond.classLink own ik cls :: Cond.initialized cls :: vx_at0 own ic cls names, vx_ot w = true)
    (hU : vx_Zq Bundle.tN "UNASSIGNED_STACK" Bundle.steD A s s.heap) (hN : vx_Zq Bundle.tN "SUPPRESSED_SENTINEL" Bundle.listD A s s.heap) (hS : va_S A s.heap H locs) (hsize : ls.size = c.maxLocals)
    (d0 : decode cc pc = .ok (.new ik, 3)) (d3 : decode cc (pc + 3) = .ok (.dup, 1)) (d4 : decode cc (pc + 4) = .ok (.invokespecial ic, 3)) (d7 : decode cc (pc + 7) = .ok (.athrow, 1))
    (hout : ∀ x ∈ c.exceptionTable.toList, covers x (pc + 7) = false)
    (hRframes : names.length + 3 < R.frames) (hRlocals : (rest.map fun v => v.category).sum + (13 * (names.length + 1) + 42) ≤ R.locals) (hRcells : cells + 1 ≤ R.cells) (hRslots : slots + 6 ≤ R.slots) (hlocks : meth.locks = false)
    (hx : ∀ t : State, s.vm.Alike t.vm → H.size ≤ t.heap.size → (∀ q : Nat, q < H.size → t.heap[q]? = H[q]?) → XC cls s t)
    (hf : ∀ z ∈ locs, free z.base) (hc : cells + 1 ≤ mc) (hs : slots + 6 ≤ ms) :
    W p l e R s m args below meth c H locs cells slots (vx_MQ below Qc XC args s mc ms free) (F0 m pc ls rest) := by
  intro T hT X
  have htr : e.platform.stackTraces = false := (show e.platform.stackTraces = l.stackTraces by rw [X.admits.platform]).trans hl
  have Y := vx_rebase X (R' := { frames := R.frames, locals := R.locals, cells := 1, slots := 6 }) (Nat.le_refl _) (Nat.le_refl _) hRcells hRslots
  obtain ⟨s', hA⟩ : ∃ z, z = (T.setVm s.vm).setFrames (.invoking m args :: below) := ⟨_, rfl⟩
  rw [← hA] at Y
  have hvm : s'.vm = s.vm := by rw [hA]; rfl
  have hhp : s'.heap = H := by rw [hA]; exact hT
  have hW0 : s.WarmedH s'.vm := by rw [hvm]; exact State.WarmedH.refl s
  have hat' : ∀ w ∈ vx_at0 own ic cls names, w.before args s' = true := fun w hw => vx_ot_at hW0 hvm.symm (hgood w (List.mem_cons_of_mem _ (List.mem_cons_of_mem _ hw))) (hat w hw)
  have hk' : (Cond.classLink own ik cls).before args s' = true := vx_ot_at hW0 hvm.symm (hgood _ List.mem_cons_self) hk
  have hini' : (Cond.initialized cls).before args s' = true := vx_ot_at hW0 hvm.symm (hgood _ (List.mem_cons_of_mem _ List.mem_cons_self)) hini
  have hU' : vx_Zq Bundle.tN "UNASSIGNED_STACK" Bundle.steD A s' s'.heap := by rw [hhp]; exact vx_Zq.moved hW0.alike (hU.kept hS.2.1)
  have hN' : vx_Zq Bundle.tN "SUPPRESSED_SENTINEL" Bundle.listD A s' s'.heap := by rw [hhp]; exact vx_Zq.moved hW0.alike (hN.kept hS.2.1)
  have h : ∀ w ∈ Bundle.ownAtoms0 own ic cls names, w.before args s' = true := vx_own hat' (vx_isRefq hU'.1) (vx_isRefq hN'.1) hU'.2.word hN'.2.word
  have hown' : s'.vm.findClass own = some m.cls := by rw [hvm]; exact hown
  have hins : (Cond.instantiable cls 6).before args s' = true := h _ (by simp [Bundle.ownAtoms0])
  obtain ⟨vm₁, cX, kX, hfX, hkX, -, -, X₁, st1⟩ := Y.newCold hexec (own := own) (C := cls) (index := ik) (n := 6) hown' hk' hins hini'
    (g := F0 m pc ls rest) rfl (by rw [hb]; exact d0) (Nat.le_refl _) (Nat.le_refl _)
  generalize hT1 : (T.setVm vm₁).pushCell { cls := cX, slots := kX.instanceTypes.map defaultValue, vm := .none } = T1 at X₁ st1
  have hcat : (Value.ref T.heap.size).category = 1 := rfl
  have hcellA : T1.heap[T.heap.size]? = some (freshCell cX kX) := by rw [← hT1]; exact State.heap_pushCell_size _ _
  have d3' : decode c.code (pc + 3) = .ok (.dup, 1) := by rw [hb]; exact d3
  obtain ⟨U, hsteps, hrun, hend, hW, hsame, ce, hce, hO⟩ := X₁.ctorThrow0 hexec htr (own := own) (cls := cls) (names := names) (ic := ic) hown' hcls hnames h (fun x hx => nomatch hx) hfX hkX hcellA (by rw [hhp, hT]; exact Nat.le_refl _)
    (g := { method := m, pc := pc + 4, locals := ls, stack := .ref T.heap.size :: .ref T.heap.size :: rest, locked := none }) rfl hsize rfl rfl (rest := rest) rfl
    (by rw [hb]; exact d4) (by rw [hb]; exact d7) hout hRframes (by simp only [List.map_cons, List.sum_cons, hcat]; omega) hlocks
  obtain ⟨f1, f2⟩ := vx_frame hsame
  rw [hhp] at f1 f2
  have hWs : s.WarmedH U.vm := State.WarmedH.trans hW0 hW
  have hcl : s.vm.findClass cls = some ce.cls := by
    have h9 := hO.cls
    rw [hvm] at h9
    exact h9
  have hall : s.sameButNew ({ U with vm := s.vm } : State) locs mc ms := by
    subst hA
    obtain ⟨e1, e2⟩ := hsame
    rw [State.setFrames_setFrames] at e1
    have h2 : (T.setVm s.vm).sameButNew ({ U with vm := s.vm } : State) [] (0 + 1) (0 + 6) := ⟨e1, e2⟩
    have h3 := X.same.trans h2
    rw [List.append_nil] at h3
    exact h3.mono hc hs
  refine ⟨U, ?_, .threw T.heap.size, hrun, hend, Or.inr ⟨T.heap.size, rfl, cls, ce, locs, hx U hWs.alike f1 (fun q hq => f2 q hq (fun z hz => nomatch hz)), hce, hO.vm, hcl, hWs, hall, hf⟩⟩
  refine st1 _ ?_
  show Steps p.tables e below (T1.setTop { method := m, pc := pc + 3, locals := ls, stack := .ref T.heap.size :: rest, locked := none }) _
  jvm_step X₁.here [X₁.here.top, hexec, d3', Value.category]
  exact hsteps
/-- 'throw new E("text")': new; dup; ldc; invokespecial; athrow -/
theorem vx_throwS {cc : ByteArray} {pc : Nat} (hexec : p.tables.exec = Jvm.exec) (hb : c.code = cc) (hl : l.stackTraces = false) {own cls text : String} {names : List String} {ik is ic mc ms sa : Nat} {A : Nat → Prop}
    (hown : s.vm.findClass own = some m.cls) (hcls : Bundle.fit cls = true) (hnames : ∀ n ∈ names, Bundle.fit n = true)
    (hk : (Cond.classLink own ik cls).before args s = true) (hini : (Cond.initialized cls).before args s = true) (hstr : vk_R own is text sa s) (hat : ∀ w ∈ vx_atS own ic cls names, w.before args s = true)
    (hgood : ∀ w ∈ Cond.classLink own ik cls :: Cond.initialized cls :: vx_atS own ic cls names, vx_ot w = true)
    (hU : vx_Zq Bundle.tN "UNASSIGNED_STACK" Bundle.steD A s s.heap) (hN : vx_Zq Bundle.tN "SUPPRESSED_SENTINEL" Bundle.listD A s s.heap) (hS : va_S A s.heap H locs) (hsize : ls.size = c.maxLocals)
    (d0 : decode cc pc = .ok (.new ik, 3)) (d3 : decode cc (pc + 3) = .ok (.dup, 1)) (d4 : decode cc (pc + 4) = .ok (.ldc is, 2)) (d6 : decode cc (pc + 6) = .ok (.invokespecial ic, 3)) (d9 : decode cc (pc + 9) = .ok (.athrow, 1))
    (hout : ∀ x ∈ c.exceptionTable.toList, covers x (pc + 9) = false)
    (hRframes : names.length + 3 < R.frames) (hRlocals : (rest.map fun v => v.category).sum + (13 * (names.length + 1) + 43) ≤ R.locals) (hRcells : cells + 1 ≤ R.cells) (hRslots : slots + 6 ≤ R.slots) (hlocks : meth.locks = false)
    (hx : ∀ t : State, s.vm.Alike t.vm → H.size ≤ t.heap.size → (∀ q : Nat, q < H.size → t.heap[q]? = H[q]?) → XC cls s t)
    (hf : ∀ z ∈ locs, free z.base) (hc : cells + 1 ≤ mc) (hs : slots + 6 ≤ ms) :
    W p l e R s m args below meth c H locs cells slots (vx_MQ below Qc XC args s mc ms free) (F0 m pc ls rest) := by
  intro T hT X
  have htr : e.platform.stackTraces = false := (show e.platform.stackTraces = l.stackTraces by rw [X.admits.platform]).trans hl
  have Y := vx_rebase X (R' := { frames := R.frames, locals := R.locals, cells := 1, slots := 6 }) (Nat.le_refl _) (Nat.le_refl _) hRcells hRslots
  obtain ⟨s', hA⟩ : ∃ z, z = (T.setVm s.vm).setFrames (.invoking m args :: below) := ⟨_, rfl⟩
  rw [← hA] at Y
  have hvm : s'.vm = s.vm := by rw [hA]; rfl
  have hhp : s'.heap = H := by rw [hA]; exact hT
  have hW0 : s.WarmedH s'.vm := by rw [hvm]; exact State.WarmedH.refl s
  have hat' : ∀ w ∈ vx_atS own ic cls names, w.before args s' = true := fun w hw => vx_ot_at hW0 hvm.symm (hgood w (List.mem_cons_of_mem _ (List.mem_cons_of_mem _ hw))) (hat w hw)
  have hk' : (Cond.classLink own ik cls).before args s' = true := vx_ot_at hW0 hvm.symm (hgood _ List.mem_cons_self) hk
  have hini' : (Cond.initialized cls).before args s' = true := vx_ot_at hW0 hvm.symm (hgood _ (List.mem_cons_of_mem _ List.mem_cons_self)) hini
  have hU' : vx_Zq Bundle.tN "UNASSIGNED_STACK" Bundle.steD A s' s'.heap := by rw [hhp]; exact vx_Zq.moved hW0.alike (hU.kept hS.2.1)
  have hN' : vx_Zq Bundle.tN "SUPPRESSED_SENTINEL" Bundle.listD A s' s'.heap := by rw [hhp]; exact vx_Zq.moved hW0.alike (hN.kept hS.2.1)
  have h : ∀ w ∈ Bundle.ownAtoms own ic cls names, w.before args s' = true := vx_own hat' (vx_isRefq hU'.1) (vx_isRefq hN'.1) hU'.2.word hN'.2.word
  have hown' : s'.vm.findClass own = some m.cls := by rw [hvm]; exact hown
  have hins : (Cond.instantiable cls 6).before args s' = true := h _ (by simp [Bundle.ownAtoms])
  obtain ⟨vm₁, cX, kX, hfX, hkX, -, -, X₁, st1⟩ := Y.newCold hexec (own := own) (C := cls) (index := ik) (n := 6) hown' hk' hins hini'
    (g := F0 m pc ls rest) rfl (by rw [hb]; exact d0) (Nat.le_refl _) (Nat.le_refl _)
  generalize hT1 : (T.setVm vm₁).pushCell { cls := cX, slots := kX.instanceTypes.map defaultValue, vm := .none } = T1 at X₁ st1
  have hcat : (Value.ref T.heap.size).category = 1 := rfl
  have hcellA : T1.heap[T.heap.size]? = some (freshCell cX kX) := by rw [← hT1]; exact State.heap_pushCell_size _ _
  have d3' : decode c.code (pc + 3) = .ok (.dup, 1) := by rw [hb]; exact d3
  have d4' : decode c.code (pc + 4) = .ok (.ldc is, 2) := by rw [hb]; exact d4
  have hstr' : vk_R own is text sa s' := vk_R.warm hW0 hstr
  obtain ⟨U, hsteps, hrun, hend, hW, hsame, ce, hce, hO⟩ := X₁.ctorThrowS hexec htr (own := own) (cls := cls) (names := names) (ic := ic) hown' hcls hnames h (fun x hx => nomatch hx) hfX hkX hcellA (by rw [hhp, hT]; exact Nat.le_refl _) (msg := .ref sa) rfl
    (g := { method := m, pc := pc + 6, locals := ls, stack := .ref sa :: .ref T.heap.size :: .ref T.heap.size :: rest, locked := none }) rfl hsize rfl rfl (rest := rest) rfl
    (by rw [hb]; exact d6) (by rw [hb]; exact d9) hout hRframes (by simp only [List.map_cons, List.sum_cons, hcat]; omega) hlocks
  obtain ⟨f1, f2⟩ := vx_frame hsame
  rw [hhp] at f1 f2
  have hWs : s.WarmedH U.vm := State.WarmedH.trans hW0 hW
  have hcl : s.vm.findClass cls = some ce.cls := by
    have h9 := hO.cls
    rw [hvm] at h9
    exact h9
  have hall : s.sameButNew ({ U with vm := s.vm } : State) locs mc ms := by
    subst hA
    obtain ⟨e1, e2⟩ := hsame
    rw [State.setFrames_setFrames] at e1
    have h2 : (T.setVm s.vm).sameButNew ({ U with vm := s.vm } : State) [] (0 + 1) (0 + 6) := ⟨e1, e2⟩
    have h3 := X.same.trans h2
    rw [List.append_nil] at h3
    exact h3.mono hc hs
  refine ⟨U, ?_, .threw T.heap.size, hrun, hend, Or.inr ⟨T.heap.size, rfl, cls, ce, locs, hx U hWs.alike f1 (fun q hq => f2 q hq (fun z hz => nomatch hz)), hce, hO.vm, hcl, hWs, hall, hf⟩⟩
  refine st1 _ ?_
  show Steps p.tables e below (T1.setTop { method := m, pc := pc + 3, locals := ls, stack := .ref T.heap.size :: rest, locked := none }) _
  jvm_step X₁.here [X₁.here.top, hexec, d3', Value.category]
  exact X₁.ldcString hexec (own := own) (text := text) (index := is) (a := sa) hown' hstr'.1 hstr'.2
    (g := { method := m, pc := pc + 4, locals := ls, stack := .ref T.heap.size :: .ref T.heap.size :: rest, locked := none }) rfl d4' _ hsteps
/-- 'throw new E("text")', the text by a wide index -/
theorem vx_throwSW {cc : ByteArray} {pc : Nat} (hexec : p.tables.exec = Jvm.exec) (hb : c.code = cc) (hl : l.stackTraces = false) {own cls text : String} {names : List String} {ik is ic mc ms sa : Nat} {A : Nat → Prop}
    (hown : s.vm.findClass own = some m.cls) (hcls : Bundle.fit cls = true) (hnames : ∀ n ∈ names, Bundle.fit n = true)
    (hk : (Cond.classLink own ik cls).before args s = true) (hini : (Cond.initialized cls).before args s = true) (hstr : vk_R own is text sa s) (hat : ∀ w ∈ vx_atS own ic cls names, w.before args s = true)
    (hgood : ∀ w ∈ Cond.classLink own ik cls :: Cond.initialized cls :: vx_atS own ic cls names, vx_ot w = true)
    (hU : vx_Zq Bundle.tN "UNASSIGNED_STACK" Bundle.steD A s s.heap) (hN : vx_Zq Bundle.tN "SUPPRESSED_SENTINEL" Bundle.listD A s s.heap) (hS : va_S A s.heap H locs) (hsize : ls.size = c.maxLocals)
    (d0 : decode cc pc = .ok (.new ik, 3)) (d3 : decode cc (pc + 3) = .ok (.dup, 1)) (d4 : decode cc (pc + 4) = .ok (.ldc_w is, 3)) (d7 : decode cc (pc + 7) = .ok (.invokespecial ic, 3)) (d10 : decode cc (pc + 10) = .ok (.athrow, 1))
    (hout : ∀ x ∈ c.exceptionTable.toList, covers x (pc + 10) = false)
    (hRframes : names.length + 3 < R.frames) (hRlocals : (rest.map fun v => v.category).sum + (13 * (names.length + 1) + 43) ≤ R.locals) (hRcells : cells + 1 ≤ R.cells) (hRslots : slots + 6 ≤ R.slots) (hlocks : meth.locks = false)
    (hx : ∀ t : State, s.vm.Alike t.vm → H.size ≤ t.heap.size → (∀ q : Nat, q < H.size → t.heap[q]? = H[q]?) → XC cls s t)
    (hf : ∀ z ∈ locs, free z.base) (hc : cells + 1 ≤ mc) (hs : slots + 6 ≤ ms) :
    W p l e R s m args below meth c H locs cells slots (vx_MQ below Qc XC args s mc ms free) (F0 m pc ls rest) := by
  intro T hT X
  have htr : e.platform.stackTraces = false := (show e.platform.stackTraces = l.stackTraces by rw [X.admits.platform]).trans hl
  have Y := vx_rebase X (R' := { frames := R.frames, locals := R.locals, cells := 1, slots := 6 }) (Nat.le_refl _) (Nat.le_refl _) hRcells hRslots
  obtain ⟨s', hA⟩ : ∃ z, z = (T.setVm s.vm).setFrames (.invoking m args :: below) := ⟨_, rfl⟩
  rw [← hA] at Y
  have hvm : s'.vm = s.vm := by rw [hA]; rfl
  have hhp : s'.heap = H := by rw [hA]; exact hT
  have hW0 : s.WarmedH s'.vm := by rw [hvm]; exact State.WarmedH.refl s
  have hat' : ∀ w ∈ vx_atS own ic cls names, w.before args s' = true := fun w hw => vx_ot_at hW0 hvm.symm (hgood w (List.mem_cons_of_mem _ (List.mem_cons_of_mem _ hw))) (hat w hw)
  have hk' : (Cond.classLink own ik cls).before args s' = true := vx_ot_at hW0 hvm.symm (hgood _ List.mem_cons_self) hk
  have hini' : (Cond.initialized cls).before args s' = true := vx_ot_at hW0 hvm.symm (hgood _ (List.mem_cons_of_mem _ List.mem_cons_self)) hini
  have hU' : vx_Zq Bundle.tN "UNASSIGNED_STACK" Bundle.steD A s' s'.heap := by rw [hhp]; exact vx_Zq.moved hW0.alike (hU.kept hS.2.1)
  have hN' : vx_Zq Bundle.tN "SUPPRESSED_SENTINEL" Bundle.listD A s' s'.heap := by rw [hhp]; exact vx_Zq.moved hW0.alike (hN.kept hS.2.1)
  have h : ∀ w ∈ Bundle.ownAtoms own ic cls names, w.before args s' = true := vx_own hat' (vx_isRefq hU'.1) (vx_isRefq hN'.1) hU'.2.word hN'.2.word
  have hown' : s'.vm.findClass own = some m.cls := by rw [hvm]; exact hown
  have hins : (Cond.instantiable cls 6).before args s' = true := h _ (by simp [Bundle.ownAtoms])
  obtain ⟨vm₁, cX, kX, hfX, hkX, -, -, X₁, st1⟩ := Y.newCold hexec (own := own) (C := cls) (index := ik) (n := 6) hown' hk' hins hini'
    (g := F0 m pc ls rest) rfl (by rw [hb]; exact d0) (Nat.le_refl _) (Nat.le_refl _)
  generalize hT1 : (T.setVm vm₁).pushCell { cls := cX, slots := kX.instanceTypes.map defaultValue, vm := .none } = T1 at X₁ st1
  have hcat : (Value.ref T.heap.size).category = 1 := rfl
  have hcellA : T1.heap[T.heap.size]? = some (freshCell cX kX) := by rw [← hT1]; exact State.heap_pushCell_size _ _
  have d3' : decode c.code (pc + 3) = .ok (.dup, 1) := by rw [hb]; exact d3
  have d4' : decode c.code (pc + 4) = .ok (.ldc_w is, 3) := by rw [hb]; exact d4
  have hstr' : vk_R own is text sa s' := vk_R.warm hW0 hstr
  obtain ⟨U, hsteps, hrun, hend, hW, hsame, ce, hce, hO⟩ := X₁.ctorThrowS hexec htr (own := own) (cls := cls) (names := names) (ic := ic) hown' hcls hnames h (fun x hx => nomatch hx) hfX hkX hcellA (by rw [hhp, hT]; exact Nat.le_refl _) (msg := .ref sa) rfl
    (g := { method := m, pc := pc + 7, locals := ls, stack := .ref sa :: .ref T.heap.size :: .ref T.heap.size :: rest, locked := none }) rfl hsize rfl rfl (rest := rest) rfl
    (by rw [hb]; exact d7) (by rw [hb]; exact d10) hout hRframes (by simp only [List.map_cons, List.sum_cons, hcat]; omega) hlocks
  obtain ⟨f1, f2⟩ := vx_frame hsame
  rw [hhp] at f1 f2
  have hWs : s.WarmedH U.vm := State.WarmedH.trans hW0 hW
  have hcl : s.vm.findClass cls = some ce.cls := by
    have h9 := hO.cls
    rw [hvm] at h9
    exact h9
  have hall : s.sameButNew ({ U with vm := s.vm } : State) locs mc ms := by
    subst hA
    obtain ⟨e1, e2⟩ := hsame
    rw [State.setFrames_setFrames] at e1
    have h2 : (T.setVm s.vm).sameButNew ({ U with vm := s.vm } : State) [] (0 + 1) (0 + 6) := ⟨e1, e2⟩
    have h3 := X.same.trans h2
    rw [List.append_nil] at h3
    exact h3.mono hc hs
  refine ⟨U, ?_, .threw T.heap.size, hrun, hend, Or.inr ⟨T.heap.size, rfl, cls, ce, locs, hx U hWs.alike f1 (fun q hq => f2 q hq (fun z hz => nomatch hz)), hce, hO.vm, hcl, hWs, hall, hf⟩⟩
  refine st1 _ ?_
  show Steps p.tables e below (T1.setTop { method := m, pc := pc + 3, locals := ls, stack := .ref T.heap.size :: rest, locked := none }) _
  jvm_step X₁.here [X₁.here.top, hexec, d3', Value.category]
  exact X₁.ldcStringW hexec (own := own) (text := text) (index := is) (a := sa) hown' hstr'.1 hstr'.2
    (g := { method := m, pc := pc + 4, locals := ls, stack := .ref T.heap.size :: .ref T.heap.size :: rest, locked := none }) rfl d4' _ hsteps
end Ends
section Bodies
variable {l : Launch}
theorem vx_ofW {y : MethodName} {ws ws' : List Cond} {rm : Room} {Pc : Array Value → State → Prop} {Qc : Array Value → State → Outcome → State → Prop} {XC : String → State → State → Prop} {mc ms : Nat} {free : Addr → Prop} {cc : ByteArray} {maxL : Nat} {ret : Option FieldType}
    (hy : plainName y.cls = true) (hw : ws = Cond.code y cc maxL ret :: ws')
    (body : ∀ p e s m args below meth c s₁, BodyLoose p l y (headSpec ws rm) cc maxL ret e s m args below meth c s₁ → c.maxLocals = maxL → (∀ x ∈ c.exceptionTable.toList, False) → Pc args s →
      W p l e (headSpec ws rm).room s m args below meth c s.heap [] 0 0 (vx_MQ below Qc XC args s mc ms free) (entryFrame m args maxL)) : vx_Met l y ws rm Pc Qc XC mc ms free := by
  refine MetFree.of_bodyS (code := cc) (maxLocals := maxL) (ret := ret) hy ?_ ?_
  · intro args s m h hn
    obtain ⟨meth, c, h1, h2, h3, h4, h5, h6, -, -⟩ := Cond.code_spec hn (atoms_spec (ws := ws) h _ (by rw [hw]; exact List.mem_cons_self))
    exact ⟨meth, c, h1, h2, h3, h4, h5, h6⟩
  · intro p e s m args below meth c s₁ B hml hP _
    have hh0 : s₁.heap = s.heap := by rw [B.state]; rfl
    have ht : ∀ x ∈ c.exceptionTable.toList, False := by
      obtain ⟨meth9, c9, h1, h2, -, -, -, -, h7, -⟩ := Cond.code_spec B.named (atoms_spec (ws := ws) B.pre _ (by rw [hw]; exact List.mem_cons_self))
      cases Option.some.inj (h1.symm.trans B.method)
      cases Option.some.inj (h2.symm.trans (Stand.of_body B).code)
      intro x hx
      rw [Array.isEmpty_iff.mp h7] at hx
      cases hx
    obtain ⟨t, a1, o, b1, b2, b3⟩ := body p e s m args below meth c s₁ B hml ht hP s₁ hh0 (Stand.of_body B)
    exact ⟨t, o, a1, b1, b2, b3⟩
/-- the table of a body with handlers -/
theorem vx_table {p : Program} {x y : MethodName} {S : Spec} {cc bytes : ByteArray} {maxL maxL' : Nat} {ret ret' : Option FieldType} {e : Env} {s s₁ : State} {m : MethodId} {args : Array Value} {below : List Frame} {meth : Method} {c : Code} {hh : List (Nat × Nat × Nat × Nat)}
    (B : BodyLoose p l y S cc maxL ret e s m args below meth c s₁) (h : (Cond.codeWith y bytes maxL' ret' hh).before args s = true) : c.exceptionTable.toList = tableOf hh := by
  obtain ⟨m9, meth9, c9, hn9, h1, h2, -, -, h6, -⟩ := Cond.codeWith_spec h
  cases Option.some.inj (hn9.symm.trans B.named)
  cases Option.some.inj (h1.symm.trans B.method)
  cases Option.some.inj (h2.symm.trans (Stand.of_body B).code)
  rw [← h6, table_eq]
end Bodies
end VXA
/-! ===== END ===== -/
/-! ===== BEGIN a static call of a method with an exception table ===== -/
section VXS
variable {p : Program} {l : Launch} {e : Env} {R : Room} {s : State} {m : MethodId} {args : Array Value} {below : List Frame} {meth : Method} {c : Code} {T : State} {H : Heap} {locs : List Loc} {cells slots : Nat}
abbrev vx_CSW (R : Room) (s : State) (args : Array Value) (own : String) (index : Nat) (y : MethodName) (bytes : ByteArray) (maxL : Nat) (ret : Option FieldType) (hh : List (Nat × Nat × Nat × Nat)) (ws : List Cond) (rm : Room) (mc ms n : Nat) : Prop :=
  (rm.cells = mc ∧ rm.slots = ms ∧ rm.frames + 1 ≤ R.frames ∧ 8 + (maxL + 11) + rm.locals ≤ R.locals ∧ (∀ w ∈ ws, ∀ (a' : Array Value) (U : State), s.WarmedH U.vm → w.before a' U = true) ∧ Cond.codeWith y bytes maxL ret hh ∈ ws) ∧
  (Cond.codeWith y bytes maxL ret hh).before args s = true ∧ (Cond.initialized y.cls).before args s = true ∧ (y.cls ≠ "java/lang/invoke/MethodHandle" ∧ y.cls ≠ "java/lang/invoke/VarHandle") ∧
  (∀ sig, parseMethodDescriptor y.desc = some sig → n = sig.parameters.length) ∧ (Cond.methodLink own index y).before args s = true ∧ (Cond.static y).before args s = true
theorem vx_cwSW {own : String} {index maxL mc ms : Nat} {y : MethodName} {bytes : ByteArray} {ret : Option FieldType} {hh : List (Nat × Nat × Nat × Nat)} {Ts ws ws' : List Cond} {rm : Room} (n : Nat) (ht : ∀ w ∈ Ts, w.before args s = true) (hT : GoodIn Ts (va_wsS own index y ws)) (hw : ws = Cond.codeWith y bytes maxL ret hh :: ws') (hrc : rm.cells = mc) (hrs : rm.slots = ms)
    (hd : y.cls ≠ "java/lang/invoke/MethodHandle" ∧ y.cls ≠ "java/lang/invoke/VarHandle" ∧ (parseMethodDescriptor y.desc).map (fun d => d.parameters.length) = some n) (hR : rm.frames + 1 ≤ R.frames ∧ 8 + (maxL + 11) + rm.locals ≤ R.locals) :
    vx_CSW R s args own index y bytes maxL ret hh ws rm mc ms n := by
  have ok : ∀ w ∈ va_wsS own index y ws, w.before args s = true := fun w h => ht w (hT w h).1
  have hG : GoodIn Ts ws := fun w h => hT w (by unfold va_wsS; exact List.mem_append_right _ h)
  have hc : Cond.codeWith y bytes maxL ret hh ∈ ws := by rw [hw]; exact List.mem_cons_self
  refine ⟨⟨hrc, hrs, hR.1, hR.2, pay_in ht hG, hc⟩, ht _ (hG _ hc).1, ok _ (by simp [va_wsS]), ⟨hd.1, hd.2.1⟩, fun sig h => ?_, ok _ (by simp [va_wsS]), ok _ (by simp [va_wsS])⟩
  have h2 := hd.2.2
  rw [h] at h2
  exact (Option.some.inj h2).symm
theorem vx_callSW (X : Stand p l e R s m args below meth c T locs cells slots) (hexec : p.tables.exec = Jvm.exec) {own : String} {index : Nat} {y : MethodName} {bytes : ByteArray} {maxL : Nat} {ret : Option FieldType} {hh : List (Nat × Nat × Nat × Nat)}
    (hown : s.vm.findClass own = some m.cls) (hlink : (Cond.methodLink own index y).before args s = true) (hstat : (Cond.static y).before args s = true) (hinit : (Cond.initialized y.cls).before args s = true)
    (hcode : (Cond.codeWith y bytes maxL ret hh).before args s = true) (hy : y.cls ≠ "java/lang/invoke/MethodHandle" ∧ y.cls ≠ "java/lang/invoke/VarHandle")
    {W9 : Nat} {Pre : Pt → Array Value → Prop} {Post : Pt → Array Value → Option Value → Pt → Prop} (hK : Back l R p e below s args y 3 W9 Pre Post)
    {g : JFrame} (hg : g.method = m) (hsize : g.locals.size = c.maxLocals) {argsL rest : List Value} (hlen : ∀ sig, parseMethodDescriptor y.desc = some sig → argsL.length = sig.parameters.length)
    (hstack : g.stack = argsL.reverse ++ rest) (hW : 2 * g.monitorRoom + (rest.map fun v => v.category).sum ≤ W9) (hdg : decode c.code g.pc = .ok (.invokestatic index, 3))
    (hpre : ∀ vm₁, s.WarmedH vm₁ → Pre ⟨T.setVm vm₁, locs, cells, slots⟩ argsL.toArray) :
    ∃ (v : Option Value) (vm₁ : Vm) (B : Pt), s.WarmedH vm₁ ∧ Stand p l e R s m args below meth c B.U B.locs B.cells B.slots ∧ Post ⟨T.setVm vm₁, locs, cells, slots⟩ argsL.toArray v B ∧
      ∀ target, Steps p.tables e below (B.U.setTop { g with pc := g.pc + 3, stack := v.toList ++ rest }) target → Steps p.tables e below (T.setTop g) target := by
  obtain ⟨mk, methM, cM, hnamed, hmethM, -, -, -, -, -, -, hsigM⟩ := Cond.codeWith_spec hcode
  have hstatic : methM.isStatic = true := Cond.static_spec hnamed hmethM hstat
  obtain ⟨kP, hkP, -⟩ := className_of_methodNamed hnamed
  have hinitP : kP.init = .initialized := Cond.initialized_spec (findClass_of_methodNamed hnamed) hkP hinit
  obtain ⟨vm₁, X₁, hstep₁⟩ := X.invokestatic hexec hown hlink hnamed hmethM hstatic hkP hinitP hy (g := g) hg (argsL := argsL) (rest := rest) (hlen _ hsigM) hstack hdg
  obtain ⟨v, B, X', hpost, hsteps⟩ := hK m meth c ⟨T.setVm vm₁, locs, cells, slots⟩ { g with stack := rest } (.invokestatic index) mk argsL.toArray X₁ hg hsize hdg hW (X₁.named hnamed) (hpre vm₁ X₁.warmed)
  exact ⟨v, vm₁, B, X₁.warmed, X', hpost, fun target h => hstep₁ _ fun acts => by rw [doInvoke_state]; exact hsteps.trans h⟩
theorem vx_runSW {y : MethodName} {bytes cc : ByteArray} {maxL nL mc ms n index : Nat} {ret : Option FieldType} {hh : List (Nat × Nat × Nat × Nat)} {ws : List Cond} {rm : Room} {Pc : Array Value → State → Prop} {Qc : Array Value → State → Outcome → State → Prop} {free : Addr → Prop} {Ts : List Cond} {own : String} {As rest : List Value} {g : JFrame}
    (S : CallFix p m c cc nL s args Ts own) (hM : Met l y ws rm Pc Qc mc ms free) (cw : vx_CSW R s args own index y bytes maxL ret hh ws rm mc ms n) (hp : PreS s H Pc As)
    (hg : g.method = m) (hn : As.length = n) (hsize : g.locals.size = nL) (hstack : g.stack = As.reverse ++ rest) (hW : 2 * g.monitorRoom + (rest.map fun v => v.category).sum ≤ 8) (hdg : decode cc g.pc = .ok (.invokestatic index, 3)) (hf : cells + mc ≤ R.cells ∧ slots + ms ≤ R.slots) :
    va_Run p l e R s m args below meth c H locs cells slots mc ms g rest (Qc As.toArray) (free) := by
  obtain ⟨⟨hrc, hrs, hfr, hlo, hws, hcw⟩, hcode, hini, hy, hlen, hl, hstt⟩ := cw
  have hK : Back l R p e below s args y 3 8 (PreOf R mc ms Pc) (PostOf Qc mc ms free) := va_backW (hh := hh) (bytes := bytes) (maxL := maxL) (ret := ret) hM hp.1 hrc hrs hfr hlo hws hcw (fun a' U hW => word_at hW (Or.inl (by first | rfl | simp [Cond.onTables, Cond.keeps, Cond.steady])) hini)
  obtain ⟨hx, hb, hml, ho, -⟩ := S
  intro T hT X
  obtain ⟨v, vm₁, ⟨U', l2, c2, s2⟩, hW₁, X', ⟨g', mk, t, L, e1, e2, hq, h1, hL, h2, h3⟩, st⟩ := vx_callSW X hx (hh := hh) (bytes := bytes) (maxL := maxL) (ret := ret) ho hl hstt hini hcode hy hK hg (hsize.trans hml.symm) (argsL := As) (rest := rest) (fun sig h => hn.trans (hlen sig h)) hstack hW (by rw [hb]; exact hdg)
    (fun vm₁ hW₁ => ⟨hf.1, hf.2, hp.2 (T.setVm vm₁) hT hW₁⟩)
  dsimp only [Pt.U, Pt.locs, Pt.cells, Pt.slots] at X' e1 e2 h1 h2 h3 st
  subst h1; subst h2; subst h3
  exact ⟨v, (T.setVm vm₁).calling g' mk As.toArray, t, U', L, hT, X', hL, e1, e2, hq, st⟩
/-- not caught here, past rows that name other classes: it goes on to the caller -/
theorem vx_outP {p : Program} {l : Launch} {e : Env} {R : Room} {s : State} {m : MethodId} {args : Array Value} {below : List Frame} {meth : Method} {c : Code} {H : Heap} {locs : List Loc} {cells slots : Nat} {free : Addr → Prop} {ls : Array Slot} {rest : List Value} {Qc : Array Value → State → Outcome → State → Prop} {XC : String → State → State → Prop}
    {pc : Nat} {own E : String} {ce : Cell} {q : Addr} {mc ms : Nat} (hown : s.vm.findClass own = some m.cls) (hlocks : meth.locks = false)
    (hpass : ∀ z ∈ c.exceptionTable.toList, covers z pc = false ∨ (z.catchType ≠ 0 ∧ ∃ nm : String, (Cond.classLink own z.catchType nm).before args s = true ∧ va_Nc E nm s)) (hcell : H[q]? = some ce) (hv : ce.vm = .none) (hcl : s.vm.findClass E = some ce.cls)
    (hx : ∀ t : State, t.heap = H → s.vm.Alike t.vm → XC E s t) (hf : ∀ z ∈ locs, free z.base) (hc : cells ≤ mc) (hs : slots ≤ ms) :
    vx_W p l e R s m args below meth c H locs cells slots (vx_MQ below Qc XC args s mc ms free) (F0 m pc ls rest) q := by
  intro T hT X
  have hpl : e.platform.magicAccessors = ({} : Platform).magicAccessors := by rw [X.admits.platform]
  obtain ⟨vm', hW', X', st⟩ := X.outThrough hlocks q (g := F0 m pc ls rest) rfl rfl rfl (cell := ce) (by rw [hT]; exact hcell) (by rw [hv]; rfl)
    (by obtain ⟨k9, h9, -⟩ := Vm.findClass_spec hcl; exact ⟨k9, h9⟩) (fun z hz => by
      rcases hpass z hz with h | ⟨hz0, nm, hl1, hn1⟩
      · exact Or.inl h
      · obtain ⟨c6, hc6, hcl6⟩ := Cond.classLink_spec hown hl1 e.platform hpl
        obtain ⟨a8, b8, h1, h2, h3⟩ := hn1
        cases Option.some.inj (h1.symm.trans hcl)
        cases Option.some.inj (h2.symm.trans hc6)
        exact Or.inr ⟨hz0, _, hcl6, h3⟩)
  obtain ⟨g₀, hfr⟩ := X'.frames_eq
  have hcell9 : ((T.setVm vm').setFrames (.throwing q :: below)).heap[q]? = some ce := by
    show T.heap[q]? = some ce
    rw [hT]; exact hcell
  have hend : Ended ((T.setVm vm').setFrames (.throwing q :: below)) below (.threw q) := State.frames_setFrames _ (State.cur_lt_of_frames hfr)
  refine ⟨(T.setVm vm').setFrames (.throwing q :: below), ?_, .threw q, X'.here.running, hend, Or.inr ⟨q, rfl, E, ce, locs, hx _ hT (X'.ends _).1.alike, hcell9, hv, hcl, (X'.ends _).1, (X'.ends _).2.mono hc hs, hf⟩⟩
  rw [X.pushThrowing_eq]
  exact st
/-- a thing of a world lies in the heap -/
theorem vx_lt {D : va_G} {cl : List vw_C} {ws : va_W} {H1 : Heap} (h : va_P D cl ws H1) {k : Nat} {q : Nat × va_E} (hk : ws[k]? = some q) : q.1 < H1.size := (h k q hk).lt
end VXS
/-! ===== END ===== -/
/-! ===== BEGIN methods with a table of their own: called by a name, returning or throwing ===== -/
section VXH
/-! vx_backW, vx_callVX, vx_callSX, vx_callVW, vx_runVW, vx_runVX, vx_runSX, vx_ofWH follow the same proofs as their sisters above (Free/Laws.lean, Shelf42/LK1.lean); vx_outP calls Shelf42/NT130.lean (outThrough). -/
section
variable {l : Launch} {R : Room} {p : Program} {e : Env} {below : List Frame} {s : State} {sargs : Array Value} {y : MethodName} {len W9 : Nat}
theorem vx_backW {ws : List Cond} {rm : Room} {Pc : Array Value → State → Prop} {Qc : Array Value → State → Outcome → State → Prop} {XC : String → State → State → Prop} {mc ms : Nat} {free : Addr → Prop} {bytes : ByteArray} {maxL : Nat} {ret : Option FieldType} {hh : List (Nat × Nat × Nat × Nat)}
    (hM : vx_Met l y ws rm Pc Qc XC mc ms free) (hblind : FrameBlind Pc) (hrc : rm.cells = mc) (hrs : rm.slots = ms)
    (hframes : rm.frames + 1 ≤ R.frames) (hlocals : W9 + (maxL + 11) + rm.locals ≤ R.locals)
    (hws : ∀ w ∈ ws, ∀ a' U, s.WarmedH U.vm → w.before a' U = true) (hcode : Cond.codeWith y bytes maxL ret hh ∈ ws) (hinit : ∀ a' U, s.WarmedH U.vm → (Cond.initialized y.cls).before a' U = true) :
    vx_Back l R p e below s sargs y len W9 (PreOf R mc ms Pc) (PostOf Qc mc ms free) (vx_Post XC mc ms free) := by
  intro m meth c A g ig mk a X hg hsize hdg hW hn hp
  have h1 : (headSpec ws rm).pre.before a A.U = true := atoms_intro fun w hw => hws w hw _ _ X.warmed
  have h2 : (Cond.codeWith y bytes maxL ret hh).before a A.U = true := hws _ hcode _ _ X.warmed
  have h3 : (Cond.initialized y.cls).before a A.U = true := hinit _ _ X.warmed
  have h4 : A.cells + (headSpec ws rm).room.cells ≤ R.cells := by rw [show (headSpec ws rm).room.cells = mc from hrc]; exact hp.1
  have h5 : A.slots + (headSpec ws rm).room.slots ≤ R.slots := by rw [show (headSpec ws rm).room.slots = ms from hrs]; exact hp.2.1
  have hPc : Pc a (A.U.calling g mk a) := hblind _ _ _ _ hp.2.2
  obtain ⟨U, Ls, c0, s0⟩ := A
  dsimp only [Pt.U, Pt.locs, Pt.cells, Pt.slots] at h1 h2 h3 h4 h5 X hn hPc ⊢
  obtain ⟨m9, methY, cY, hn9, hmY, hcY, -, hlY, -⟩ := Cond.codeWith_spec h2
  cases Option.some.inj (hn9.symm.trans hn)
  obtain ⟨kY, hkY, -⟩ := className_of_methodNamed hn
  have hinitY : kY.init = .initialized := Cond.initialized_spec (findClass_of_methodNamed hn) hkY h3
  have h : At U g.method c below := by rw [hg]; exact X.here
  have hlocals9 : W9 + (maxL + 11) + (headSpec ws rm).room.locals ≤ R.locals := hlocals
  have happ : (headSpec ws rm).appliesLoose y e.platform (U.calling g mk a) = true :=
    Spec.appliesLoose_calling (g := g) h hdg hn hkY hinitY
      (X.room_calling (g := g) (R' := (headSpec ws rm).room) hsize hmY hcY hframes (by rw [hlY]; omega) h4 h5) h1
  obtain ⟨mid, hmid⟩ := h.above
  have hfr : (U.setTop g).frames = (.java g :: mid) ++ below := by rw [State.frames_setTop' g h.top, hmid]; rfl
  obtain ⟨o, s₂, hsteps, -, hend, hq⟩ := Steps.callFree hM p X.admits X.cas X.clock (acts := []) hfr happ hPc trivial
  have hq' : vx_Q Qc XC mc ms free a (U.calling g mk a) o s₂ := hq
  rw [State.frames_setTop' g h.top] at hend
  obtain ⟨g₀, hg0⟩ := Option.isSome_iff_exists.mp h.top
  obtain ⟨r, hr⟩ := State.topJava?_eq_some.mp hg0
  have hr' : (({ U with heap := s₂.heap, slotsUsed := s₂.slotsUsed } : State).setVm s₂.vm).frames = .java g₀ :: r := hr
  rcases hq' with ⟨hqc, L, hfe, hL⟩ | ⟨q, rfl, E, ce, L, hx, hce, hcv, hcl, hW₂, hsm, hL⟩
  · obtain ⟨⟨v, rfl⟩, hW₂, e2, q2, q3, q4, q5, q6⟩ := id hfe
    have e3 : s₂ = ({ (U.calling g mk a).setFrames s₂.frames with heap := s₂.heap, slotsUsed := s₂.slotsUsed } : State).setVm s₂.vm := by
      have : s₂ = ({ s₂ with vm := (U.calling g mk a).vm } : State).setVm s₂.vm := rfl
      rw [e2] at this
      exact this
    obtain ⟨c₂, i₂, len₂, hc₂, hd₂, hf₂⟩ := hend
    have hW' : U.WarmedH s₂.vm := hW₂
    have hcc : c₂ = c := by
      have h1 : s₂.code? g.method = U.code? g.method := by
        rw [State.code?_eq, State.code?_eq, hW'.alike.method?]
      exact Option.some.inj (hc₂.symm.trans (h1.trans h.code))
    subst hcc
    have hlen : len₂ = len := by rw [hdg] at hd₂; cases hd₂; rfl
    subst hlen
    have hs₂ : s₂ = (({ U with heap := s₂.heap, slotsUsed := s₂.slotsUsed } : State).setVm s₂.vm).setTop { g with pc := g.pc + len₂, stack := v.toList ++ g.stack } := by
      refine e3.trans ?_
      rw [hf₂, State.calling_eq h.top, State.setFrames_setFrames, State.setTop_of_frames _ hr', hr]
      rfl
    have hsame : U.sameButNew ({ U with heap := s₂.heap, slotsUsed := s₂.slotsUsed } : State) L mc ms := by
      refine ⟨?_, q2, q3, q4, q5, q6⟩
      obtain ⟨t, ht, -⟩ := State.frames_cons hr
      show ({ U with heap := s₂.heap, slotsUsed := s₂.slotsUsed } : State) = { U.setFrames U.frames with heap := s₂.heap, slotsUsed := s₂.slotsUsed }
      rw [State.setFrames_self ht]
    subst hg
    refine Or.inl ⟨v, ⟨(({ U with heap := s₂.heap, slotsUsed := s₂.slotsUsed } : State).setVm s₂.vm), Ls ++ L, c0 + mc, s0 + ms⟩,
      ⟨X.admits, X.cas, X.clock, X.frames, X.room, X.hears, X.method, X.code, (X.here.setHeapUsed s₂.heap s₂.slotsUsed).setVm hW'.alike, X.tail, State.WarmedH.trans X.warmed hW', X.limits, X.bytes, X.same.trans (hsame.setVm s.vm)⟩,
      ⟨g, mk, s₂, L, rfl, rfl, hqc, rfl, hL, rfl, rfl⟩, ?_⟩
    show Steps p.tables e below _ ((({ U with heap := s₂.heap, slotsUsed := s₂.slotsUsed } : State).setVm s₂.vm).setTop { g with pc := g.pc + len₂, stack := v.toList ++ g.stack })
    rw [← hs₂]
    exact hsteps
  · obtain ⟨e2, q2, q3, q4, q5, q6⟩ := id hsm
    have e3 : s₂ = ({ (U.calling g mk a).setFrames s₂.frames with heap := s₂.heap, slotsUsed := s₂.slotsUsed } : State).setVm s₂.vm := by
      have : s₂ = ({ s₂ with vm := (U.calling g mk a).vm } : State).setVm s₂.vm := rfl
      rw [e2] at this
      exact this
    have hf₂ : s₂.frames = .throwing q :: .java g :: U.frames.tail := hend
    have hW' : U.WarmedH s₂.vm := hW₂
    have hs₂ : s₂ = ((({ U with heap := s₂.heap, slotsUsed := s₂.slotsUsed } : State).setVm s₂.vm).setTop g).pushFrame (.throwing q) := by
      refine e3.trans ?_
      rw [hf₂, State.calling_eq h.top, State.setFrames_setFrames, State.pushFrame, State.frames_setTop _ hr', State.setTop_of_frames _ hr', State.setFrames_setFrames, hr]
      rfl
    have hsame : U.sameButNew ({ U with heap := s₂.heap, slotsUsed := s₂.slotsUsed } : State) L mc ms := by
      refine ⟨?_, q2, q3, q4, q5, q6⟩
      obtain ⟨t, ht, -⟩ := State.frames_cons hr
      show ({ U with heap := s₂.heap, slotsUsed := s₂.slotsUsed } : State) = { U.setFrames U.frames with heap := s₂.heap, slotsUsed := s₂.slotsUsed }
      rw [State.setFrames_self ht]
    subst hg
    refine Or.inr ⟨q, ⟨(({ U with heap := s₂.heap, slotsUsed := s₂.slotsUsed } : State).setVm s₂.vm), Ls ++ L, c0 + mc, s0 + ms⟩,
      ⟨X.admits, X.cas, X.clock, X.frames, X.room, X.hears, X.method, X.code, (X.here.setHeapUsed s₂.heap s₂.slotsUsed).setVm hW'.alike, X.tail, State.WarmedH.trans X.warmed hW', X.limits, X.bytes, X.same.trans (hsame.setVm s.vm)⟩,
      ⟨g, mk, s₂, L, E, ce, rfl, rfl, hx, hce, hcv, hcl, rfl, hL, rfl, rfl⟩, ?_⟩
    show Steps p.tables e below _ (((({ U with heap := s₂.heap, slotsUsed := s₂.slotsUsed } : State).setVm s₂.vm).setTop g).pushFrame (.throwing q))
    rw [← hs₂]
    exact hsteps
end
variable {p : Program} {l : Launch} {e : Env} {R : Room} {s : State} {m : MethodId} {args : Array Value} {below : List Frame} {meth : Method} {c : Code} {T : State} {H : Heap} {locs : List Loc} {cells slots : Nat}
theorem vx_callVX (X : Stand p l e R s m args below meth c T locs cells slots) (hexec : p.tables.exec = Jvm.exec) {own C : String} {index : Nat} {y : MethodName} {bytes : ByteArray} {maxL : Nat} {ret : Option FieldType} {hh : List (Nat × Nat × Nat × Nat)}
    (hown : s.vm.findClass own = some m.cls) (hlink : (Cond.methodLink own index y).before args s = true) (hinst : (Cond.instanceMethod y).before args s = true) (hsel : (Cond.selects C y y).before args s = true)
    (hcode : (Cond.codeWith y bytes maxL ret hh).before args s = true) (hy : y.cls ≠ "java/lang/invoke/MethodHandle" ∧ y.cls ≠ "java/lang/invoke/VarHandle")
    {W9 : Nat} {Pre : Pt → Array Value → Prop} {Post : Pt → Array Value → Option Value → Pt → Prop} {PostX : Pt → Array Value → Addr → Pt → Prop} (hK : vx_Back l R p e below s args y 3 W9 Pre Post PostX)
    {b : Addr} {cellB : Cell} (hcell : T.heap[b]? = some cellB) (hobj : cellB.vm.isStatics = false) (hcls : s.vm.findClass C = some cellB.cls)
    {g : JFrame} (hg : g.method = m) (hsize : g.locals.size = c.maxLocals) {argsL rest : List Value} (hlen : ∀ sig, parseMethodDescriptor y.desc = some sig → argsL.length = sig.parameters.length)
    (hstack : g.stack = argsL.reverse ++ .ref b :: rest) (hW : 2 * g.monitorRoom + (rest.map fun v => v.category).sum ≤ W9) (hdg : decode c.code g.pc = .ok (.invokevirtual index, 3))
    (hpre : ∀ vm₁, s.WarmedH vm₁ → Pre ⟨T.setVm vm₁, locs, cells, slots⟩ (Value.ref b :: argsL).toArray) :
    (∃ (v : Option Value) (vm₁ : Vm) (B : Pt), s.WarmedH vm₁ ∧ Stand p l e R s m args below meth c B.U B.locs B.cells B.slots ∧ Post ⟨T.setVm vm₁, locs, cells, slots⟩ (Value.ref b :: argsL).toArray v B ∧
      ∀ target, Steps p.tables e below (B.U.setTop { g with pc := g.pc + 3, stack := v.toList ++ rest }) target → Steps p.tables e below (T.setTop g) target) ∨
    (∃ (q : Addr) (vm₁ : Vm) (B : Pt), s.WarmedH vm₁ ∧ Stand p l e R s m args below meth c B.U B.locs B.cells B.slots ∧ PostX ⟨T.setVm vm₁, locs, cells, slots⟩ (Value.ref b :: argsL).toArray q B ∧
      Steps p.tables e below (T.setTop g) ((B.U.setTop { g with stack := rest }).pushFrame (.throwing q))) := by
  obtain ⟨mk, methM, hnamed, hmethM, hstM, habM⟩ := Cond.instanceMethod_spec hinst
  obtain ⟨m8, methM', cM, hn8, hmethM', -, -, -, -, -, -, hsigM⟩ := Cond.codeWith_spec hcode
  cases Option.some.inj (hn8.symm.trans hnamed)
  cases hmethM.symm.trans hmethM'
  obtain ⟨c2, r2, m2, q1, q2, q3, q4, kP, hkP, hkPi⟩ := Cond.selects_spec hsel
  cases hcls.symm.trans q1
  cases (State.methodFound?_of_named hnamed hy).symm.trans q2
  cases hnamed.symm.trans q3
  have hselP : selectMethod e.platform s.vm cellB.cls mk = .method mk := by rw [Launch.admits_selectMethod X.admits]; exact q4
  obtain ⟨vm₁, X₁, hstep₁⟩ := X.invokevirtual hexec hown hlink hnamed hmethM hstM hkP hkPi hy (a := b) (cell := cellB) hcell
    (fun z h => by rw [h] at hobj; cases hobj) hselP hmethM habM hkP hkPi (g := g) hg (argsL := argsL) (rest := rest) (hlen _ hsigM) hstack hdg
  rcases hK m meth c ⟨T.setVm vm₁, locs, cells, slots⟩ { g with stack := rest } (.invokevirtual index) mk (Value.ref b :: argsL).toArray X₁ hg hsize hdg hW (X₁.named hnamed) (hpre vm₁ X₁.warmed) with ⟨v, B, X', hpost, hsteps⟩ | ⟨q, B, X', hpost, hsteps⟩
  · exact Or.inl ⟨v, vm₁, B, X₁.warmed, X', hpost, fun target h => hstep₁ _ fun acts => by rw [doInvoke_state]; exact hsteps.trans h⟩
  · exact Or.inr ⟨q, vm₁, B, X₁.warmed, X', hpost, hstep₁ _ fun acts => by rw [doInvoke_state]; exact hsteps⟩
theorem vx_callSX (X : Stand p l e R s m args below meth c T locs cells slots) (hexec : p.tables.exec = Jvm.exec) {own : String} {index : Nat} {y : MethodName} {bytes : ByteArray} {maxL : Nat} {ret : Option FieldType} {hh : List (Nat × Nat × Nat × Nat)}
    (hown : s.vm.findClass own = some m.cls) (hlink : (Cond.methodLink own index y).before args s = true) (hstat : (Cond.static y).before args s = true) (hinit : (Cond.initialized y.cls).before args s = true)
    (hcode : (Cond.codeWith y bytes maxL ret hh).before args s = true) (hy : y.cls ≠ "java/lang/invoke/MethodHandle" ∧ y.cls ≠ "java/lang/invoke/VarHandle")
    {W9 : Nat} {Pre : Pt → Array Value → Prop} {Post : Pt → Array Value → Option Value → Pt → Prop} {PostX : Pt → Array Value → Addr → Pt → Prop} (hK : vx_Back l R p e below s args y 3 W9 Pre Post PostX)
    {g : JFrame} (hg : g.method = m) (hsize : g.locals.size = c.maxLocals) {argsL rest : List Value} (hlen : ∀ sig, parseMethodDescriptor y.desc = some sig → argsL.length = sig.parameters.length)
    (hstack : g.stack = argsL.reverse ++ rest) (hW : 2 * g.monitorRoom + (rest.map fun v => v.category).sum ≤ W9) (hdg : decode c.code g.pc = .ok (.invokestatic index, 3))
    (hpre : ∀ vm₁, s.WarmedH vm₁ → Pre ⟨T.setVm vm₁, locs, cells, slots⟩ argsL.toArray) :
    (∃ (v : Option Value) (vm₁ : Vm) (B : Pt), s.WarmedH vm₁ ∧ Stand p l e R s m args below meth c B.U B.locs B.cells B.slots ∧ Post ⟨T.setVm vm₁, locs, cells, slots⟩ argsL.toArray v B ∧
      ∀ target, Steps p.tables e below (B.U.setTop { g with pc := g.pc + 3, stack := v.toList ++ rest }) target → Steps p.tables e below (T.setTop g) target) ∨
    (∃ (q : Addr) (vm₁ : Vm) (B : Pt), s.WarmedH vm₁ ∧ Stand p l e R s m args below meth c B.U B.locs B.cells B.slots ∧ PostX ⟨T.setVm vm₁, locs, cells, slots⟩ argsL.toArray q B ∧
      Steps p.tables e below (T.setTop g) ((B.U.setTop { g with stack := rest }).pushFrame (.throwing q))) := by
  obtain ⟨mk, methM, cM, hnamed, hmethM, -, -, -, -, -, -, hsigM⟩ := Cond.codeWith_spec hcode
  have hstatic : methM.isStatic = true := Cond.static_spec hnamed hmethM hstat
  obtain ⟨kP, hkP, -⟩ := className_of_methodNamed hnamed
  have hinitP : kP.init = .initialized := Cond.initialized_spec (findClass_of_methodNamed hnamed) hkP hinit
  obtain ⟨vm₁, X₁, hstep₁⟩ := X.invokestatic hexec hown hlink hnamed hmethM hstatic hkP hinitP hy (g := g) hg (argsL := argsL) (rest := rest) (hlen _ hsigM) hstack hdg
  rcases hK m meth c ⟨T.setVm vm₁, locs, cells, slots⟩ { g with stack := rest } (.invokestatic index) mk argsL.toArray X₁ hg hsize hdg hW (X₁.named hnamed) (hpre vm₁ X₁.warmed) with ⟨v, B, X', hpost, hsteps⟩ | ⟨q, B, X', hpost, hsteps⟩
  · exact Or.inl ⟨v, vm₁, B, X₁.warmed, X', hpost, fun target h => hstep₁ _ fun acts => by rw [doInvoke_state]; exact hsteps.trans h⟩
  · exact Or.inr ⟨q, vm₁, B, X₁.warmed, X', hpost, hstep₁ _ fun acts => by rw [doInvoke_state]; exact hsteps⟩
theorem vx_callVW (X : Stand p l e R s m args below meth c T locs cells slots) (hexec : p.tables.exec = Jvm.exec) {own C : String} {index : Nat} {y : MethodName} {bytes : ByteArray} {maxL : Nat} {ret : Option FieldType} {hh : List (Nat × Nat × Nat × Nat)}
    (hown : s.vm.findClass own = some m.cls) (hlink : (Cond.methodLink own index y).before args s = true) (hinst : (Cond.instanceMethod y).before args s = true) (hsel : (Cond.selects C y y).before args s = true)
    (hcode : (Cond.codeWith y bytes maxL ret hh).before args s = true) (hy : y.cls ≠ "java/lang/invoke/MethodHandle" ∧ y.cls ≠ "java/lang/invoke/VarHandle")
    {W9 : Nat} {Pre : Pt → Array Value → Prop} {Post : Pt → Array Value → Option Value → Pt → Prop} (hK : Back l R p e below s args y 3 W9 Pre Post)
    {b : Addr} {cellB : Cell} (hcell : T.heap[b]? = some cellB) (hobj : cellB.vm.isStatics = false) (hcls : s.vm.findClass C = some cellB.cls)
    {g : JFrame} (hg : g.method = m) (hsize : g.locals.size = c.maxLocals) {argsL rest : List Value} (hlen : ∀ sig, parseMethodDescriptor y.desc = some sig → argsL.length = sig.parameters.length)
    (hstack : g.stack = argsL.reverse ++ .ref b :: rest) (hW : 2 * g.monitorRoom + (rest.map fun v => v.category).sum ≤ W9) (hdg : decode c.code g.pc = .ok (.invokevirtual index, 3))
    (hpre : ∀ vm₁, s.WarmedH vm₁ → Pre ⟨T.setVm vm₁, locs, cells, slots⟩ (Value.ref b :: argsL).toArray) :
    ∃ (v : Option Value) (vm₁ : Vm) (B : Pt), s.WarmedH vm₁ ∧ Stand p l e R s m args below meth c B.U B.locs B.cells B.slots ∧ Post ⟨T.setVm vm₁, locs, cells, slots⟩ (Value.ref b :: argsL).toArray v B ∧
      ∀ target, Steps p.tables e below (B.U.setTop { g with pc := g.pc + 3, stack := v.toList ++ rest }) target → Steps p.tables e below (T.setTop g) target := by
  obtain ⟨mk, methM, hnamed, hmethM, hstM, habM⟩ := Cond.instanceMethod_spec hinst
  obtain ⟨m8, methM', cM, hn8, hmethM', -, -, -, -, -, -, hsigM⟩ := Cond.codeWith_spec hcode
  cases Option.some.inj (hn8.symm.trans hnamed)
  cases hmethM.symm.trans hmethM'
  obtain ⟨c2, r2, m2, q1, q2, q3, q4, kP, hkP, hkPi⟩ := Cond.selects_spec hsel
  cases hcls.symm.trans q1
  cases (State.methodFound?_of_named hnamed hy).symm.trans q2
  cases hnamed.symm.trans q3
  have hselP : selectMethod e.platform s.vm cellB.cls mk = .method mk := by rw [Launch.admits_selectMethod X.admits]; exact q4
  obtain ⟨vm₁, X₁, hstep₁⟩ := X.invokevirtual hexec hown hlink hnamed hmethM hstM hkP hkPi hy (a := b) (cell := cellB) hcell
    (fun z h => by rw [h] at hobj; cases hobj) hselP hmethM habM hkP hkPi (g := g) hg (argsL := argsL) (rest := rest) (hlen _ hsigM) hstack hdg
  obtain ⟨v, B, X', hpost, hsteps⟩ := hK m meth c ⟨T.setVm vm₁, locs, cells, slots⟩ { g with stack := rest } (.invokevirtual index) mk (Value.ref b :: argsL).toArray X₁ hg hsize hdg hW (X₁.named hnamed) (hpre vm₁ X₁.warmed)
  exact ⟨v, vm₁, B, X₁.warmed, X', hpost, fun target h => hstep₁ _ fun acts => by rw [doInvoke_state]; exact hsteps.trans h⟩
abbrev vx_CVW (R : Room) (s : State) (args : Array Value) (own C : String) (index : Nat) (y : MethodName) (bytes : ByteArray) (maxL : Nat) (ret : Option FieldType) (hh : List (Nat × Nat × Nat × Nat)) (ws : List Cond) (rm : Room) (mc ms n : Nat) : Prop :=
  (rm.cells = mc ∧ rm.slots = ms ∧ rm.frames + 1 ≤ R.frames ∧ 8 + (maxL + 11) + rm.locals ≤ R.locals ∧ (∀ w ∈ ws, ∀ (a' : Array Value) (U : State), s.WarmedH U.vm → w.before a' U = true) ∧ Cond.codeWith y bytes maxL ret hh ∈ ws) ∧
  (Cond.codeWith y bytes maxL ret hh).before args s = true ∧ (Cond.initialized y.cls).before args s = true ∧ (y.cls ≠ "java/lang/invoke/MethodHandle" ∧ y.cls ≠ "java/lang/invoke/VarHandle") ∧
  (∀ sig, parseMethodDescriptor y.desc = some sig → n = sig.parameters.length) ∧ (Cond.methodLink own index y).before args s = true ∧ (Cond.instanceMethod y).before args s = true ∧ (Cond.selects C y y).before args s = true
theorem vx_cwVW {own C : String} {index maxL mc ms : Nat} {y : MethodName} {bytes : ByteArray} {ret : Option FieldType} {hh : List (Nat × Nat × Nat × Nat)} {Ts ws ws' : List Cond} {rm : Room} (n : Nat) (ht : ∀ w ∈ Ts, w.before args s = true) (hT : GoodIn Ts (wsV own index C y ws)) (hw : ws = Cond.codeWith y bytes maxL ret hh :: ws') (hrc : rm.cells = mc) (hrs : rm.slots = ms)
    (hd : y.cls = C ∧ y.cls ≠ "java/lang/invoke/MethodHandle" ∧ y.cls ≠ "java/lang/invoke/VarHandle" ∧ (parseMethodDescriptor y.desc).map (fun d => d.parameters.length) = some n) (hR : rm.frames + 1 ≤ R.frames ∧ 8 + (maxL + 11) + rm.locals ≤ R.locals) :
    vx_CVW R s args own C index y bytes maxL ret hh ws rm mc ms n := by
  obtain ⟨hC, hd⟩ := hd
  subst hC
  have ok : ∀ w ∈ wsV own index y.cls y ws, w.before args s = true := fun w h => ht w (hT w h).1
  have hG : GoodIn Ts ws := fun w h => hT w (by unfold wsV; exact List.mem_append_right _ h)
  have hc : Cond.codeWith y bytes maxL ret hh ∈ ws := by rw [hw]; exact List.mem_cons_self
  refine ⟨⟨hrc, hrs, hR.1, hR.2, pay_in ht hG, hc⟩, ht _ (hG _ hc).1, ok _ (by simp [wsV]), ⟨hd.1, hd.2.1⟩, fun sig h => ?_, ok _ (by simp [wsV]), ok _ (by simp [wsV]), ok _ (by simp [wsV])⟩
  have h2 := hd.2.2
  rw [h] at h2
  exact (Option.some.inj h2).symm
theorem vx_runVW {y : MethodName} {bytes cc : ByteArray} {maxL nL mc ms n index : Nat} {ret : Option FieldType} {hh : List (Nat × Nat × Nat × Nat)} {ws : List Cond} {rm : Room} {Pc : Array Value → State → Prop} {Qc : Array Value → State → Outcome → State → Prop} {free : Addr → Prop} {Ts : List Cond} {own C : String} {b : Addr} {As rest : List Value} {g : JFrame}
    (S : CallFix p m c cc nL s args Ts own) (hM : Met l y ws rm Pc Qc mc ms free) (cw : vx_CVW R s args own C index y bytes maxL ret hh ws rm mc ms n) (hp : PreV s H C b Pc As)
    (hg : g.method = m) (hn : As.length = n) (hsize : g.locals.size = nL) (hstack : g.stack = As.reverse ++ .ref b :: rest) (hW : 2 * g.monitorRoom + (rest.map fun v => v.category).sum ≤ 8) (hdg : decode cc g.pc = .ok (.invokevirtual index, 3)) (hf : cells + mc ≤ R.cells ∧ slots + ms ≤ R.slots) :
    va_Run p l e R s m args below meth c H locs cells slots mc ms g rest (Qc (Value.ref b :: As).toArray) free := by
  obtain ⟨⟨hrc, hrs, hfr, hlo, hws, hcw⟩, hcode, hini, hy, hlen, hl, hin, hse⟩ := cw
  have hK : Back l R p e below s args y 3 8 (PreOf R mc ms Pc) (PostOf Qc mc ms free) := va_backW (hh := hh) (bytes := bytes) (maxL := maxL) (ret := ret) hM hp.1 hrc hrs hfr hlo hws hcw (fun a' U hW => word_at hW (Or.inl (by first | rfl | simp [Cond.onTables, Cond.keeps, Cond.steady])) hini)
  obtain ⟨hx, hb, hml, ho, -⟩ := S
  obtain ⟨-, ⟨cellB, hcB, hoB, hclB⟩, hPc⟩ := hp
  intro T hT X
  obtain ⟨v, vm₁, ⟨U', l2, c2, s2⟩, hW₁, X', ⟨g', mk, t, L, e1, e2, hq, h1, hL, h2, h3⟩, st⟩ := vx_callVW X hx (C := C) (hh := hh) (bytes := bytes) (maxL := maxL) (ret := ret) ho hl hin hse hcode hy hK (by rw [hT]; exact hcB) hoB hclB hg (hsize.trans hml.symm) (argsL := As) (rest := rest) (fun sig h => hn.trans (hlen sig h)) hstack hW (by rw [hb]; exact hdg)
    (fun vm₁ hW₁ => ⟨hf.1, hf.2, hPc (T.setVm vm₁) hT hW₁⟩)
  dsimp only [Pt.U, Pt.locs, Pt.cells, Pt.slots] at X' e1 e2 h1 h2 h3 st
  subst h1; subst h2; subst h3
  exact ⟨v, (T.setVm vm₁).calling g' mk (Value.ref b :: As).toArray, t, U', L, hT, X', hL, e1, e2, hq, st⟩
section
variable {y : MethodName} {bytes cc : ByteArray} {maxL nL mc ms n index : Nat} {ret : Option FieldType} {ws : List Cond} {rm : Room} {Pc : Array Value → State → Prop} {Qc : Array Value → State → Outcome → State → Prop} {XC : String → State → State → Prop} {free : Addr → Prop} {Ts : List Cond} {own C : String} {b : Addr} {As rest : List Value} {g : JFrame}
theorem vx_runVX {hh : List (Nat × Nat × Nat × Nat)} (S : CallFix p m c cc nL s args Ts own) (hM : vx_Met l y ws rm Pc Qc XC mc ms free) (cw : vx_CVW R s args own C index y bytes maxL ret hh ws rm mc ms n) (hp : PreV s H C b Pc As)
    (hg : g.method = m) (hn : As.length = n) (hsize : g.locals.size = nL) (hstack : g.stack = As.reverse ++ .ref b :: rest) (hW : 2 * g.monitorRoom + (rest.map fun v => v.category).sum ≤ 8) (hdg : decode cc g.pc = .ok (.invokevirtual index, 3)) (hf : cells + mc ≤ R.cells ∧ slots + ms ≤ R.slots) :
    vx_Run p l e R s m args below meth c H locs cells slots mc ms g rest (Qc (Value.ref b :: As).toArray) XC free := by
  obtain ⟨⟨hrc, hrs, hfr, hlo, hws, hcw⟩, hcode, hini, hy, hlen, hl, hin, hse⟩ := cw
  have hK : vx_Back l R p e below s args y 3 8 (PreOf R mc ms Pc) (PostOf Qc mc ms free) (vx_Post XC mc ms free) := vx_backW (hh := hh) (bytes := bytes) (maxL := maxL) (ret := ret) hM hp.1 hrc hrs hfr hlo hws hcw (fun a' U hW => word_at hW (Or.inl (by first | rfl | simp [Cond.onTables, Cond.keeps, Cond.steady])) hini)
  obtain ⟨hx, hb, hml, ho, -⟩ := S
  obtain ⟨-, ⟨cellB, hcB, hoB, hclB⟩, hPc⟩ := hp
  intro T hT X
  rcases vx_callVX X hx (C := C) (hh := hh) (bytes := bytes) (maxL := maxL) (ret := ret) ho hl hin hse hcode hy hK (by rw [hT]; exact hcB) hoB hclB hg (hsize.trans hml.symm) (argsL := As) (rest := rest) (fun sig h => hn.trans (hlen sig h)) hstack hW (by rw [hb]; exact hdg)
    (fun vm₁ hW₁ => ⟨hf.1, hf.2, hPc (T.setVm vm₁) hT hW₁⟩) with ⟨v, vm₁, ⟨U', l2, c2, s2⟩, hW₁, X', ⟨g', mk, t, L, e1, e2, hq, h1, hL, h2, h3⟩, st⟩ | ⟨q, vm₁, ⟨U', l2, c2, s2⟩, hW₁, X', ⟨g', mk, t, L, E, ce, e1, e2, hq, hce, hcv, hcl, h1, hL, h2, h3⟩, st⟩
  · dsimp only [Pt.U, Pt.locs, Pt.cells, Pt.slots] at X' e1 e2 h1 h2 h3 st
    subst h1; subst h2; subst h3
    exact Or.inl ⟨v, (T.setVm vm₁).calling g' mk (Value.ref b :: As).toArray, t, U', L, hT, X', hL, e1, e2, hq, st⟩
  · dsimp only [Pt.U, Pt.locs, Pt.cells, Pt.slots] at X' e1 e2 h1 h2 h3 st hcl
    subst h1; subst h2; subst h3
    exact Or.inr ⟨q, (T.setVm vm₁).calling g' mk (Value.ref b :: As).toArray, t, U', L, E, ce, hT, X', hL, e1, e2, hq, hce, hcv, vx_cls hW₁ hcl, st⟩
theorem vx_runSX {hh : List (Nat × Nat × Nat × Nat)} (S : CallFix p m c cc nL s args Ts own) (hM : vx_Met l y ws rm Pc Qc XC mc ms free) (cw : vx_CSW R s args own index y bytes maxL ret hh ws rm mc ms n) (hp : PreS s H Pc As)
    (hg : g.method = m) (hn : As.length = n) (hsize : g.locals.size = nL) (hstack : g.stack = As.reverse ++ rest) (hW : 2 * g.monitorRoom + (rest.map fun v => v.category).sum ≤ 8) (hdg : decode cc g.pc = .ok (.invokestatic index, 3)) (hf : cells + mc ≤ R.cells ∧ slots + ms ≤ R.slots) :
    vx_Run p l e R s m args below meth c H locs cells slots mc ms g rest (Qc As.toArray) XC free := by
  obtain ⟨⟨hrc, hrs, hfr, hlo, hws, hcw⟩, hcode, hini, hy, hlen, hl, hstt⟩ := cw
  have hK : vx_Back l R p e below s args y 3 8 (PreOf R mc ms Pc) (PostOf Qc mc ms free) (vx_Post XC mc ms free) := vx_backW (hh := hh) (bytes := bytes) (maxL := maxL) (ret := ret) hM hp.1 hrc hrs hfr hlo hws hcw (fun a' U hW => word_at hW (Or.inl (by first | rfl | simp [Cond.onTables, Cond.keeps, Cond.steady])) hini)
  obtain ⟨hx, hb, hml, ho, -⟩ := S
  intro T hT X
  rcases vx_callSX X hx (hh := hh) (bytes := bytes) (maxL := maxL) (ret := ret) ho hl hstt hini hcode hy hK hg (hsize.trans hml.symm) (argsL := As) (rest := rest) (fun sig h => hn.trans (hlen sig h)) hstack hW (by rw [hb]; exact hdg)
    (fun vm₁ hW₁ => ⟨hf.1, hf.2, hp.2 (T.setVm vm₁) hT hW₁⟩) with ⟨v, vm₁, ⟨U', l2, c2, s2⟩, hW₁, X', ⟨g', mk, t, L, e1, e2, hq, h1, hL, h2, h3⟩, st⟩ | ⟨q, vm₁, ⟨U', l2, c2, s2⟩, hW₁, X', ⟨g', mk, t, L, E, ce, e1, e2, hq, hce, hcv, hcl, h1, hL, h2, h3⟩, st⟩
  · dsimp only [Pt.U, Pt.locs, Pt.cells, Pt.slots] at X' e1 e2 h1 h2 h3 st
    subst h1; subst h2; subst h3
    exact Or.inl ⟨v, (T.setVm vm₁).calling g' mk As.toArray, t, U', L, hT, X', hL, e1, e2, hq, st⟩
  · dsimp only [Pt.U, Pt.locs, Pt.cells, Pt.slots] at X' e1 e2 h1 h2 h3 st hcl
    subst h1; subst h2; subst h3
    exact Or.inr ⟨q, (T.setVm vm₁).calling g' mk As.toArray, t, U', L, E, ce, hT, X', hL, e1, e2, hq, hce, hcv, vx_cls hW₁ hcl, st⟩
end
end VXH
theorem vx_ofWH {l : Launch} {y : MethodName} {ws ws' : List Cond} {rm : Room} {Pc : Array Value → State → Prop} {Qc : Array Value → State → Outcome → State → Prop} {XC : String → State → State → Prop} {mc ms : Nat} {free : Addr → Prop} {cc : ByteArray} {maxL : Nat} {ret : Option FieldType} {hh : List (Nat × Nat × Nat × Nat)}
    (hy : plainName y.cls = true) (hw : ws = Cond.codeWith y cc maxL ret hh :: ws')
    (body : ∀ p e s m args below meth c s₁, BodyLoose p l y (headSpec ws rm) cc maxL ret e s m args below meth c s₁ → c.maxLocals = maxL → Pc args s →
      W p l e (headSpec ws rm).room s m args below meth c s.heap [] 0 0 (vx_MQ below Qc XC args s mc ms free) (entryFrame m args maxL)) : vx_Met l y ws rm Pc Qc XC mc ms free := by
  refine MetFree.of_bodyS (code := cc) (maxLocals := maxL) (ret := ret) hy ?_ ?_
  · intro args s m h hn
    obtain ⟨m9, meth, c, hn9, h1, h2, h3, h4, -, h5, h6, -⟩ := Cond.codeWith_spec (atoms_spec (ws := ws) h _ (by rw [hw]; exact List.mem_cons_self))
    cases hn.symm.trans hn9
    exact ⟨meth, c, h1, h2, h3, h4, h5, h6⟩
  · intro p e s m args below meth c s₁ B hml hP _
    have hh0 : s₁.heap = s.heap := by rw [B.state]; rfl
    obtain ⟨t, a1, o, b1, b2, b3⟩ := body p e s m args below meth c s₁ B hml hP s₁ hh0 (Stand.of_body B)
    exact ⟨t, o, a1, b1, b2, b3⟩
/-! ===== END ===== -/

def RX0 : String := "AbbeyLedgers$Books"
def TX0 : u_T := fun k => match k with
  | 0 => ("AbbeyLedgers$Books", "versions", "LAbbeyLedgers$Versions;", true)
  | 1 => ("AbbeyLedgers$Books", "ledgers", "[I", true)
  | 2 => ("AbbeyLedgers$Books", "year", "I", false)
  | 3 => ("AbbeyLedgers$Books", "writings", "I", false)
  | _ => ("AbbeyLedgers$Books", "graftings", "I", false)
def tyX0 : Nat → FieldType := fun k => match k with
  | 0 => .object "AbbeyLedgers$Versions"
  | 1 => .array .int
  | 2 => .int
  | 3 => .int
  | _ => .int
abbrev wsX00 : List Cond := u_ws RX0 TX0 5
theorem nmX0 : ∀ a, a < 5 → ∀ b, b < 5 → a ≠ b → (TX0 a).2.1 ≠ (TX0 b).2.1 := by decide +kernel
theorem tyX0_ok : ∀ k, k < 5 → parseFieldDescriptor (TX0 k).2.2.1 = some (tyX0 k) := by decide +kernel
abbrev cX0_init : ByteArray := prog_2_method_1_code
def yX0_init : MethodName := ⟨RX0, "<init>", "()V"⟩
abbrev cX0_copyFrom : ByteArray := prog_2_method_2_code
def yX0_copyFrom : MethodName := ⟨RX0, "copyFrom", "(LAbbeyLedgers$Books;)V"⟩
abbrev cX0_noteIn : ByteArray := prog_2_method_3_code
def yX0_noteIn : MethodName := ⟨RX0, "noteIn", "([II)V"⟩
abbrev cX0_returnTo : ByteArray := prog_2_method_4_code
def yX0_returnTo : MethodName := ⟨RX0, "returnTo", "([II)V"⟩
abbrev cX0_ledgerOf : ByteArray := prog_2_method_5_code
def yX0_ledgerOf : MethodName := ⟨RX0, "ledgerOf", "(I)I"⟩
abbrev cX0_giveLedger : ByteArray := prog_2_method_6_code
def yX0_giveLedger : MethodName := ⟨RX0, "giveLedger", "(II)V"⟩
abbrev cX0_housesWith : ByteArray := prog_2_method_7_code
def yX0_housesWith : MethodName := ⟨RX0, "housesWith", "(I)I"⟩
abbrev cX0_versionsOfHouses : ByteArray := prog_2_method_8_code
def yX0_versionsOfHouses : MethodName := ⟨RX0, "versionsOfHouses", "()I"⟩
def RX1 : String := "AbbeyLedgers$Clerk"
def TX1 : u_T := fun k => match k with
  | 0 => ("AbbeyLedgers$Clerk", "books", "LAbbeyLedgers$Books;", true)
  | 1 => ("AbbeyLedgers$Clerk", "refusal", "LAbbeyLedgers$Refusal;", true)
  | _ => ("AbbeyLedgers$Clerk", "versions", "LAbbeyLedgers$Versions;", true)
def tyX1 : Nat → FieldType := fun k => match k with
  | 0 => .object "AbbeyLedgers$Books"
  | 1 => .object "AbbeyLedgers$Refusal"
  | _ => .object "AbbeyLedgers$Versions"
abbrev wsX10 : List Cond := u_ws RX1 TX1 3
theorem nmX1 : ∀ a, a < 3 → ∀ b, b < 3 → a ≠ b → (TX1 a).2.1 ≠ (TX1 b).2.1 := by decide +kernel
theorem tyX1_ok : ∀ k, k < 3 → parseFieldDescriptor (TX1 k).2.2.1 = some (tyX1 k) := by decide +kernel
abbrev cX1_init : ByteArray := prog_3_method_1_code
def yX1_init : MethodName := ⟨RX1, "<init>", "()V"⟩
abbrev cX1_carryOut : ByteArray := prog_3_method_2_code
def yX1_carryOut : MethodName := ⟨RX1, "carryOut", "(LAbbeyLedgers$Draft;)I"⟩
abbrev cX1_enter : ByteArray := prog_3_method_3_code
def yX1_enter : MethodName := ⟨RX1, "enter", "(III)I"⟩
abbrev cX1_copyLines : ByteArray := prog_3_method_4_code
def yX1_copyLines : MethodName := ⟨RX1, "copyLines", "(IIII)I"⟩
abbrev cX1_takeOver : ByteArray := prog_3_method_5_code
def yX1_takeOver : MethodName := ⟨RX1, "takeOver", "(II)I"⟩
abbrev cX1_goBack : ByteArray := prog_3_method_6_code
def yX1_goBack : MethodName := ⟨RX1, "goBack", "(II)I"⟩
abbrev cX1_letGoBy : ByteArray := prog_3_method_7_code
def yX1_letGoBy : MethodName := ⟨RX1, "letGoBy", "(I)I"⟩
def RX2 : String := "AbbeyLedgers$Draft"
def TX2 : u_T := fun k => match k with
  | 0 => ("AbbeyLedgers$Draft", "signs", "[C", true)
  | 1 => ("AbbeyLedgers$Draft", "length", "I", false)
  | 2 => ("AbbeyLedgers$Draft", "position", "I", false)
  | 3 => ("AbbeyLedgers$Draft", "kind", "C", false)
  | _ => ("AbbeyLedgers$Draft", "numbers", "[I", true)
def tyX2 : Nat → FieldType := fun k => match k with
  | 0 => .array .char
  | 1 => .int
  | 2 => .int
  | 3 => .char
  | _ => .array .int
abbrev wsX20 : List Cond := u_ws RX2 TX2 5
theorem nmX2 : ∀ a, a < 5 → ∀ b, b < 5 → a ≠ b → (TX2 a).2.1 ≠ (TX2 b).2.1 := by decide +kernel
theorem tyX2_ok : ∀ k, k < 5 → parseFieldDescriptor (TX2 k).2.2.1 = some (tyX2 k) := by decide +kernel
abbrev cX2_init : ByteArray := prog_4_method_1_code
def yX2_init : MethodName := ⟨RX2, "<init>", "()V"⟩
abbrev cX2_size : ByteArray := prog_4_method_2_code
def yX2_size : MethodName := ⟨RX2, "size", "()I"⟩
abbrev cX2_isFull : ByteArray := prog_4_method_3_code
def yX2_isFull : MethodName := ⟨RX2, "isFull", "()Z"⟩
abbrev cX2_put : ByteArray := prog_4_method_4_code
def yX2_put : MethodName := ⟨RX2, "put", "(C)V"⟩
abbrev cX2_clear : ByteArray := prog_4_method_5_code
def yX2_clear : MethodName := ⟨RX2, "clear", "()V"⟩
abbrev cX2_rewind : ByteArray := prog_4_method_6_code
def yX2_rewind : MethodName := ⟨RX2, "rewind", "()V"⟩
abbrev cX2_kind : ByteArray := prog_4_method_7_code
def yX2_kind : MethodName := ⟨RX2, "kind", "()C"⟩
abbrev cX2_number : ByteArray := prog_4_method_8_code
def yX2_number : MethodName := ⟨RX2, "number", "(I)I"⟩
abbrev cX2_findFault : ByteArray := prog_4_method_9_code
def yX2_findFault : MethodName := ⟨RX2, "findFault", "()I"⟩
abbrev cX2_readCommand : ByteArray := prog_4_method_10_code
def yX2_readCommand : MethodName := ⟨RX2, "readCommand", "()Z"⟩
abbrev cX2_readSign : ByteArray := prog_4_method_11_code
def yX2_readSign : MethodName := ⟨RX2, "readSign", "(C)Z"⟩
abbrev cX2_readNumber : ByteArray := prog_4_method_12_code
def yX2_readNumber : MethodName := ⟨RX2, "readNumber", "(II)Z"⟩
abbrev cX2_signAhead : ByteArray := prog_4_method_13_code
def yX2_signAhead : MethodName := ⟨RX2, "signAhead", "()C"⟩
abbrev cX2_formOf : ByteArray := prog_4_method_14_code
def yX2_formOf : MethodName := ⟨RX2, "formOf", "(C)Ljava/lang/String;"⟩
def RX3 : String := "AbbeyLedgers$Past"
def TX3 : u_T := fun k => match k with
  | 0 => ("AbbeyLedgers$Past", "marks", "[I", true)
  | _ => ("AbbeyLedgers$Past", "kept", "I", false)
def tyX3 : Nat → FieldType := fun k => match k with
  | 0 => .array .int
  | _ => .int
abbrev wsX30 : List Cond := u_ws RX3 TX3 2
theorem nmX3 : ∀ a, a < 2 → ∀ b, b < 2 → a ≠ b → (TX3 a).2.1 ≠ (TX3 b).2.1 := by decide +kernel
theorem tyX3_ok : ∀ k, k < 2 → parseFieldDescriptor (TX3 k).2.2.1 = some (tyX3 k) := by decide +kernel
abbrev cX3_init : ByteArray := prog_5_method_1_code
def yX3_init : MethodName := ⟨RX3, "<init>", "()V"⟩
abbrev cX3_size : ByteArray := prog_5_method_2_code
def yX3_size : MethodName := ⟨RX3, "size", "()I"⟩
abbrev cX3_note : ByteArray := prog_5_method_3_code
def yX3_note : MethodName := ⟨RX3, "note", "(LAbbeyLedgers$Books;)V"⟩
abbrev cX3_takeBack : ByteArray := prog_5_method_4_code
def yX3_takeBack : MethodName := ⟨RX3, "takeBack", "(LAbbeyLedgers$Books;)V"⟩
abbrev cX3_keep : ByteArray := prog_5_method_5_code
def yX3_keep : MethodName := ⟨RX3, "keep", "()V"⟩
abbrev cX3_dropLatest : ByteArray := prog_5_method_6_code
def yX3_dropLatest : MethodName := ⟨RX3, "dropLatest", "()V"⟩
abbrev cX3_forget : ByteArray := prog_5_method_7_code
def yX3_forget : MethodName := ⟨RX3, "forget", "()V"⟩
def RX4 : String := "AbbeyLedgers$Refusal"
def TX4 : u_T := fun k => match k with
  | 0 => ("AbbeyLedgers$Refusal", "why", "I", false)
  | 1 => ("AbbeyLedgers$Refusal", "detail", "I", false)
  | _ => ("AbbeyLedgers$Refusal", "command", "I", false)
def tyX4 : Nat → FieldType := fun k => match k with
  | 0 => .int
  | 1 => .int
  | _ => .int
abbrev wsX40 : List Cond := u_ws RX4 TX4 3
theorem nmX4 : ∀ a, a < 3 → ∀ b, b < 3 → a ≠ b → (TX4 a).2.1 ≠ (TX4 b).2.1 := by decide +kernel
theorem tyX4_ok : ∀ k, k < 3 → parseFieldDescriptor (TX4 k).2.2.1 = some (tyX4 k) := by decide +kernel
abbrev cX4_init : ByteArray := prog_6_method_1_code
def yX4_init : MethodName := ⟨RX4, "<init>", "()V"⟩
abbrev cX4_refuse : ByteArray := prog_6_method_2_code
def yX4_refuse : MethodName := ⟨RX4, "refuse", "(II)I"⟩
def RX5 : String := "AbbeyLedgers$Script"
def TX5 : u_T := fun k => match k with
  | 0 => ("AbbeyLedgers$Script", "signs", "[C", true)
  | _ => ("AbbeyLedgers$Script", "length", "I", false)
def tyX5 : Nat → FieldType := fun k => match k with
  | 0 => .array .char
  | _ => .int
abbrev wsX50 : List Cond := u_ws RX5 TX5 2
theorem nmX5 : ∀ a, a < 2 → ∀ b, b < 2 → a ≠ b → (TX5 a).2.1 ≠ (TX5 b).2.1 := by decide +kernel
theorem tyX5_ok : ∀ k, k < 2 → parseFieldDescriptor (TX5 k).2.2.1 = some (tyX5 k) := by decide +kernel
abbrev cX5_init : ByteArray := prog_7_method_1_code
def yX5_init : MethodName := ⟨RX5, "<init>", "()V"⟩
abbrev cX5_size : ByteArray := prog_7_method_2_code
def yX5_size : MethodName := ⟨RX5, "size", "()I"⟩
abbrev cX5_signAt : ByteArray := prog_7_method_3_code
def yX5_signAt : MethodName := ⟨RX5, "signAt", "(I)C"⟩
abbrev cX5_clear : ByteArray := prog_7_method_4_code
def yX5_clear : MethodName := ⟨RX5, "clear", "()V"⟩
abbrev cX5_put : ByteArray := prog_7_method_5_code
def yX5_put : MethodName := ⟨RX5, "put", "(C)V"⟩
abbrev cX5_separate : ByteArray := prog_7_method_6_code
def yX5_separate : MethodName := ⟨RX5, "separate", "(C)V"⟩
abbrev cX5_putNumber : ByteArray := prog_7_method_7_code
def yX5_putNumber : MethodName := ⟨RX5, "putNumber", "(I)V"⟩
def RX6 : String := "AbbeyLedgers$Versions"
def TX6 : u_T := fun k => match k with
  | 0 => ("AbbeyLedgers$Versions", "count", "I", false)
  | 1 => ("AbbeyLedgers$Versions", "parents", "[I", true)
  | 2 => ("AbbeyLedgers$Versions", "years", "[I", true)
  | 3 => ("AbbeyLedgers$Versions", "makers", "[I", true)
  | _ => ("AbbeyLedgers$Versions", "totals", "[I", true)
def tyX6 : Nat → FieldType := fun k => match k with
  | 0 => .int
  | 1 => .array .int
  | 2 => .array .int
  | 3 => .array .int
  | _ => .array .int
abbrev wsX60 : List Cond := u_ws RX6 TX6 5
theorem nmX6 : ∀ a, a < 5 → ∀ b, b < 5 → a ≠ b → (TX6 a).2.1 ≠ (TX6 b).2.1 := by decide +kernel
theorem tyX6_ok : ∀ k, k < 5 → parseFieldDescriptor (TX6 k).2.2.1 = some (tyX6 k) := by decide +kernel
abbrev cX6_init : ByteArray := prog_8_method_1_code
def yX6_init : MethodName := ⟨RX6, "<init>", "()V"⟩
abbrev cX6_copyFrom : ByteArray := prog_8_method_2_code
def yX6_copyFrom : MethodName := ⟨RX6, "copyFrom", "(LAbbeyLedgers$Versions;)V"⟩
abbrev cX6_size : ByteArray := prog_8_method_3_code
def yX6_size : MethodName := ⟨RX6, "size", "()I"⟩
abbrev cX6_forgetFrom : ByteArray := prog_8_method_4_code
def yX6_forgetFrom : MethodName := ⟨RX6, "forgetFrom", "(I)V"⟩
abbrev cX6_has : ByteArray := prog_8_method_5_code
def yX6_has : MethodName := ⟨RX6, "has", "(I)Z"⟩
abbrev cX6_isFull : ByteArray := prog_8_method_6_code
def yX6_isFull : MethodName := ⟨RX6, "isFull", "()Z"⟩
abbrev cX6_parentOf : ByteArray := prog_8_method_7_code
def yX6_parentOf : MethodName := ⟨RX6, "parentOf", "(I)I"⟩
abbrev cX6_yearOf : ByteArray := prog_8_method_8_code
def yX6_yearOf : MethodName := ⟨RX6, "yearOf", "(I)I"⟩
abbrev cX6_makerOf : ByteArray := prog_8_method_9_code
def yX6_makerOf : MethodName := ⟨RX6, "makerOf", "(II)I"⟩
abbrev cX6_totalOf : ByteArray := prog_8_method_10_code
def yX6_totalOf : MethodName := ⟨RX6, "totalOf", "(II)I"⟩
abbrev cX6_amountOn : ByteArray := prog_8_method_11_code
def yX6_amountOn : MethodName := ⟨RX6, "amountOn", "(II)I"⟩
abbrev cX6_addWritten : ByteArray := prog_8_method_12_code
def yX6_addWritten : MethodName := ⟨RX6, "addWritten", "(IIII)I"⟩
abbrev cX6_addGrafted : ByteArray := prog_8_method_13_code
def yX6_addGrafted : MethodName := ⟨RX6, "addGrafted", "(IIIII)I"⟩
abbrev cX6_addChild : ByteArray := prog_8_method_14_code
def yX6_addChild : MethodName := ⟨RX6, "addChild", "(II)I"⟩
abbrev cX6_makePage : ByteArray := prog_8_method_15_code
def yX6_makePage : MethodName := ⟨RX6, "makePage", "(III)V"⟩
abbrev cX6_takePage : ByteArray := prog_8_method_16_code
def yX6_takePage : MethodName := ⟨RX6, "takePage", "(III)V"⟩
abbrev cX6_totalOfHalves : ByteArray := prog_8_method_17_code
def yX6_totalOfHalves : MethodName := ⟨RX6, "totalOfHalves", "(II)I"⟩
abbrev cX6_sumByPages : ByteArray := prog_8_method_18_code
def yX6_sumByPages : MethodName := ⟨RX6, "sumByPages", "(III)I"⟩
abbrev cX6_sumByLines : ByteArray := prog_8_method_19_code
def yX6_sumByLines : MethodName := ⟨RX6, "sumByLines", "(III)I"⟩
abbrev cX6_lineWithMost : ByteArray := prog_8_method_20_code
def yX6_lineWithMost : MethodName := ⟨RX6, "lineWithMost", "(III)I"⟩
abbrev cX6_lineReaching : ByteArray := prog_8_method_21_code
def yX6_lineReaching : MethodName := ⟨RX6, "lineReaching", "(II)I"⟩
abbrev cX6_earlier : ByteArray := prog_8_method_22_code
def yX6_earlier : MethodName := ⟨RX6, "earlier", "(II)I"⟩
abbrev cX6_ancestorsOf : ByteArray := prog_8_method_23_code
def yX6_ancestorsOf : MethodName := ⟨RX6, "ancestorsOf", "(I)I"⟩
abbrev cX6_childrenOf : ByteArray := prog_8_method_24_code
def yX6_childrenOf : MethodName := ⟨RX6, "childrenOf", "(I)I"⟩
abbrev cX6_withoutChildren : ByteArray := prog_8_method_25_code
def yX6_withoutChildren : MethodName := ⟨RX6, "withoutChildren", "()I"⟩
abbrev cX6_pagesMadeBy : ByteArray := prog_8_method_26_code
def yX6_pagesMadeBy : MethodName := ⟨RX6, "pagesMadeBy", "(I)I"⟩
abbrev cX6_pagesMade : ByteArray := prog_8_method_27_code
def yX6_pagesMade : MethodName := ⟨RX6, "pagesMade", "()I"⟩
abbrev cX6_linesNewIn : ByteArray := prog_8_method_28_code
def yX6_linesNewIn : MethodName := ⟨RX6, "linesNewIn", "(I)I"⟩
abbrev cX6_linesApart : ByteArray := prog_8_method_29_code
def yX6_linesApart : MethodName := ⟨RX6, "linesApart", "(IIII)I"⟩
abbrev cX6_othersAlike : ByteArray := prog_8_method_30_code
def yX6_othersAlike : MethodName := ⟨RX6, "othersAlike", "(I)I"⟩
abbrev cX6_latestByYear : ByteArray := prog_8_method_31_code
def yX6_latestByYear : MethodName := ⟨RX6, "latestByYear", "(II)I"⟩
abbrev cX6_earliestWithAmountOf : ByteArray := prog_8_method_32_code
def yX6_earliestWithAmountOf : MethodName := ⟨RX6, "earliestWithAmountOf", "(II)I"⟩
abbrev cX6_latestCommon : ByteArray := prog_8_method_33_code
def yX6_latestCommon : MethodName := ⟨RX6, "latestCommon", "(II)I"⟩
abbrev cX6_pagesInBoth : ByteArray := prog_8_method_34_code
def yX6_pagesInBoth : MethodName := ⟨RX6, "pagesInBoth", "(II)I"⟩
abbrev cX6_usersOf : ByteArray := prog_8_method_35_code
def yX6_usersOf : MethodName := ⟨RX6, "usersOf", "(II)I"⟩
abbrev cX6_atPlace : ByteArray := prog_8_method_36_code
def yX6_atPlace : MethodName := ⟨RX6, "atPlace", "(I)I"⟩
abbrev cX6_versionsAheadOf : ByteArray := prog_8_method_37_code
def yX6_versionsAheadOf : MethodName := ⟨RX6, "versionsAheadOf", "(I)I"⟩
abbrev cX6_withMostPagesOfOthers : ByteArray := prog_8_method_38_code
def yX6_withMostPagesOfOthers : MethodName := ⟨RX6, "withMostPagesOfOthers", "()I"⟩
abbrev cX6_pagesOfOthersMadeBy : ByteArray := prog_8_method_39_code
def yX6_pagesOfOthersMadeBy : MethodName := ⟨RX6, "pagesOfOthersMadeBy", "(I)I"⟩
def RX7 : String := "AbbeyLedgers"
def TX7 : u_T := fun k => match k with
  | 0 => ("AbbeyLedgers", "clerk", "LAbbeyLedgers$Clerk;", true)
  | 1 => ("AbbeyLedgers", "refusal", "LAbbeyLedgers$Refusal;", true)
  | 2 => ("AbbeyLedgers", "books", "LAbbeyLedgers$Books;", true)
  | 3 => ("AbbeyLedgers", "versions", "LAbbeyLedgers$Versions;", true)
  | 4 => ("AbbeyLedgers", "saved", "LAbbeyLedgers$Books;", true)
  | 5 => ("AbbeyLedgers", "hasSaved", "Z", false)
  | 6 => ("AbbeyLedgers", "past", "LAbbeyLedgers$Past;", true)
  | 7 => ("AbbeyLedgers", "draft", "LAbbeyLedgers$Draft;", true)
  | 8 => ("AbbeyLedgers", "faultOfDraft", "I", false)
  | _ => ("AbbeyLedgers", "script", "LAbbeyLedgers$Script;", true)
def tyX7 : Nat → FieldType := fun k => match k with
  | 0 => .object "AbbeyLedgers$Clerk"
  | 1 => .object "AbbeyLedgers$Refusal"
  | 2 => .object "AbbeyLedgers$Books"
  | 3 => .object "AbbeyLedgers$Versions"
  | 4 => .object "AbbeyLedgers$Books"
  | 5 => .boolean
  | 6 => .object "AbbeyLedgers$Past"
  | 7 => .object "AbbeyLedgers$Draft"
  | 8 => .int
  | _ => .object "AbbeyLedgers$Script"
abbrev wsX70 : List Cond := u_ws RX7 TX7 10
theorem nmX7 : ∀ a, a < 10 → ∀ b, b < 10 → a ≠ b → (TX7 a).2.1 ≠ (TX7 b).2.1 := by decide +kernel
theorem tyX7_ok : ∀ k, k < 10 → parseFieldDescriptor (TX7 k).2.2.1 = some (tyX7 k) := by decide +kernel
abbrev cX7_init : ByteArray := prog_1_method_1_code
def yX7_init : MethodName := ⟨RX7, "<init>", "()V"⟩
abbrev cX7_write : ByteArray := prog_1_method_2_code
def yX7_write : MethodName := ⟨RX7, "write", "(III)I"⟩
abbrev cX7_graft : ByteArray := prog_1_method_3_code
def yX7_graft : MethodName := ⟨RX7, "graft", "(IIII)I"⟩
abbrev cX7_fork : ByteArray := prog_1_method_4_code
def yX7_fork : MethodName := ⟨RX7, "fork", "(II)I"⟩
abbrev cX7_back : ByteArray := prog_1_method_5_code
def yX7_back : MethodName := ⟨RX7, "back", "(II)I"⟩
abbrev cX7_pass : ByteArray := prog_1_method_6_code
def yX7_pass : MethodName := ⟨RX7, "pass", "(I)I"⟩
abbrev cX7_ledger : ByteArray := prog_1_method_7_code
def yX7_ledger : MethodName := ⟨RX7, "ledger", "(I)I"⟩
abbrev cX7_amount : ByteArray := prog_1_method_8_code
def yX7_amount : MethodName := ⟨RX7, "amount", "(II)I"⟩
abbrev cX7_sum : ByteArray := prog_1_method_9_code
def yX7_sum : MethodName := ⟨RX7, "sum", "(III)I"⟩
abbrev cX7_sumAgain : ByteArray := prog_1_method_10_code
def yX7_sumAgain : MethodName := ⟨RX7, "sumAgain", "(III)I"⟩
abbrev cX7_most : ByteArray := prog_1_method_11_code
def yX7_most : MethodName := ⟨RX7, "most", "(III)I"⟩
abbrev cX7_reached : ByteArray := prog_1_method_12_code
def yX7_reached : MethodName := ⟨RX7, "reached", "(II)I"⟩
abbrev cX7_versionOf : ByteArray := prog_1_method_13_code
def yX7_versionOf : MethodName := ⟨RX7, "versionOf", "(II)I"⟩
abbrev cX7_maker : ByteArray := prog_1_method_14_code
def yX7_maker : MethodName := ⟨RX7, "maker", "(II)I"⟩
abbrev cX7_had : ByteArray := prog_1_method_15_code
def yX7_had : MethodName := ⟨RX7, "had", "(II)I"⟩
abbrev cX7_since : ByteArray := prog_1_method_16_code
def yX7_since : MethodName := ⟨RX7, "since", "(II)I"⟩
abbrev cX7_common : ByteArray := prog_1_method_17_code
def yX7_common : MethodName := ⟨RX7, "common", "(II)I"⟩
abbrev cX7_apart : ByteArray := prog_1_method_18_code
def yX7_apart : MethodName := ⟨RX7, "apart", "(II)I"⟩
abbrev cX7_shared : ByteArray := prog_1_method_19_code
def yX7_shared : MethodName := ⟨RX7, "shared", "(II)I"⟩
abbrev cX7_isOf : ByteArray := prog_1_method_20_code
def yX7_isOf : MethodName := ⟨RX7, "isOf", "(II)Z"⟩
abbrev cX7_users : ByteArray := prog_1_method_21_code
def yX7_users : MethodName := ⟨RX7, "users", "(II)I"⟩
abbrev cX7_wouldMake : ByteArray := prog_1_method_22_code
def yX7_wouldMake : MethodName := ⟨RX7, "wouldMake", "(II)I"⟩
abbrev cX7_alike : ByteArray := prog_1_method_23_code
def yX7_alike : MethodName := ⟨RX7, "alike", "(I)I"⟩
abbrev cX7_richest : ByteArray := prog_1_method_24_code
def yX7_richest : MethodName := ⟨RX7, "richest", "(I)I"⟩
abbrev cX7_busiest : ByteArray := prog_1_method_25_code
def yX7_busiest : MethodName := ⟨RX7, "busiest", "()I"⟩
abbrev cX7_append : ByteArray := prog_1_method_26_code
def yX7_append : MethodName := ⟨RX7, "append", "(C)I"⟩
abbrev cX7_commands : ByteArray := prog_1_method_27_code
def yX7_commands : MethodName := ⟨RX7, "commands", "()I"⟩
abbrev cX7_faultPosition : ByteArray := prog_1_method_28_code
def yX7_faultPosition : MethodName := ⟨RX7, "faultPosition", "()I"⟩
abbrev cX7_reason : ByteArray := prog_1_method_29_code
def yX7_reason : MethodName := ⟨RX7, "reason", "(I)I"⟩
abbrev cX7_line : ByteArray := prog_1_method_30_code
def yX7_line : MethodName := ⟨RX7, "line", "(I)I"⟩
abbrev cX7_lineage : ByteArray := prog_1_method_31_code
def yX7_lineage : MethodName := ⟨RX7, "lineage", "(I)I"⟩
abbrev cX7_character : ByteArray := prog_1_method_32_code
def yX7_character : MethodName := ⟨RX7, "character", "(I)C"⟩
abbrev cX7_mean : ByteArray := prog_1_method_33_code
def yX7_mean : MethodName := ⟨RX7, "mean", "(I)D"⟩
abbrev cX7_spared : ByteArray := prog_1_method_34_code
def yX7_spared : MethodName := ⟨RX7, "spared", "()F"⟩
abbrev cX7_account : ByteArray := prog_1_method_35_code
def yX7_account : MethodName := ⟨RX7, "account", "(I)I"⟩
abbrev cX7_undo : ByteArray := prog_1_method_36_code
def yX7_undo : MethodName := ⟨RX7, "undo", "()I"⟩
abbrev cX7_save : ByteArray := prog_1_method_37_code
def yX7_save : MethodName := ⟨RX7, "save", "()I"⟩
abbrev cX7_restore : ByteArray := prog_1_method_38_code
def yX7_restore : MethodName := ⟨RX7, "restore", "()I"⟩
abbrev cX7_settled : ByteArray := prog_1_method_39_code
def yX7_settled : MethodName := ⟨RX7, "settled", "(I)I"⟩
abbrev cX7_checkVersion : ByteArray := prog_1_method_40_code
def yX7_checkVersion : MethodName := ⟨RX7, "checkVersion", "(I)V"⟩
abbrev cX7_checkHouse : ByteArray := prog_1_method_41_code
def yX7_checkHouse : MethodName := ⟨RX7, "checkHouse", "(I)V"⟩
abbrev cX7_checkLines : ByteArray := prog_1_method_42_code
def yX7_checkLines : MethodName := ⟨RX7, "checkLines", "(II)V"⟩
abbrev cX7_checkSpan : ByteArray := prog_1_method_43_code
def yX7_checkSpan : MethodName := ⟨RX7, "checkSpan", "(I)V"⟩
abbrev cX7_isHouse : ByteArray := prog_1_method_44_code
def yX7_isHouse : MethodName := ⟨RX7, "isHouse", "(I)Z"⟩
abbrev cX7_isLine : ByteArray := prog_1_method_45_code
def yX7_isLine : MethodName := ⟨RX7, "isLine", "(I)Z"⟩
abbrev cX7_isSpan : ByteArray := prog_1_method_46_code
def yX7_isSpan : MethodName := ⟨RX7, "isSpan", "(I)Z"⟩
abbrev cX7_isInside : ByteArray := prog_1_method_47_code
def yX7_isInside : MethodName := ⟨RX7, "isInside", "(III)Z"⟩
abbrev cX7_isCut : ByteArray := prog_1_method_48_code
def yX7_isCut : MethodName := ⟨RX7, "isCut", "(III)Z"⟩
abbrev cX7_isDigit : ByteArray := prog_1_method_49_code
def yX7_isDigit : MethodName := ⟨RX7, "isDigit", "(C)Z"⟩
def RX8 : String := "AbbeyLedgersModel"
def TX8 : u_T := fun k => match k with
  | 0 => ("AbbeyLedgersModel", "g", "[I", true)
  | 1 => ("AbbeyLedgersModel", "kept", "[I", true)
  | 2 => ("AbbeyLedgersModel", "stored", "[I", true)
  | 3 => ("AbbeyLedgersModel", "before", "[I", true)
  | 4 => ("AbbeyLedgersModel", "isStored", "Z", false)
  | 5 => ("AbbeyLedgersModel", "changes", "I", false)
  | 6 => ("AbbeyLedgersModel", "isWithin", "Z", false)
  | 7 => ("AbbeyLedgersModel", "done", "I", false)
  | 8 => ("AbbeyLedgersModel", "code", "I", false)
  | 9 => ("AbbeyLedgersModel", "why", "I", false)
  | 10 => ("AbbeyLedgersModel", "detail", "I", false)
  | 11 => ("AbbeyLedgersModel", "index0", "I", false)
  | 12 => ("AbbeyLedgersModel", "input", "[I", true)
  | 13 => ("AbbeyLedgersModel", "length", "I", false)
  | 14 => ("AbbeyLedgersModel", "fault", "I", false)
  | 15 => ("AbbeyLedgersModel", "signs", "[C", true)
  | 16 => ("AbbeyLedgersModel", "signMany", "I", false)
  | 17 => ("AbbeyLedgersModel", "lows", "[I", true)
  | 18 => ("AbbeyLedgersModel", "highs", "[I", true)
  | 19 => ("AbbeyLedgersModel", "at", "I", false)
  | 20 => ("AbbeyLedgersModel", "told", "[I", true)
  | _ => ("AbbeyLedgersModel", "toldMany", "I", false)
def tyX8 : Nat → FieldType := fun k => match k with
  | 0 => .array .int
  | 1 => .array .int
  | 2 => .array .int
  | 3 => .array .int
  | 4 => .boolean
  | 5 => .int
  | 6 => .boolean
  | 7 => .int
  | 8 => .int
  | 9 => .int
  | 10 => .int
  | 11 => .int
  | 12 => .array .int
  | 13 => .int
  | 14 => .int
  | 15 => .array .char
  | 16 => .int
  | 17 => .array .int
  | 18 => .array .int
  | 19 => .int
  | 20 => .array .int
  | _ => .int
abbrev wsX80 : List Cond := u_ws RX8 TX8 22
theorem nmX8 : ∀ a, a < 22 → ∀ b, b < 22 → a ≠ b → (TX8 a).2.1 ≠ (TX8 b).2.1 := by decide +kernel
theorem tyX8_ok : ∀ k, k < 22 → parseFieldDescriptor (TX8 k).2.2.1 = some (tyX8 k) := by decide +kernel
abbrev cX8_init : ByteArray := prog_10_method_1_code
def yX8_init : MethodName := ⟨RX8, "<init>", "()V"⟩
abbrev cX8_thrown : ByteArray := prog_10_method_2_code
def yX8_thrown : MethodName := ⟨RX8, "thrown", "()I"⟩
abbrev cX8_fails : ByteArray := prog_10_method_3_code
def yX8_fails : MethodName := ⟨RX8, "fails", "(I)Z"⟩
abbrev cX8_refuses : ByteArray := prog_10_method_4_code
def yX8_refuses : MethodName := ⟨RX8, "refuses", "(II)I"⟩
abbrev cX8_in : ByteArray := prog_10_method_5_code
def yX8_in : MethodName := ⟨RX8, "in", "(III)Z"⟩
abbrev cX8_copies : ByteArray := prog_10_method_6_code
def yX8_copies : MethodName := ⟨RX8, "copies", "([II[II)V"⟩
abbrev cX8_keeps : ByteArray := prog_10_method_7_code
def yX8_keeps : MethodName := ⟨RX8, "keeps", "([I)V"⟩
abbrev cX8_of : ByteArray := prog_10_method_8_code
def yX8_of : MethodName := ⟨RX8, "of", "(II)I"⟩
abbrev cX8_lays : ByteArray := prog_10_method_9_code
def yX8_lays : MethodName := ⟨RX8, "lays", "(III)V"⟩
abbrev cX8_isVersion : ByteArray := prog_10_method_10_code
def yX8_isVersion : MethodName := ⟨RX8, "isVersion", "(I)Z"⟩
abbrev cX8_isHouse : ByteArray := prog_10_method_11_code
def yX8_isHouse : MethodName := ⟨RX8, "isHouse", "(I)Z"⟩
abbrev cX8_isLine : ByteArray := prog_10_method_12_code
def yX8_isLine : MethodName := ⟨RX8, "isLine", "(I)Z"⟩
abbrev cX8_amountOf : ByteArray := prog_10_method_13_code
def yX8_amountOf : MethodName := ⟨RX8, "amountOf", "(II)I"⟩
abbrev cX8_has : ByteArray := prog_10_method_14_code
def yX8_has : MethodName := ⟨RX8, "has", "(III)Z"⟩
abbrev cX8_isWithin0 : ByteArray := prog_10_method_15_code
def yX8_isWithin0 : MethodName := ⟨RX8, "isWithin0", "(III)Z"⟩
abbrev cX8_comes : ByteArray := prog_10_method_16_code
def yX8_comes : MethodName := ⟨RX8, "comes", "(I)I"⟩
abbrev cX8_write : ByteArray := prog_10_method_17_code
def yX8_write : MethodName := ⟨RX8, "write", "(III)I"⟩
abbrev cX8_areLike : ByteArray := prog_10_method_18_code
def yX8_areLike : MethodName := ⟨RX8, "areLike", "(IIII)Z"⟩
abbrev cX8_graft : ByteArray := prog_10_method_19_code
def yX8_graft : MethodName := ⟨RX8, "graft", "(IIII)I"⟩
abbrev cX8_fork : ByteArray := prog_10_method_20_code
def yX8_fork : MethodName := ⟨RX8, "fork", "(II)I"⟩
abbrev cX8_ancestors : ByteArray := prog_10_method_21_code
def yX8_ancestors : MethodName := ⟨RX8, "ancestors", "(I)I"⟩
abbrev cX8_back : ByteArray := prog_10_method_22_code
def yX8_back : MethodName := ⟨RX8, "back", "(II)I"⟩
abbrev cX8_pass : ByteArray := prog_10_method_23_code
def yX8_pass : MethodName := ⟨RX8, "pass", "(I)I"⟩
abbrev cX8_ledger : ByteArray := prog_10_method_24_code
def yX8_ledger : MethodName := ⟨RX8, "ledger", "(I)I"⟩
abbrev cX8_amount : ByteArray := prog_10_method_25_code
def yX8_amount : MethodName := ⟨RX8, "amount", "(II)I"⟩
abbrev cX8_sumOf : ByteArray := prog_10_method_26_code
def yX8_sumOf : MethodName := ⟨RX8, "sumOf", "(III)I"⟩
abbrev cX8_areLines : ByteArray := prog_10_method_27_code
def yX8_areLines : MethodName := ⟨RX8, "areLines", "(II)Z"⟩
abbrev cX8_sum : ByteArray := prog_10_method_28_code
def yX8_sum : MethodName := ⟨RX8, "sum", "(III)I"⟩
abbrev cX8_sumAgain : ByteArray := prog_10_method_29_code
def yX8_sumAgain : MethodName := ⟨RX8, "sumAgain", "(III)I"⟩
abbrev cX8_most : ByteArray := prog_10_method_30_code
def yX8_most : MethodName := ⟨RX8, "most", "(III)I"⟩
abbrev cX8_reached : ByteArray := prog_10_method_31_code
def yX8_reached : MethodName := ⟨RX8, "reached", "(II)I"⟩
abbrev cX8_children : ByteArray := prog_10_method_32_code
def yX8_children : MethodName := ⟨RX8, "children", "(I)I"⟩
abbrev cX8_made : ByteArray := prog_10_method_33_code
def yX8_made : MethodName := ⟨RX8, "made", "(I)I"⟩
abbrev cX8_apart0 : ByteArray := prog_10_method_34_code
def yX8_apart0 : MethodName := ⟨RX8, "apart0", "(II)I"⟩
abbrev cX8_houses : ByteArray := prog_10_method_35_code
def yX8_houses : MethodName := ⟨RX8, "houses", "(I)I"⟩
abbrev cX8_versionOf : ByteArray := prog_10_method_36_code
def yX8_versionOf : MethodName := ⟨RX8, "versionOf", "(II)I"⟩
abbrev cX8_maker : ByteArray := prog_10_method_37_code
def yX8_maker : MethodName := ⟨RX8, "maker", "(II)I"⟩
abbrev cX8_had : ByteArray := prog_10_method_38_code
def yX8_had : MethodName := ⟨RX8, "had", "(II)I"⟩
abbrev cX8_since : ByteArray := prog_10_method_39_code
def yX8_since : MethodName := ⟨RX8, "since", "(II)I"⟩
abbrev cX8_areVersions : ByteArray := prog_10_method_40_code
def yX8_areVersions : MethodName := ⟨RX8, "areVersions", "(II)Z"⟩
abbrev cX8_common : ByteArray := prog_10_method_41_code
def yX8_common : MethodName := ⟨RX8, "common", "(II)I"⟩
abbrev cX8_apart : ByteArray := prog_10_method_42_code
def yX8_apart : MethodName := ⟨RX8, "apart", "(II)I"⟩
abbrev cX8_shared : ByteArray := prog_10_method_43_code
def yX8_shared : MethodName := ⟨RX8, "shared", "(II)I"⟩
abbrev cX8_isOf : ByteArray := prog_10_method_44_code
def yX8_isOf : MethodName := ⟨RX8, "isOf", "(II)Z"⟩
abbrev cX8_usersOf : ByteArray := prog_10_method_45_code
def yX8_usersOf : MethodName := ⟨RX8, "usersOf", "(II)I"⟩
abbrev cX8_users : ByteArray := prog_10_method_46_code
def yX8_users : MethodName := ⟨RX8, "users", "(II)I"⟩
abbrev cX8_wouldMake : ByteArray := prog_10_method_47_code
def yX8_wouldMake : MethodName := ⟨RX8, "wouldMake", "(II)I"⟩
abbrev cX8_alike : ByteArray := prog_10_method_48_code
def yX8_alike : MethodName := ⟨RX8, "alike", "(I)I"⟩
abbrev cX8_richest : ByteArray := prog_10_method_49_code
def yX8_richest : MethodName := ⟨RX8, "richest", "(I)I"⟩
abbrev cX8_lent : ByteArray := prog_10_method_50_code
def yX8_lent : MethodName := ⟨RX8, "lent", "(I)I"⟩
abbrev cX8_busiest : ByteArray := prog_10_method_51_code
def yX8_busiest : MethodName := ⟨RX8, "busiest", "()I"⟩
abbrev cX8_append : ByteArray := prog_10_method_52_code
def yX8_append : MethodName := ⟨RX8, "append", "(C)I"⟩
abbrev cX8_here : ByteArray := prog_10_method_53_code
def yX8_here : MethodName := ⟨RX8, "here", "()I"⟩
abbrev cX8_skips : ByteArray := prog_10_method_54_code
def yX8_skips : MethodName := ⟨RX8, "skips", "(I)Z"⟩
abbrev cX8_figures : ByteArray := prog_10_method_55_code
def yX8_figures : MethodName := ⟨RX8, "figures", "(II)Z"⟩
abbrev cX8_commandHere : ByteArray := prog_10_method_56_code
def yX8_commandHere : MethodName := ⟨RX8, "commandHere", "()Z"⟩
abbrev cX8_isText : ByteArray := prog_10_method_57_code
def yX8_isText : MethodName := ⟨RX8, "isText", "()Z"⟩
abbrev cX8_carries : ByteArray := prog_10_method_58_code
def yX8_carries : MethodName := ⟨RX8, "carries", "(I)I"⟩
abbrev cX8_commands : ByteArray := prog_10_method_59_code
def yX8_commands : MethodName := ⟨RX8, "commands", "()I"⟩
abbrev cX8_faultPosition : ByteArray := prog_10_method_60_code
def yX8_faultPosition : MethodName := ⟨RX8, "faultPosition", "()I"⟩
abbrev cX8_reason : ByteArray := prog_10_method_61_code
def yX8_reason : MethodName := ⟨RX8, "reason", "(I)I"⟩
abbrev cX8_writes : ByteArray := prog_10_method_62_code
def yX8_writes : MethodName := ⟨RX8, "writes", "(I)V"⟩
abbrev cX8_writesNumber : ByteArray := prog_10_method_63_code
def yX8_writesNumber : MethodName := ⟨RX8, "writesNumber", "(I)V"⟩
abbrev cX8_line : ByteArray := prog_10_method_64_code
def yX8_line : MethodName := ⟨RX8, "line", "(I)I"⟩
abbrev cX8_lineage : ByteArray := prog_10_method_65_code
def yX8_lineage : MethodName := ⟨RX8, "lineage", "(I)I"⟩
abbrev cX8_character : ByteArray := prog_10_method_66_code
def yX8_character : MethodName := ⟨RX8, "character", "(I)C"⟩
abbrev cX8_mean : ByteArray := prog_10_method_67_code
def yX8_mean : MethodName := ⟨RX8, "mean", "(I)D"⟩
abbrev cX8_allMade : ByteArray := prog_10_method_68_code
def yX8_allMade : MethodName := ⟨RX8, "allMade", "()I"⟩
abbrev cX8_spared : ByteArray := prog_10_method_69_code
def yX8_spared : MethodName := ⟨RX8, "spared", "()F"⟩
abbrev cX8_versionsThat : ByteArray := prog_10_method_70_code
def yX8_versionsThat : MethodName := ⟨RX8, "versionsThat", "(Z)I"⟩
abbrev cX8_account : ByteArray := prog_10_method_71_code
def yX8_account : MethodName := ⟨RX8, "account", "(I)I"⟩
abbrev cX8_undo : ByteArray := prog_10_method_72_code
def yX8_undo : MethodName := ⟨RX8, "undo", "()I"⟩
abbrev cX8_save : ByteArray := prog_10_method_73_code
def yX8_save : MethodName := ⟨RX8, "save", "()I"⟩
abbrev cX8_restore : ByteArray := prog_10_method_74_code
def yX8_restore : MethodName := ⟨RX8, "restore", "()I"⟩
def RJ0 : String := "java/lang/String"
abbrev cJ0_length_8abf5 : ByteArray := prog_19_method_54_code
def yJ0_length_8abf5 : MethodName := ⟨RJ0, "length", "()I"⟩
abbrev cJ0_isEmpty_aae02 : ByteArray := prog_19_method_55_code
def yJ0_isEmpty_aae02 : MethodName := ⟨RJ0, "isEmpty", "()Z"⟩
abbrev cJ0_charAt_5068e : ByteArray := prog_19_method_56_code
def yJ0_charAt_5068e : MethodName := ⟨RJ0, "charAt", "(I)C"⟩
abbrev cJ0_coder_7d493 : ByteArray := prog_19_method_152_code
def yJ0_coder_7d493 : MethodName := ⟨RJ0, "coder", "()B"⟩
abbrev cJ0_isLatin1_aae02 : ByteArray := prog_19_method_154_code
def yJ0_isLatin1_aae02 : MethodName := ⟨RJ0, "isLatin1", "()Z"⟩
abbrev cJ0_checkIndex_df160 : ByteArray := prog_19_method_155_code
def yJ0_checkIndex_df160 : MethodName := ⟨RJ0, "checkIndex", "(II)V"⟩
def RJ1 : String := "java/lang/StringLatin1"
abbrev cJ1_charAt_3b067 : ByteArray := prog_20_method_2_code
def yJ1_charAt_3b067 : MethodName := ⟨RJ1, "charAt", "([BI)C"⟩
def RJ2 : String := "java/lang/StringUTF16"
abbrev cJ2_getChar_3b067 : ByteArray := prog_21_method_5_code
def yJ2_getChar_3b067 : MethodName := ⟨RJ2, "getChar", "([BI)C"⟩
abbrev cJ2_length_9d52b : ByteArray := prog_21_method_6_code
def yJ2_length_9d52b : MethodName := ⟨RJ2, "length", "([B)I"⟩
abbrev cJ2_charAt_3b067 : ByteArray := prog_21_method_83_code
def yJ2_charAt_3b067 : MethodName := ⟨RJ2, "charAt", "([BI)C"⟩
abbrev cJ2_checkIndex_2214a : ByteArray := prog_21_method_91_code
def yJ2_checkIndex_2214a : MethodName := ⟨RJ2, "checkIndex", "(I[B)V"⟩
def RJ10 : String := "java/lang/System"
def RJ3 : String := "jdk/internal/util/Preconditions"
abbrev cJ3_checkIndex_8e157 : ByteArray := prog_28_method_11_code
def yJ3_checkIndex_8e157 : MethodName := ⟨RJ3, "checkIndex", "(IILjava/util/function/BiFunction;)I"⟩
def RL : String := "AbbeyLedgersLaw"
abbrev cL_write : ByteArray := method_3_code
def yL_write : MethodName := ⟨RL, "write", "(LAbbeyLedgers;III[J)I"⟩
abbrev cL_graft : ByteArray := method_4_code
def yL_graft : MethodName := ⟨RL, "graft", "(LAbbeyLedgers;IIII[J)I"⟩
abbrev cL_fork : ByteArray := method_5_code
def yL_fork : MethodName := ⟨RL, "fork", "(LAbbeyLedgers;II[J)I"⟩
abbrev cL_back : ByteArray := method_6_code
def yL_back : MethodName := ⟨RL, "back", "(LAbbeyLedgers;II[J)I"⟩
abbrev cL_pass : ByteArray := method_7_code
def yL_pass : MethodName := ⟨RL, "pass", "(LAbbeyLedgers;I[J)I"⟩
abbrev cL_ledger : ByteArray := method_8_code
def yL_ledger : MethodName := ⟨RL, "ledger", "(LAbbeyLedgers;I[J)I"⟩
abbrev cL_amount : ByteArray := method_9_code
def yL_amount : MethodName := ⟨RL, "amount", "(LAbbeyLedgers;II[J)I"⟩
abbrev cL_sum : ByteArray := method_10_code
def yL_sum : MethodName := ⟨RL, "sum", "(LAbbeyLedgers;III[J)I"⟩
abbrev cL_sumAgain : ByteArray := method_11_code
def yL_sumAgain : MethodName := ⟨RL, "sumAgain", "(LAbbeyLedgers;III[J)I"⟩
abbrev cL_most : ByteArray := method_12_code
def yL_most : MethodName := ⟨RL, "most", "(LAbbeyLedgers;III[J)I"⟩
abbrev cL_reached : ByteArray := method_13_code
def yL_reached : MethodName := ⟨RL, "reached", "(LAbbeyLedgers;II[J)I"⟩
abbrev cL_versionOf : ByteArray := method_14_code
def yL_versionOf : MethodName := ⟨RL, "versionOf", "(LAbbeyLedgers;II[J)I"⟩
abbrev cL_maker : ByteArray := method_15_code
def yL_maker : MethodName := ⟨RL, "maker", "(LAbbeyLedgers;II[J)I"⟩
abbrev cL_had : ByteArray := method_16_code
def yL_had : MethodName := ⟨RL, "had", "(LAbbeyLedgers;II[J)I"⟩
abbrev cL_since : ByteArray := method_17_code
def yL_since : MethodName := ⟨RL, "since", "(LAbbeyLedgers;II[J)I"⟩
abbrev cL_common : ByteArray := method_18_code
def yL_common : MethodName := ⟨RL, "common", "(LAbbeyLedgers;II[J)I"⟩
abbrev cL_apart : ByteArray := method_19_code
def yL_apart : MethodName := ⟨RL, "apart", "(LAbbeyLedgers;II[J)I"⟩
abbrev cL_shared : ByteArray := method_20_code
def yL_shared : MethodName := ⟨RL, "shared", "(LAbbeyLedgers;II[J)I"⟩
abbrev cL_isOf : ByteArray := method_21_code
def yL_isOf : MethodName := ⟨RL, "isOf", "(LAbbeyLedgers;II[J)I"⟩
abbrev cL_users : ByteArray := method_22_code
def yL_users : MethodName := ⟨RL, "users", "(LAbbeyLedgers;II[J)I"⟩
abbrev cL_wouldMake : ByteArray := method_23_code
def yL_wouldMake : MethodName := ⟨RL, "wouldMake", "(LAbbeyLedgers;II[J)I"⟩
abbrev cL_alike : ByteArray := method_24_code
def yL_alike : MethodName := ⟨RL, "alike", "(LAbbeyLedgers;I[J)I"⟩
abbrev cL_richest : ByteArray := method_25_code
def yL_richest : MethodName := ⟨RL, "richest", "(LAbbeyLedgers;I[J)I"⟩
abbrev cL_busiest : ByteArray := method_26_code
def yL_busiest : MethodName := ⟨RL, "busiest", "(LAbbeyLedgers;[J)I"⟩
abbrev cL_append : ByteArray := method_27_code
def yL_append : MethodName := ⟨RL, "append", "(LAbbeyLedgers;C[J)I"⟩
abbrev cL_commands : ByteArray := method_28_code
def yL_commands : MethodName := ⟨RL, "commands", "(LAbbeyLedgers;[J)I"⟩
abbrev cL_reason : ByteArray := method_29_code
def yL_reason : MethodName := ⟨RL, "reason", "(LAbbeyLedgers;I[J)I"⟩
abbrev cL_line : ByteArray := method_30_code
def yL_line : MethodName := ⟨RL, "line", "(LAbbeyLedgers;I[J)I"⟩
abbrev cL_lineage : ByteArray := method_31_code
def yL_lineage : MethodName := ⟨RL, "lineage", "(LAbbeyLedgers;I[J)I"⟩
abbrev cL_character : ByteArray := method_32_code
def yL_character : MethodName := ⟨RL, "character", "(LAbbeyLedgers;I[J)I"⟩
abbrev cL_mean : ByteArray := method_33_code
def yL_mean : MethodName := ⟨RL, "mean", "(LAbbeyLedgers;I[D)I"⟩
abbrev cL_account : ByteArray := method_34_code
def yL_account : MethodName := ⟨RL, "account", "(LAbbeyLedgers;I[J)I"⟩
abbrev cL_undo : ByteArray := method_35_code
def yL_undo : MethodName := ⟨RL, "undo", "(LAbbeyLedgers;[J)I"⟩
abbrev cL_restore : ByteArray := method_36_code
def yL_restore : MethodName := ⟨RL, "restore", "(LAbbeyLedgers;[J)I"⟩
abbrev cL_law : ByteArray := code
def yL_law : MethodName := ⟨RL, "law", "([I)Z"⟩
abbrev vwCl : List vw_C := [(RX0, TX0, 5), (RX1, TX1, 3), (RX2, TX2, 5), (RX3, TX3, 2), (RX4, TX4, 3), (RX5, TX5, 2), (RX6, TX6, 5), (RX7, TX7, 10), (RX8, TX8, 22)]
end
section
/-! THE SMALL MACHINE: values by tags, cells by their numbers, ints as Int; 'Ev' says of a method's body, from a place on, what comes of it -/
/-- a value: (0,x) an int; (1,c) the cell c of ours; (2,i) the text constant i; (3,j) the old array j; (4,x) a long; (5,b) a double's bits; (6,b) a float's bits; (7,i) the bytes of the text i; (8,_) the JDK's formatter; (9,_) nothing known -/
abbrev zSV : Type := Nat × Int
/-- the shape (kind, size or class), references, ints, longs, doubles -/
abbrev zHp : Type := List (Nat × Nat) × (Nat → Nat → Option Nat) × (Nat → Int → Int) × (Nat → Int → Int) × (Nat → Int → Int)
/-- an outcome: what is returned, or the class that is thrown; the heap then; how many cells and slots were made -/
abbrev zO : Type := (Option zSV ⊕ String) × zHp × Nat × Nat
/-- a method: its name, bytes, locals, return type, handlers, frames and locals that its calls need -/
abbrev zM : Type := MethodName × ByteArray × Nat × Option FieldType × List (Nat × Nat × Nat × Nat) × Nat × Nat
/-- class numbers; the array classes; the text constants and their byte arrays; the old arrays; what these hold -/
abbrev zG : Type := va_G × (Nat → ClassId) × (Nat → Nat) × (Nat → Nat) × (Nat → Nat) × (Nat → Nat × (Int → Int)) × Option Nat
def zT : List Cond := lw_tbl.filter goodWord
def zNwOk : Cond → Bool
  | .fieldLinkNest .. => true
  | .methodLinkNest .. => true
  | .castable .. => true
  | .declares .. => true
  | _ => false
def zNw : List Cond := lw_tbl.filter zNwOk
theorem zT_good {w : Cond} (h : w ∈ zT) : goodWord w = true := (List.mem_filter.mp h).2
theorem zT_in {w : Cond} (i : Nat) (h : lw_tbl[i]? = some w) (hg : goodWord w = true) : w ∈ zT := List.mem_filter.mpr ⟨List.mem_of_getElem? h, hg⟩
theorem zNw_in {w : Cond} (i : Nat) (h : lw_tbl[i]? = some w) (hg : zNwOk w = true) : w ∈ zNw := List.mem_filter.mpr ⟨List.mem_of_getElem? h, hg⟩
def zf (M : zM) (pc : Nat) : Option (Instr × Nat × Nat) := match decode M.2.1 pc with
  | .ok (i, n) => some (i, n, pc + n)
  | .error _ => none
theorem zf_ok {M : zM} {pc n pc' : Nat} {i : Instr} (h : zf M pc = some (i, n, pc')) : decode M.2.1 pc = .ok (i, n) ∧ pc' = pc + n := by
  unfold zf at h
  split at h
  · rename_i i' n' h1
    cases h
    exact ⟨h1, rfl⟩
  · cases h
def zc (G : zG) (ad : Nat → Nat) (v : zSV) : Value := match v with
  | (0, x) => .int (Int32.ofInt x)
  | (1, k) => .ref (ad k.toNat)
  | (2, k) => .ref (G.2.2.1 k.toNat)
  | (3, k) => .ref (G.2.2.2.2.1 k.toNat)
  | (4, x) => .long (Int64.ofInt x)
  | (5, x) => .double (UInt64.ofNat x.toNat)
  | (6, x) => .float (UInt32.ofNat x.toNat)
  | (7, k) => .ref (G.2.2.2.1 k.toNat)
  | (8, _) => va_rf G.2.2.2.2.2.2
  | _ => .null
def zcat (v : zSV) : Nat := if v.1 = 4 ∨ v.1 = 5 then 2 else 1
theorem zcat_eq (G : zG) (ad : Nat → Nat) (v : zSV) : (zc G ad v).category = zcat v := by
  obtain ⟨t, x⟩ := v
  match t with
  | 0 => rfl
  | 1 => rfl
  | 2 => rfl
  | 3 => rfl
  | 4 => rfl
  | 5 => rfl
  | 6 => rfl
  | 7 => rfl
  | 8 =>
    show (va_rf G.2.2.2.2.2.2).category = 1
    cases G.2.2.2.2.2.2 <;> rfl
  | t + 9 => simp [zc, zcat, Value.category]
theorem zcats (G : zG) (ad : Nat → Nat) (st : List zSV) : ((st.map (zc G ad)).map fun v => v.category) = st.map zcat := by
  rw [List.map_map]
  exact List.map_congr_left fun v _ => zcat_eq G ad v
/-- the known locals -/
def zL (G : zG) (ad : Nat → Nat) (ls : List zSV) : List (Nat × Value) := (ls.mapIdx fun i v => (i, v)).filterMap fun q => if q.2.1 = 9 then none else some (q.1, zc G ad q.2)
theorem zL_mem {G : zG} {ad : Nat → Nat} {ls : List zSV} {q : Nat × Value} : q ∈ zL G ad ls ↔ ∃ w, ls[q.1]? = some w ∧ w.1 ≠ 9 ∧ q.2 = zc G ad w := by
  unfold zL
  rw [List.mem_filterMap]
  constructor
  · rintro ⟨⟨i, w⟩, h1, h2⟩
    obtain ⟨k, hk⟩ := List.getElem?_of_mem h1
    rw [List.getElem?_mapIdx] at hk
    cases hw : ls[k]? with
    | none => rw [hw] at hk; cases hk
    | some w' =>
      rw [hw] at hk
      cases hk
      by_cases h9 : w.1 = 9
      · simp [h9] at h2
      · simp [h9] at h2
        subst h2
        exact ⟨w, hw, h9, rfl⟩
  · rintro ⟨w, h1, h2, h3⟩
    refine ⟨(q.1, w), ?_, by simp [h2, ← h3]⟩
    refine List.mem_of_getElem? (i := q.1) ?_
    rw [List.getElem?_mapIdx, h1]
    rfl
theorem zL_at {G : zG} {ad : Nat → Nat} {ls : List zSV} {la : Array Slot} {n i : Nat} {w : zSV} (h : lv_has la n (zL G ad ls)) (hi : ls[i]? = some w) (hw : w.1 ≠ 9) : la[i]? = some (.val (zc G ad w)) := h.2.2 (i, zc G ad w) (zL_mem.mpr ⟨w, hi, hw, rfl⟩)
theorem lv_less {la : Array Slot} {n : Nat} {l l' : List (Nat × Value)} (h : lv_has la n l) (hs : ∀ q ∈ l', q ∈ l) : lv_has la n l' := ⟨h.1, h.2.1, fun q hq => h.2.2 q (hs q hq)⟩
/-- no long or double right below -/
def zb (ls : List zSV) : Nat → Bool
  | 0 => true
  | i + 1 => match ls[i]? with
    | some (4, _) => false
    | some (5, _) => false
    | _ => true
theorem zb_ok {G : zG} {ad : Nat → Nat} {ls : List zSV} {i j : Nat} {w : zSV} (h : zb ls i = true) (hj : ls[j]? = some w) (e : j + 1 = i) : ¬ (zc G ad w).category = 2 := by
  subst e
  rw [zcat_eq]
  unfold zcat
  intro h2
  have h3 : w.1 = 4 ∨ w.1 = 5 := by
    by_cases h4 : w.1 = 4 ∨ w.1 = 5
    · exact h4
    · rw [if_neg h4] at h2; cases h2
  obtain ⟨t, x⟩ := w
  simp only [zb, hj] at h
  rcases h3 with h3 | h3 <;> (simp only at h3; subst h3; simp at h)
theorem zL_set {G : zG} {ad : Nat → Nat} {ls : List zSV} {la : Array Slot} {n i : Nat} {w : zSV} (hb : zb ls i = true) (h : lv_has la n ((i, zc G ad w) :: (zL G ad ls).filter (fun q => !(q.1 == i) && !(q.1 + 1 == i && q.2.category == 2)))) : lv_has la n (zL G ad (ls.set i w)) := by
  refine lv_less h fun q hq => ?_
  obtain ⟨w', h1, h2, h3⟩ := zL_mem.mp hq
  by_cases hqi : q.1 = i
  · have hlt : i < ls.length := by
      have := (List.getElem?_eq_some_iff.mp h1).1
      rw [List.length_set] at this
      omega
    rw [hqi, List.getElem?_set_self hlt] at h1
    cases h1
    refine List.mem_cons.mpr (Or.inl ?_)
    rw [← hqi, ← h3]
  · rw [List.getElem?_set_ne (Ne.symm hqi)] at h1
    refine List.mem_cons.mpr (Or.inr (List.mem_filter.mpr ⟨zL_mem.mpr ⟨w', h1, h2, h3⟩, ?_⟩))
    have h5 : q.1 + 1 = i → ¬ q.2.category = 2 := fun e => by rw [h3]; exact zb_ok hb h1 e
    by_cases e : q.1 + 1 = i
    · simp [hqi, h5 e]
    · simp [hqi, e]
/-- fields: how many, and which are references -/
def zN (ci : Nat) : Nat := match ci with
  | 0 => 5
  | 1 => 3
  | 2 => 5
  | 3 => 2
  | 4 => 3
  | 5 => 2
  | 6 => 5
  | 7 => 10
  | _ => 22
def zR (ci k : Nat) : Bool := match ci with
  | 0 => k ∈ [0, 1]
  | 1 => k ∈ [0, 1, 2]
  | 2 => k ∈ [0, 4]
  | 3 => k ∈ [0]
  | 4 => false
  | 5 => k ∈ [0]
  | 6 => k ∈ [1, 2, 3, 4]
  | 7 => k ∈ [0, 1, 2, 3, 4, 6, 7, 9]
  | _ => k ∈ [0, 1, 2, 3, 12, 15, 17, 18, 20]
def zF (ad : Nat → Nat) (h : zHp) (c ci : Nat) : List Value := (List.range (zN ci)).map fun k => if zR ci k then va_rf ((h.2.1 c k).map ad) else .int (Int32.ofInt (h.2.2.1 c (k : Int)))
def zE (G : zG) (ad : Nat → Nat) (h : zHp) (c : Nat) (kn : Nat × Nat) : va_E := match kn with
  | (0, ci) => .inr (ci, zF ad h c ci)
  | (1, n) => .inl (G.2.1 0, n, .inl fun j => Int32.ofInt (h.2.2.1 c (j : Int)))
  | (2, n) => .inl (G.2.1 1, n, .inl fun j => Int32.ofInt (h.2.2.1 c (j : Int)))
  | (3, n) => .inl (G.2.1 2, n, .inr (.inl fun j => Int64.ofInt (h.2.2.2.1 c (j : Int))))
  | (_, n) => .inl (G.2.1 3, n, .inr (.inr (.inr (.inl fun j => UInt64.ofNat (h.2.2.2.2 c (j : Int)).toNat))))
def zW (G : zG) (ad : Nat → Nat) (h : zHp) : va_W := h.1.mapIdx fun c kn => (ad c, zE G ad h c kn)
theorem zW_at {G : zG} {ad : Nat → Nat} {h : zHp} {c : Nat} {kn : Nat × Nat} (hc : h.1[c]? = some kn) : (zW G ad h)[c]? = some (ad c, zE G ad h c kn) := by
  unfold zW
  rw [List.getElem?_mapIdx, hc]
  rfl
theorem zW_set {G : zG} {ad : Nat → Nat} {h h' : zHp} {c : Nat} {e : va_E} (hs : h'.1 = h.1) (ho : ∀ j kn, j ≠ c → zE G ad h' j kn = zE G ad h j kn) (hc : ∀ kn, h.1[c]? = some kn → zE G ad h' c kn = e) : (zW G ad h).set c (ad c, e) = zW G ad h' := by
  apply List.ext_getElem?
  intro j
  unfold zW
  rw [hs]
  by_cases hj : j = c
  · subst hj
    cases hk : h.1[j]? with
    | none =>
      have h1 : h.1.length ≤ j := List.getElem?_eq_none_iff.mp hk
      rw [List.getElem?_mapIdx, hk]
      apply List.getElem?_eq_none
      rw [List.length_set, List.length_mapIdx]
      exact h1
    | some kn =>
      have h1 : j < (h.1.mapIdx fun c kn => (ad c, zE G ad h c kn)).length := by rw [List.length_mapIdx]; exact (List.getElem?_eq_some_iff.mp hk).1
      rw [List.getElem?_set_self h1, List.getElem?_mapIdx, hk]
      show some (ad j, e) = some (ad j, zE G ad h' j kn)
      rw [hc kn hk]
  · rw [List.getElem?_set_ne (Ne.symm hj), List.getElem?_mapIdx, List.getElem?_mapIdx]
    cases hk : h.1[j]? with
    | none => rfl
    | some kn =>
      show some (ad j, zE G ad h j kn) = some (ad j, zE G ad h' j kn)
      rw [ho j kn hj]
/-- a number written at a place -/
def zu (f : Nat → Int → Int) (c : Nat) (i x : Int) : Nat → Int → Int := fun c' i' => if c' = c ∧ i' = i then x else f c' i'
def zur (f : Nat → Nat → Option Nat) (c k : Nat) (x : Option Nat) : Nat → Nat → Option Nat := fun c' k' => if c' = c ∧ k' = k then x else f c' k'
def zTys (G : zG) : List (ClassId × FieldType) := [(G.2.1 0, .int), (G.2.1 1, .char), (G.2.1 2, .long), (G.2.1 3, .double)]
def zNc : List (String × String) := [("java/lang/IllegalArgumentException", "java/lang/IndexOutOfBoundsException"), ("java/util/NoSuchElementException", "java/lang/IndexOutOfBoundsException"), ("java/lang/UnsupportedOperationException", "java/lang/IllegalArgumentException"), ("java/util/NoSuchElementException", "java/lang/IllegalArgumentException")]
end
section
/-! THE ENVIRONMENT, THE JUDGEMENT AND ITS RULES (printed by wip/whole/gen/sim2.py) -/
/-- the text constants: class, place, text -/
def zSK : List (String × Nat × String) := [("AbbeyLedgers", 316, "refused"), ("AbbeyLedgers", 331, "no such house"), ("AbbeyLedgers", 326, "no such version"), ("AbbeyLedgers", 336, "no such lines"), ("AbbeyLedgers", 125, "the sum is not reached"), ("AbbeyLedgers", 153, "no such number of a version"), ("AbbeyLedgers", 341, "no such span"), ("AbbeyLedgers", 162, "no such year"), ("AbbeyLedgers", 192, "no such place"), ("AbbeyLedgers", 198, "there is only the version 0"), ("AbbeyLedgers", 209, "the buffer is full"), ("AbbeyLedgers$Draft", 71, "1/2=3"), ("AbbeyLedgers$Draft", 73, "1/2:2-2"), ("AbbeyLedgers$Draft", 75, "1<1"), ("AbbeyLedgers$Draft", 77, "1*2"), ("AbbeyLedgers$Draft", 79, "2"), ("AbbeyLedgers$Draft", 81, ""), ("AbbeyLedgers", 223, "the text has a fault"), ("AbbeyLedgers", 244, "no such number of a reason"), ("AbbeyLedgers", 249, "nothing was refused"), ("AbbeyLedgers", 265, "no such index"), ("AbbeyLedgers", 296, "no such account"), ("AbbeyLedgers", 298, "there is nothing to undo"), ("AbbeyLedgers", 309, "there is no snapshot")]
def zSl : List Nat := [7, 13, 15, 13, 22, 27, 12, 12, 13, 27, 18, 5, 7, 3, 3, 1, 0, 20, 26, 19, 13, 15, 24, 20]
def zSb : List (List Int32) := [[114, 101, 102, 117, 115, 101, 100], [110, 111, 32, 115, 117, 99, 104, 32, 104, 111, 117, 115, 101], [110, 111, 32, 115, 117, 99, 104, 32, 118, 101, 114, 115, 105, 111, 110], [110, 111, 32, 115, 117, 99, 104, 32, 108, 105, 110, 101, 115], [116, 104, 101, 32, 115, 117, 109, 32, 105, 115, 32, 110, 111, 116, 32, 114, 101, 97, 99, 104, 101, 100], [110, 111, 32, 115, 117, 99, 104, 32, 110, 117, 109, 98, 101, 114, 32, 111, 102, 32, 97, 32, 118, 101, 114, 115, 105, 111, 110], [110, 111, 32, 115, 117, 99, 104, 32, 115, 112, 97, 110], [110, 111, 32, 115, 117, 99, 104, 32, 121, 101, 97, 114], [110, 111, 32, 115, 117, 99, 104, 32, 112, 108, 97, 99, 101], [116, 104, 101, 114, 101, 32, 105, 115, 32, 111, 110, 108, 121, 32, 116, 104, 101, 32, 118, 101, 114, 115, 105, 111, 110, 32, 48], [116, 104, 101, 32, 98, 117, 102, 102, 101, 114, 32, 105, 115, 32, 102, 117, 108, 108], [49, 47, 50, 61, 51], [49, 47, 50, 58, 50, 45, 50], [49, 60, 49], [49, 42, 50], [50], [], [116, 104, 101, 32, 116, 101, 120, 116, 32, 104, 97, 115, 32, 97, 32, 102, 97, 117, 108, 116], [110, 111, 32, 115, 117, 99, 104, 32, 110, 117, 109, 98, 101, 114, 32, 111, 102, 32, 97, 32, 114, 101, 97, 115, 111, 110], [110, 111, 116, 104, 105, 110, 103, 32, 119, 97, 115, 32, 114, 101, 102, 117, 115, 101, 100], [110, 111, 32, 115, 117, 99, 104, 32, 105, 110, 100, 101, 120], [110, 111, 32, 115, 117, 99, 104, 32, 97, 99, 99, 111, 117, 110, 116], [116, 104, 101, 114, 101, 32, 105, 115, 32, 110, 111, 116, 104, 105, 110, 103, 32, 116, 111, 32, 117, 110, 100, 111], [116, 104, 101, 114, 101, 32, 105, 115, 32, 110, 111, 32, 115, 110, 97, 112, 115, 104, 111, 116]]
/-- what holds of the cells that are not ours -/
def zEnv (G : zG) (A : Nat → Prop) (U : State) (H : Heap) : Prop :=
  (∀ w ∈ zNw, va_Nw w U) ∧ (∀ q ∈ zNc, va_Nc q.1 q.2 U) ∧ (∀ (i : Nat) (q : String × Nat × String), zSK[i]? = some q → vk_R q.1 q.2.1 q.2.2 (G.2.2.1 i) U) ∧
  vx_Zq Bundle.tN "UNASSIGNED_STACK" Bundle.steD A U H ∧ vx_Zq Bundle.tN "SUPPRESSED_SENTINEL" Bundle.listD A U H ∧
  vk_S 24 zSl zSb G.2.2.1 G.2.2.2.1 A U H ∧ va_Z "java/lang/String" "COMPACT_STRINGS" "Z" (.int 1) A U H ∧ va_Z "jdk/internal/util/Preconditions" "SIOOBE_FORMATTER" "Ljava/util/function/BiFunction;" (va_rf G.2.2.2.2.2.2) A U H ∧
  va_Z RX7 "LOWEST_LINE_OF_SPAN" "[I" (.ref (G.2.2.2.2.1 0)) A U H ∧ va_Z RX7 "HIGHEST_LINE_OF_SPAN" "[I" (.ref (G.2.2.2.2.1 1)) A U H ∧
  ∀ j, j < 3 → va_T .int (G.2.2.2.2.1 j) (G.2.2.2.2.2.1 j).1 (fun i => .int (Int32.ofInt ((G.2.2.2.2.2.1 j).2 (i : Int)))) A U H
theorem zNw_warm {s U : State} (hW : s.WarmedH U.vm) {w : Cond} (hw : zNwOk w = true) (h : va_Nw w s) : va_Nw w U := by
  cases w <;> first | exact va_Nw.warmF hW h | exact va_Nw.warmM hW h | exact va_Nw.warmC hW h | exact va_Nw.warmD hW h | (cases hw)
theorem zEnv.go {G : zG} {A B : Nat → Prop} {s U : State} {H : Heap} (h : zEnv G A s s.heap) (hq : ∀ a : Nat, a < s.heap.size → ¬ A a → H[a]? = s.heap[a]?) (hAB : ∀ q, B q → A q) (hU : U.heap = H) (hW : s.WarmedH U.vm) : zEnv G B U U.heap := by
  obtain ⟨h1, h2, h3, h4, h5, h6, h7, h8, h9, h10, h11⟩ := h
  have hv := hW.alike
  subst hU
  exact ⟨fun w hw => zNw_warm hW (List.mem_filter.mp hw).2 (h1 w hw), fun q hq => (h2 q hq).moved hv, fun i q hi => vk_R.warm hW (h3 i q hi),
    ((h4.moved hv).kept hq).narrow hAB, ((h5.moved hv).kept hq).narrow hAB, ((h6.moved hv).kept hq).narrow hAB, ((h7.moved hv).kept hq).narrow hAB, ((h8.moved hv).kept hq).narrow hAB, ((h9.moved hv).kept hq).narrow hAB, ((h10.moved hv).kept hq).narrow hAB,
    fun j hj => (((h11 j hj).moved hv).kept hq).narrow hAB⟩
/-- the world behind a method -/
def zWd (G : zG) (A : Nat → Prop) (ad0 : Nat → Nat) (n0 : Nat) (h : zHp) (ad : Nat → Nat) (t : State) : Prop := va_P G.1 vwCl (zW G ad h) t.heap ∧ va_D A (zW G ad h) ∧ ∀ c, c < n0 → ad c = ad0 c
def zQ (G : zG) (A : Nat → Prop) (ad0 : Nat → Nat) (n0 : Nat) (O : zO) : Array Value → State → Outcome → State → Prop := fun _ st oc t =>
  (∃ (v : Option zSV) (ad : Nat → Nat), O.1 = .inl v ∧ oc = .returned (v.map (zc G ad)) ∧ zWd G A ad0 n0 O.2.1 ad t) ∧ va_F A st t
def zX (G : zG) (A : Nat → Prop) (ad0 : Nat → Nat) (n0 : Nat) (O : zO) : String → State → State → Prop := fun E st t =>
  (∃ ad : Nat → Nat, O.1 = .inr E ∧ zWd G A ad0 n0 O.2.1 ad t) ∧ va_F A st t
def zCtx (M : zM) (p : Program) (l : Launch) (R : Room) (s : State) (m : MethodId) (args : Array Value) (meth : Method) (c : Code) : Prop :=
  p.tables.exec = Jvm.exec ∧ c.code = M.2.1 ∧ c.maxLocals = M.2.2.1 ∧ meth.sig.returnType = M.2.2.2.1 ∧ s.vm.findClass M.1.cls = some m.cls ∧ meth.locks = false ∧ (∀ w ∈ zT, w.before args s = true) ∧ c.exceptionTable.toList = tableOf M.2.2.2.2.1 ∧ l.stackTraces = false ∧ M.2.2.2.2.2.1 ≤ R.frames ∧ M.2.2.2.2.2.2 ≤ R.locals ∧ meth.name = M.1.name
/-- from the place pc of the body of M, with these locals, this stack and this heap: the outcome is O -/
def Ev (G : zG) (M : zM) (pc : Nat) (ls st : List zSV) (h : zHp) (O : zO) : Prop :=
  ∀ (p : Program) (l : Launch) (e : Env) (R : Room) (s : State) (m : MethodId) (args : Array Value) (below : List Frame) (meth : Method) (c : Code), zCtx M p l R s m args meth c → ∀ A : Nat → Prop, (∀ q, s.heap.size ≤ q → A q) → zEnv G A s s.heap → va_K G.1 vwCl (zTys G) s →
    ∀ (ad0 : Nat → Nat) (n0 : Nat) (ad : Nat → Nat) (H : Heap) (locs : List Loc) (cells slots : Nat) (la : Array Slot), (∀ c, c < n0 → ad c = ad0 c) → n0 ≤ h.1.length → va_P G.1 vwCl (zW G ad h) H → va_D A (zW G ad h) → va_S A s.heap H locs → lv_has la M.2.2.1 (zL G ad ls) → cells + O.2.2.1 ≤ R.cells → slots + O.2.2.2 ≤ R.slots →
      W p l e R s m args below meth c H locs cells slots (vx_MQ below (zQ G A ad0 n0 O) (zX G A ad0 n0 O) args s R.cells R.slots A) (F0 m pc la (st.map (zc G ad)))
theorem z_toInt {x : Int} (h : -2147483648 ≤ x ∧ x ≤ 2147483647) : (Int32.ofInt x).toInt = x := Int32.toInt_ofInt_of_le (by omega) (by omega)
theorem z_lt {x y : Int} (hx : -2147483648 ≤ x ∧ x ≤ 2147483647) (hy : -2147483648 ≤ y ∧ y ≤ 2147483647) : Int32.ofInt x < Int32.ofInt y ↔ x < y := by rw [Int32.lt_iff_toInt_lt, z_toInt hx, z_toInt hy]
theorem z_le {x y : Int} (hx : -2147483648 ≤ x ∧ x ≤ 2147483647) (hy : -2147483648 ≤ y ∧ y ≤ 2147483647) : Int32.ofInt x ≤ Int32.ofInt y ↔ x ≤ y := by rw [Int32.le_iff_toInt_le, z_toInt hx, z_toInt hy]
theorem z_eq {x y : Int} (hx : -2147483648 ≤ x ∧ x ≤ 2147483647) (hy : -2147483648 ≤ y ∧ y ≤ 2147483647) : Int32.ofInt x = Int32.ofInt y ↔ x = y := by rw [← Int32.toInt_inj, z_toInt hx, z_toInt hy]
theorem z_0 : (0 : Int32) = Int32.ofInt 0 := rfl
theorem z_r0 : -2147483648 ≤ (0 : Int) ∧ (0 : Int) ≤ 2147483647 := by decide
theorem z_clamp {x : Int} (h : 0 ≤ x ∧ x ≤ 2147483647) : (Int32.ofInt x).toNatClampNeg = x.toNat := Int32.toNatClampNeg_ofInt_of_le (by omega) (by omega)
theorem z_in {x : Int} {n : Nat} (h : 0 ≤ x ∧ x < (n : Int)) (hn : n ≤ 2147483647) : vp_in (Int32.ofInt x) n := by
  intro hz
  rcases hz with hz | hz
  · rw [z_0, z_lt ⟨by omega, by omega⟩ z_r0] at hz
    omega
  · rw [z_clamp ⟨h.1, by omega⟩] at hz
    omega
theorem z_shr0 (x : Int32) : x >>> (Int32.ofInt 0 &&& 31) = x := by
  rw [show Int32.ofInt 0 &&& 31 = (0 : Int32) from rfl]
  apply Int32.toBitVec_inj.mp
  rw [Int32.toBitVec_shiftRight]
  simp
theorem Ev.iconst {G : zG} {M : zM} {pc pc9 : Nat} {ls st : List zSV} {h : zHp} {O : zO} {n : Int}
    (hf : zf M pc = some (.iconst n, 1, pc9)) (k : Ev G M pc9 ls ((0, n) :: st) h O) : Ev G M pc ls st h O := by
  intro p l e R s m args below meth cd C A hA hE hK ad0 n0 ad H locs cells slots la ha hn hP hD hS hl hcs hss
  obtain ⟨hd, rfl⟩ := zf_ok hf
  refine lv_iconst (v := Int32.ofInt n) C.1 C.2.1 hd rfl ?_
  exact k p l e R s m args below meth cd C A hA hE hK ad0 n0 ad H locs cells slots la ha hn hP hD hS hl hcs hss
theorem Ev.bipush {G : zG} {M : zM} {pc pc9 : Nat} {ls st : List zSV} {h : zHp} {O : zO} {n : Int}
    (hf : zf M pc = some (.bipush n, 2, pc9)) (hn8 : (Int8.ofInt n).toInt32 = Int32.ofInt n) (k : Ev G M pc9 ls ((0, n) :: st) h O) : Ev G M pc ls st h O := by
  intro p l e R s m args below meth cd C A hA hE hK ad0 n0 ad H locs cells slots la ha hn hP hD hS hl hcs hss
  obtain ⟨hd, rfl⟩ := zf_ok hf
  refine lv_bipush (v := Int32.ofInt n) C.1 C.2.1 hd hn8 ?_
  exact k p l e R s m args below meth cd C A hA hE hK ad0 n0 ad H locs cells slots la ha hn hP hD hS hl hcs hss
theorem Ev.sipush {G : zG} {M : zM} {pc pc9 : Nat} {ls st : List zSV} {h : zHp} {O : zO} {n : Int}
    (hf : zf M pc = some (.sipush n, 3, pc9)) (hn8 : (Int16.ofInt n).toInt32 = Int32.ofInt n) (k : Ev G M pc9 ls ((0, n) :: st) h O) : Ev G M pc ls st h O := by
  intro p l e R s m args below meth cd C A hA hE hK ad0 n0 ad H locs cells slots la ha hn hP hD hS hl hcs hss
  obtain ⟨hd, rfl⟩ := zf_ok hf
  refine lv_sipush (v := Int32.ofInt n) C.1 C.2.1 hd hn8 ?_
  exact k p l e R s m args below meth cd C A hA hE hK ad0 n0 ad H locs cells slots la ha hn hP hD hS hl hcs hss
theorem Ev.iload {G : zG} {M : zM} {pc pc9 : Nat} {ls st : List zSV} {h : zHp} {O : zO} {i : Nat} {x : Int}
    (hf : zf M pc = some (.iload i, 2, pc9)) (hi : ls[i]? = some (0, x)) (k : Ev G M pc9 ls ((0, x) :: st) h O) : Ev G M pc ls st h O := by
  intro p l e R s m args below meth cd C A hA hE hK ad0 n0 ad H locs cells slots la ha hn hP hD hS hl hcs hss
  obtain ⟨hd, rfl⟩ := zf_ok hf
  refine lv_iload C.1 C.2.1 hd (zL_at hl hi (by simp)) ?_
  exact k p l e R s m args below meth cd C A hA hE hK ad0 n0 ad H locs cells slots la ha hn hP hD hS hl hcs hss
theorem Ev.iload_n {G : zG} {M : zM} {pc pc9 : Nat} {ls st : List zSV} {h : zHp} {O : zO} {i : Fin 4} {x : Int}
    (hf : zf M pc = some (.iload_n i, 1, pc9)) (hi : ls[i.val]? = some (0, x)) (k : Ev G M pc9 ls ((0, x) :: st) h O) : Ev G M pc ls st h O := by
  intro p l e R s m args below meth cd C A hA hE hK ad0 n0 ad H locs cells slots la ha hn hP hD hS hl hcs hss
  obtain ⟨hd, rfl⟩ := zf_ok hf
  refine lv_iload_n C.1 C.2.1 hd rfl (zL_at hl hi (by simp)) ?_
  exact k p l e R s m args below meth cd C A hA hE hK ad0 n0 ad H locs cells slots la ha hn hP hD hS hl hcs hss
theorem Ev.aload_1 {G : zG} {M : zM} {pc pc9 : Nat} {ls st : List zSV} {h : zHp} {O : zO} {i : Nat} {x : Int}
    (hf : zf M pc = some (.aload i, 2, pc9)) (hi : ls[i]? = some (1, x)) (k : Ev G M pc9 ls ((1, x) :: st) h O) : Ev G M pc ls st h O := by
  intro p l e R s m args below meth cd C A hA hE hK ad0 n0 ad H locs cells slots la ha hn hP hD hS hl hcs hss
  obtain ⟨hd, rfl⟩ := zf_ok hf
  refine lv_aload C.1 C.2.1 hd (zL_at hl hi (by simp)) ?_
  exact k p l e R s m args below meth cd C A hA hE hK ad0 n0 ad H locs cells slots la ha hn hP hD hS hl hcs hss
theorem Ev.aload_n_1 {G : zG} {M : zM} {pc pc9 : Nat} {ls st : List zSV} {h : zHp} {O : zO} {i : Fin 4} {x : Int}
    (hf : zf M pc = some (.aload_n i, 1, pc9)) (hi : ls[i.val]? = some (1, x)) (k : Ev G M pc9 ls ((1, x) :: st) h O) : Ev G M pc ls st h O := by
  intro p l e R s m args below meth cd C A hA hE hK ad0 n0 ad H locs cells slots la ha hn hP hD hS hl hcs hss
  obtain ⟨hd, rfl⟩ := zf_ok hf
  refine lv_aload_n C.1 C.2.1 hd rfl (zL_at hl hi (by simp)) ?_
  exact k p l e R s m args below meth cd C A hA hE hK ad0 n0 ad H locs cells slots la ha hn hP hD hS hl hcs hss
theorem Ev.astore_1 {G : zG} {M : zM} {pc pc9 : Nat} {ls st : List zSV} {h : zHp} {O : zO} {i : Nat} {x : Int}
    (hf : zf M pc = some (.astore i, 2, pc9)) (hm : Nat.ble (i + 1) M.2.2.1 = true) (hb : zb ls i = true) (k : Ev G M pc9 (ls.set i (1, x)) st h O) : Ev G M pc ls ((1, x) :: st) h O := by
  intro p l e R s m args below meth cd C A hA hE hK ad0 n0 ad H locs cells slots la ha hn hP hD hS hl hcs hss
  obtain ⟨hd, rfl⟩ := zf_ok hf
  refine lv_astore C.1 C.2.1 hd hl (Nat.le_of_ble_eq_true hm) rfl (fun la hl => ?_)
  exact k p l e R s m args below meth cd C A hA hE hK ad0 n0 ad H locs cells slots la ha hn hP hD hS (zL_set (w := (1, x)) hb hl) hcs hss
theorem Ev.astore_n_1 {G : zG} {M : zM} {pc pc9 : Nat} {ls st : List zSV} {h : zHp} {O : zO} {i : Fin 4} {x : Int}
    (hf : zf M pc = some (.astore_n i, 1, pc9)) (hm : Nat.ble (i.val + 1) M.2.2.1 = true) (hb : zb ls i.val = true) (k : Ev G M pc9 (ls.set i.val (1, x)) st h O) : Ev G M pc ls ((1, x) :: st) h O := by
  intro p l e R s m args below meth cd C A hA hE hK ad0 n0 ad H locs cells slots la ha hn hP hD hS hl hcs hss
  obtain ⟨hd, rfl⟩ := zf_ok hf
  refine lv_astore_n C.1 C.2.1 hd rfl hl (Nat.le_of_ble_eq_true hm) rfl (fun la hl => ?_)
  exact k p l e R s m args below meth cd C A hA hE hK ad0 n0 ad H locs cells slots la ha hn hP hD hS (zL_set (w := (1, x)) hb hl) hcs hss
theorem Ev.aload_2 {G : zG} {M : zM} {pc pc9 : Nat} {ls st : List zSV} {h : zHp} {O : zO} {i : Nat} {x : Int}
    (hf : zf M pc = some (.aload i, 2, pc9)) (hi : ls[i]? = some (2, x)) (k : Ev G M pc9 ls ((2, x) :: st) h O) : Ev G M pc ls st h O := by
  intro p l e R s m args below meth cd C A hA hE hK ad0 n0 ad H locs cells slots la ha hn hP hD hS hl hcs hss
  obtain ⟨hd, rfl⟩ := zf_ok hf
  refine lv_aload C.1 C.2.1 hd (zL_at hl hi (by simp)) ?_
  exact k p l e R s m args below meth cd C A hA hE hK ad0 n0 ad H locs cells slots la ha hn hP hD hS hl hcs hss
theorem Ev.aload_n_2 {G : zG} {M : zM} {pc pc9 : Nat} {ls st : List zSV} {h : zHp} {O : zO} {i : Fin 4} {x : Int}
    (hf : zf M pc = some (.aload_n i, 1, pc9)) (hi : ls[i.val]? = some (2, x)) (k : Ev G M pc9 ls ((2, x) :: st) h O) : Ev G M pc ls st h O := by
  intro p l e R s m args below meth cd C A hA hE hK ad0 n0 ad H locs cells slots la ha hn hP hD hS hl hcs hss
  obtain ⟨hd, rfl⟩ := zf_ok hf
  refine lv_aload_n C.1 C.2.1 hd rfl (zL_at hl hi (by simp)) ?_
  exact k p l e R s m args below meth cd C A hA hE hK ad0 n0 ad H locs cells slots la ha hn hP hD hS hl hcs hss
theorem Ev.astore_2 {G : zG} {M : zM} {pc pc9 : Nat} {ls st : List zSV} {h : zHp} {O : zO} {i : Nat} {x : Int}
    (hf : zf M pc = some (.astore i, 2, pc9)) (hm : Nat.ble (i + 1) M.2.2.1 = true) (hb : zb ls i = true) (k : Ev G M pc9 (ls.set i (2, x)) st h O) : Ev G M pc ls ((2, x) :: st) h O := by
  intro p l e R s m args below meth cd C A hA hE hK ad0 n0 ad H locs cells slots la ha hn hP hD hS hl hcs hss
  obtain ⟨hd, rfl⟩ := zf_ok hf
  refine lv_astore C.1 C.2.1 hd hl (Nat.le_of_ble_eq_true hm) rfl (fun la hl => ?_)
  exact k p l e R s m args below meth cd C A hA hE hK ad0 n0 ad H locs cells slots la ha hn hP hD hS (zL_set (w := (2, x)) hb hl) hcs hss
theorem Ev.astore_n_2 {G : zG} {M : zM} {pc pc9 : Nat} {ls st : List zSV} {h : zHp} {O : zO} {i : Fin 4} {x : Int}
    (hf : zf M pc = some (.astore_n i, 1, pc9)) (hm : Nat.ble (i.val + 1) M.2.2.1 = true) (hb : zb ls i.val = true) (k : Ev G M pc9 (ls.set i.val (2, x)) st h O) : Ev G M pc ls ((2, x) :: st) h O := by
  intro p l e R s m args below meth cd C A hA hE hK ad0 n0 ad H locs cells slots la ha hn hP hD hS hl hcs hss
  obtain ⟨hd, rfl⟩ := zf_ok hf
  refine lv_astore_n C.1 C.2.1 hd rfl hl (Nat.le_of_ble_eq_true hm) rfl (fun la hl => ?_)
  exact k p l e R s m args below meth cd C A hA hE hK ad0 n0 ad H locs cells slots la ha hn hP hD hS (zL_set (w := (2, x)) hb hl) hcs hss
theorem Ev.aload_3 {G : zG} {M : zM} {pc pc9 : Nat} {ls st : List zSV} {h : zHp} {O : zO} {i : Nat} {x : Int}
    (hf : zf M pc = some (.aload i, 2, pc9)) (hi : ls[i]? = some (3, x)) (k : Ev G M pc9 ls ((3, x) :: st) h O) : Ev G M pc ls st h O := by
  intro p l e R s m args below meth cd C A hA hE hK ad0 n0 ad H locs cells slots la ha hn hP hD hS hl hcs hss
  obtain ⟨hd, rfl⟩ := zf_ok hf
  refine lv_aload C.1 C.2.1 hd (zL_at hl hi (by simp)) ?_
  exact k p l e R s m args below meth cd C A hA hE hK ad0 n0 ad H locs cells slots la ha hn hP hD hS hl hcs hss
theorem Ev.aload_n_3 {G : zG} {M : zM} {pc pc9 : Nat} {ls st : List zSV} {h : zHp} {O : zO} {i : Fin 4} {x : Int}
    (hf : zf M pc = some (.aload_n i, 1, pc9)) (hi : ls[i.val]? = some (3, x)) (k : Ev G M pc9 ls ((3, x) :: st) h O) : Ev G M pc ls st h O := by
  intro p l e R s m args below meth cd C A hA hE hK ad0 n0 ad H locs cells slots la ha hn hP hD hS hl hcs hss
  obtain ⟨hd, rfl⟩ := zf_ok hf
  refine lv_aload_n C.1 C.2.1 hd rfl (zL_at hl hi (by simp)) ?_
  exact k p l e R s m args below meth cd C A hA hE hK ad0 n0 ad H locs cells slots la ha hn hP hD hS hl hcs hss
theorem Ev.astore_3 {G : zG} {M : zM} {pc pc9 : Nat} {ls st : List zSV} {h : zHp} {O : zO} {i : Nat} {x : Int}
    (hf : zf M pc = some (.astore i, 2, pc9)) (hm : Nat.ble (i + 1) M.2.2.1 = true) (hb : zb ls i = true) (k : Ev G M pc9 (ls.set i (3, x)) st h O) : Ev G M pc ls ((3, x) :: st) h O := by
  intro p l e R s m args below meth cd C A hA hE hK ad0 n0 ad H locs cells slots la ha hn hP hD hS hl hcs hss
  obtain ⟨hd, rfl⟩ := zf_ok hf
  refine lv_astore C.1 C.2.1 hd hl (Nat.le_of_ble_eq_true hm) rfl (fun la hl => ?_)
  exact k p l e R s m args below meth cd C A hA hE hK ad0 n0 ad H locs cells slots la ha hn hP hD hS (zL_set (w := (3, x)) hb hl) hcs hss
theorem Ev.astore_n_3 {G : zG} {M : zM} {pc pc9 : Nat} {ls st : List zSV} {h : zHp} {O : zO} {i : Fin 4} {x : Int}
    (hf : zf M pc = some (.astore_n i, 1, pc9)) (hm : Nat.ble (i.val + 1) M.2.2.1 = true) (hb : zb ls i.val = true) (k : Ev G M pc9 (ls.set i.val (3, x)) st h O) : Ev G M pc ls ((3, x) :: st) h O := by
  intro p l e R s m args below meth cd C A hA hE hK ad0 n0 ad H locs cells slots la ha hn hP hD hS hl hcs hss
  obtain ⟨hd, rfl⟩ := zf_ok hf
  refine lv_astore_n C.1 C.2.1 hd rfl hl (Nat.le_of_ble_eq_true hm) rfl (fun la hl => ?_)
  exact k p l e R s m args below meth cd C A hA hE hK ad0 n0 ad H locs cells slots la ha hn hP hD hS (zL_set (w := (3, x)) hb hl) hcs hss
theorem Ev.aload_7 {G : zG} {M : zM} {pc pc9 : Nat} {ls st : List zSV} {h : zHp} {O : zO} {i : Nat} {x : Int}
    (hf : zf M pc = some (.aload i, 2, pc9)) (hi : ls[i]? = some (7, x)) (k : Ev G M pc9 ls ((7, x) :: st) h O) : Ev G M pc ls st h O := by
  intro p l e R s m args below meth cd C A hA hE hK ad0 n0 ad H locs cells slots la ha hn hP hD hS hl hcs hss
  obtain ⟨hd, rfl⟩ := zf_ok hf
  refine lv_aload C.1 C.2.1 hd (zL_at hl hi (by simp)) ?_
  exact k p l e R s m args below meth cd C A hA hE hK ad0 n0 ad H locs cells slots la ha hn hP hD hS hl hcs hss
theorem Ev.aload_n_7 {G : zG} {M : zM} {pc pc9 : Nat} {ls st : List zSV} {h : zHp} {O : zO} {i : Fin 4} {x : Int}
    (hf : zf M pc = some (.aload_n i, 1, pc9)) (hi : ls[i.val]? = some (7, x)) (k : Ev G M pc9 ls ((7, x) :: st) h O) : Ev G M pc ls st h O := by
  intro p l e R s m args below meth cd C A hA hE hK ad0 n0 ad H locs cells slots la ha hn hP hD hS hl hcs hss
  obtain ⟨hd, rfl⟩ := zf_ok hf
  refine lv_aload_n C.1 C.2.1 hd rfl (zL_at hl hi (by simp)) ?_
  exact k p l e R s m args below meth cd C A hA hE hK ad0 n0 ad H locs cells slots la ha hn hP hD hS hl hcs hss
theorem Ev.astore_7 {G : zG} {M : zM} {pc pc9 : Nat} {ls st : List zSV} {h : zHp} {O : zO} {i : Nat} {x : Int}
    (hf : zf M pc = some (.astore i, 2, pc9)) (hm : Nat.ble (i + 1) M.2.2.1 = true) (hb : zb ls i = true) (k : Ev G M pc9 (ls.set i (7, x)) st h O) : Ev G M pc ls ((7, x) :: st) h O := by
  intro p l e R s m args below meth cd C A hA hE hK ad0 n0 ad H locs cells slots la ha hn hP hD hS hl hcs hss
  obtain ⟨hd, rfl⟩ := zf_ok hf
  refine lv_astore C.1 C.2.1 hd hl (Nat.le_of_ble_eq_true hm) rfl (fun la hl => ?_)
  exact k p l e R s m args below meth cd C A hA hE hK ad0 n0 ad H locs cells slots la ha hn hP hD hS (zL_set (w := (7, x)) hb hl) hcs hss
theorem Ev.astore_n_7 {G : zG} {M : zM} {pc pc9 : Nat} {ls st : List zSV} {h : zHp} {O : zO} {i : Fin 4} {x : Int}
    (hf : zf M pc = some (.astore_n i, 1, pc9)) (hm : Nat.ble (i.val + 1) M.2.2.1 = true) (hb : zb ls i.val = true) (k : Ev G M pc9 (ls.set i.val (7, x)) st h O) : Ev G M pc ls ((7, x) :: st) h O := by
  intro p l e R s m args below meth cd C A hA hE hK ad0 n0 ad H locs cells slots la ha hn hP hD hS hl hcs hss
  obtain ⟨hd, rfl⟩ := zf_ok hf
  refine lv_astore_n C.1 C.2.1 hd rfl hl (Nat.le_of_ble_eq_true hm) rfl (fun la hl => ?_)
  exact k p l e R s m args below meth cd C A hA hE hK ad0 n0 ad H locs cells slots la ha hn hP hD hS (zL_set (w := (7, x)) hb hl) hcs hss
theorem Ev.dload {G : zG} {M : zM} {pc pc9 : Nat} {ls st : List zSV} {h : zHp} {O : zO} {i : Nat} {x : Int}
    (hf : zf M pc = some (.dload i, 2, pc9)) (hi : ls[i]? = some (5, x)) (k : Ev G M pc9 ls ((5, x) :: st) h O) : Ev G M pc ls st h O := by
  intro p l e R s m args below meth cd C A hA hE hK ad0 n0 ad H locs cells slots la ha hn hP hD hS hl hcs hss
  obtain ⟨hd, rfl⟩ := zf_ok hf
  refine lv_dload C.1 C.2.1 hd (zL_at hl hi (by simp)) ?_
  exact k p l e R s m args below meth cd C A hA hE hK ad0 n0 ad H locs cells slots la ha hn hP hD hS hl hcs hss
theorem Ev.istore {G : zG} {M : zM} {pc pc9 : Nat} {ls st : List zSV} {h : zHp} {O : zO} {i : Nat} {x : Int}
    (hf : zf M pc = some (.istore i, 2, pc9)) (hm : Nat.ble (i + 1) M.2.2.1 = true) (hb : zb ls i = true) (k : Ev G M pc9 (ls.set i (0, x)) st h O) : Ev G M pc ls ((0, x) :: st) h O := by
  intro p l e R s m args below meth cd C A hA hE hK ad0 n0 ad H locs cells slots la ha hn hP hD hS hl hcs hss
  obtain ⟨hd, rfl⟩ := zf_ok hf
  refine lv_istore C.1 C.2.1 hd hl (Nat.le_of_ble_eq_true hm) rfl (fun la hl => ?_)
  exact k p l e R s m args below meth cd C A hA hE hK ad0 n0 ad H locs cells slots la ha hn hP hD hS (zL_set (w := (0, x)) hb hl) hcs hss
theorem Ev.istore_n {G : zG} {M : zM} {pc pc9 : Nat} {ls st : List zSV} {h : zHp} {O : zO} {i : Fin 4} {x : Int}
    (hf : zf M pc = some (.istore_n i, 1, pc9)) (hm : Nat.ble (i.val + 1) M.2.2.1 = true) (hb : zb ls i.val = true) (k : Ev G M pc9 (ls.set i.val (0, x)) st h O) : Ev G M pc ls ((0, x) :: st) h O := by
  intro p l e R s m args below meth cd C A hA hE hK ad0 n0 ad H locs cells slots la ha hn hP hD hS hl hcs hss
  obtain ⟨hd, rfl⟩ := zf_ok hf
  refine lv_istore_n C.1 C.2.1 hd rfl hl (Nat.le_of_ble_eq_true hm) rfl (fun la hl => ?_)
  exact k p l e R s m args below meth cd C A hA hE hK ad0 n0 ad H locs cells slots la ha hn hP hD hS (zL_set (w := (0, x)) hb hl) hcs hss
theorem Ev.dstore {G : zG} {M : zM} {pc pc9 : Nat} {ls st : List zSV} {h : zHp} {O : zO} {i : Nat} {x : Int}
    (hf : zf M pc = some (.dstore i, 2, pc9)) (hm : Nat.ble (i + 2) M.2.2.1 = true) (hb : zb ls i = true) (k : Ev G M pc9 ((ls.set i (5, x)).set (i + 1) (9, 0)) st h O) : Ev G M pc ls ((5, x) :: st) h O := by
  intro p l e R s m args below meth cd C A hA hE hK ad0 n0 ad H locs cells slots la ha hn hP hD hS hl hcs hss
  obtain ⟨hd, rfl⟩ := zf_ok hf
  refine lv_dstore C.1 C.2.1 hd hl (Nat.le_of_ble_eq_true hm) rfl (fun la hl => ?_)
  refine k p l e R s m args below meth cd C A hA hE hK ad0 n0 ad H locs cells slots la ha hn hP hD hS ?_ hcs hss
  refine lv_less hl fun q hq => ?_
  obtain ⟨w', h1, h2, h3⟩ := zL_mem.mp hq
  by_cases hqj : q.1 = i + 1
  · have hlt : i + 1 < ls.length := by
      have := (List.getElem?_eq_some_iff.mp h1).1
      rw [List.length_set, List.length_set] at this
      omega
    rw [hqj, List.getElem?_set_self (by rw [List.length_set]; exact hlt)] at h1
    cases h1
    exact absurd rfl h2
  · rw [List.getElem?_set_ne (Ne.symm hqj)] at h1
    by_cases hqi : q.1 = i
    · have hlt : i < ls.length := by
        have := (List.getElem?_eq_some_iff.mp h1).1
        rw [List.length_set] at this
        omega
      rw [hqi, List.getElem?_set_self hlt] at h1
      cases h1
      refine List.mem_cons.mpr (Or.inl ?_)
      rw [← hqi, show Value.double (UInt64.ofNat x.toNat) = zc G ad (5, x) from rfl, ← h3]
    · rw [List.getElem?_set_ne (Ne.symm hqi)] at h1
      refine List.mem_cons.mpr (Or.inr (List.mem_filter.mpr ⟨zL_mem.mpr ⟨w', h1, h2, h3⟩, ?_⟩))
      have h5 : q.1 + 1 = i → ¬ q.2.category = 2 := fun e => by rw [h3]; exact zb_ok hb h1 e
      by_cases e9 : q.1 + 1 = i
      · simp [hqi, hqj, h5 e9]
      · simp [hqi, hqj, e9]
theorem Ev.iinc {G : zG} {M : zM} {pc pc9 : Nat} {ls st : List zSV} {h : zHp} {O : zO} {i : Nat} {x n : Int}
    (hf : zf M pc = some (.iinc i n, 3, pc9)) (hi : ls[i]? = some (0, x)) (hm : Nat.ble (i + 1) M.2.2.1 = true) (hb : zb ls i = true) (k : Ev G M pc9 (ls.set i (0, x + n)) st h O) : Ev G M pc ls st h O := by
  intro p l e R s m args below meth cd C A hA hE hK ad0 n0 ad H locs cells slots la ha hn hP hD hS hl hcs hss
  obtain ⟨hd, rfl⟩ := zf_ok hf
  obtain ⟨j, hj⟩ := List.getElem?_of_mem (zL_mem (G := G) (ad := ad) (q := (i, zc G ad (0, x))) |>.mpr ⟨(0, x), hi, by simp, rfl⟩)
  refine lv_iinc (k := j) (x := Int32.ofInt x) (v := Int32.ofInt (x + n)) C.1 C.2.1 hd hl hj (Int32.ofInt_add x n).symm (Nat.le_of_ble_eq_true hm) rfl (fun la hl => ?_)
  exact k p l e R s m args below meth cd C A hA hE hK ad0 n0 ad H locs cells slots la ha hn hP hD hS (zL_set (w := (0, x + n)) hb hl) hcs hss
theorem Ev.iadd {G : zG} {M : zM} {pc pc9 : Nat} {ls st : List zSV} {h : zHp} {O : zO} {x y : Int}
    (hf : zf M pc = some (.iadd, 1, pc9)) (k : Ev G M pc9 ls ((0, x + y) :: st) h O) : Ev G M pc ls ((0, y) :: (0, x) :: st) h O := by
  intro p l e R s m args below meth cd C A hA hE hK ad0 n0 ad H locs cells slots la ha hn hP hD hS hl hcs hss
  obtain ⟨hd, rfl⟩ := zf_ok hf
  refine lv_iadd (x := Int32.ofInt x) (y := Int32.ofInt y) C.1 C.2.1 hd ?_
  rw [← Int32.ofInt_add]
  exact k p l e R s m args below meth cd C A hA hE hK ad0 n0 ad H locs cells slots la ha hn hP hD hS hl hcs hss
theorem Ev.isub {G : zG} {M : zM} {pc pc9 : Nat} {ls st : List zSV} {h : zHp} {O : zO} {x y : Int}
    (hf : zf M pc = some (.isub, 1, pc9)) (k : Ev G M pc9 ls ((0, x - y) :: st) h O) : Ev G M pc ls ((0, y) :: (0, x) :: st) h O := by
  intro p l e R s m args below meth cd C A hA hE hK ad0 n0 ad H locs cells slots la ha hn hP hD hS hl hcs hss
  obtain ⟨hd, rfl⟩ := zf_ok hf
  refine lv_isub (x := Int32.ofInt x) (y := Int32.ofInt y) C.1 C.2.1 hd ?_
  rw [← Int32.ofInt_sub]
  exact k p l e R s m args below meth cd C A hA hE hK ad0 n0 ad H locs cells slots la ha hn hP hD hS hl hcs hss
theorem Ev.imul {G : zG} {M : zM} {pc pc9 : Nat} {ls st : List zSV} {h : zHp} {O : zO} {x y : Int}
    (hf : zf M pc = some (.imul, 1, pc9)) (k : Ev G M pc9 ls ((0, x * y) :: st) h O) : Ev G M pc ls ((0, y) :: (0, x) :: st) h O := by
  intro p l e R s m args below meth cd C A hA hE hK ad0 n0 ad H locs cells slots la ha hn hP hD hS hl hcs hss
  obtain ⟨hd, rfl⟩ := zf_ok hf
  refine lv_imul (x := Int32.ofInt x) (y := Int32.ofInt y) C.1 C.2.1 hd ?_
  rw [← Int32.ofInt_mul]
  exact k p l e R s m args below meth cd C A hA hE hK ad0 n0 ad H locs cells slots la ha hn hP hD hS hl hcs hss
theorem z_div {x y : Int} (hx : 0 ≤ x ∧ x ≤ 2147483647) (hy : 0 < y ∧ y ≤ 2147483647) : Int32.ofInt x / Int32.ofInt y = Int32.ofInt (x / y) := by
  have hmn : Int32.minValue.toInt = -2147483648 := rfl
  have hmx : Int32.maxValue.toInt = 2147483647 := rfl
  rw [← Int32.ofInt_tdiv (a := x) (b := y) (by omega) (by omega) (by omega) (by omega), show x.tdiv y = x / y from Int.tdiv_eq_ediv_of_nonneg hx.1]
theorem z_ne0 {y : Int} (hy : 0 < y ∧ y ≤ 2147483647) : ¬ Int32.ofInt y = 0 := by
  rw [z_0, z_eq ⟨by omega, by omega⟩ z_r0]
  omega
theorem z_rem {x y : Int} (hx : 0 ≤ x ∧ x ≤ 2147483647) (hy : 0 < y ∧ y ≤ 2147483647) : Int32.ofInt x - Int32.ofInt x / Int32.ofInt y * Int32.ofInt y = Int32.ofInt (x % y) := by
  rw [z_div hx hy, ← Int32.ofInt_mul, ← Int32.ofInt_sub, Int.emod_def, Int.mul_comm y]
theorem Ev.idiv {G : zG} {M : zM} {pc pc9 : Nat} {ls st : List zSV} {h : zHp} {O : zO} {x y : Int}
    (hf : zf M pc = some (.idiv, 1, pc9)) (hx : 0 ≤ x ∧ x ≤ 2147483647) (hy : 0 < y ∧ y ≤ 2147483647) (k : Ev G M pc9 ls ((0, x / y) :: st) h O) : Ev G M pc ls ((0, y) :: (0, x) :: st) h O := by
  intro p l e R s m args below meth cd C A hA hE hK ad0 n0 ad H locs cells slots la ha hn hP hD hS hl hcs hss
  obtain ⟨hd, rfl⟩ := zf_ok hf
  refine lv_idiv (x := Int32.ofInt x) (y := Int32.ofInt y) C.1 C.2.1 hd (z_ne0 hy) ?_
  rw [z_div hx hy]
  exact k p l e R s m args below meth cd C A hA hE hK ad0 n0 ad H locs cells slots la ha hn hP hD hS hl hcs hss
theorem Ev.irem {G : zG} {M : zM} {pc pc9 : Nat} {ls st : List zSV} {h : zHp} {O : zO} {x y : Int}
    (hf : zf M pc = some (.irem, 1, pc9)) (hx : 0 ≤ x ∧ x ≤ 2147483647) (hy : 0 < y ∧ y ≤ 2147483647) (k : Ev G M pc9 ls ((0, x % y) :: st) h O) : Ev G M pc ls ((0, y) :: (0, x) :: st) h O := by
  intro p l e R s m args below meth cd C A hA hE hK ad0 n0 ad H locs cells slots la ha hn hP hD hS hl hcs hss
  obtain ⟨hd, rfl⟩ := zf_ok hf
  refine lv_irem (x := Int32.ofInt x) (y := Int32.ofInt y) C.1 C.2.1 hd (z_ne0 hy) ?_
  rw [z_rem hx hy]
  exact k p l e R s m args below meth cd C A hA hE hK ad0 n0 ad H locs cells slots la ha hn hP hD hS hl hcs hss
theorem Ev.icmp_eq {G : zG} {M : zM} {pc pc9 : Nat} {ls st : List zSV} {h : zHp} {O : zO} {off x y : Int} {tgt : Nat}
    (hf : zf M pc = some (.if_icmp .eq off, 3, pc9)) (ht : (pc : Int) + off = (tgt : Int)) (hx : -2147483648 ≤ x ∧ x ≤ 2147483647) (hy : -2147483648 ≤ y ∧ y ≤ 2147483647) (kt : x = y → Ev G M tgt ls st h O) (kf : ¬ x = y → Ev G M pc9 ls st h O) : Ev G M pc ls ((0, y) :: (0, x) :: st) h O := by
  intro p l e R s m args below meth cd C A hA hE hK ad0 n0 ad H locs cells slots la ha hn hP hD hS hl hcs hss
  obtain ⟨hd, rfl⟩ := zf_ok hf
  refine lv_icmp_eq (x := Int32.ofInt x) (y := Int32.ofInt y) C.1 C.2.1 hd ht (fun z => ?_) (fun z => ?_)
  · exact (kt ((z_eq hx hy).mp z)) p l e R s m args below meth cd C A hA hE hK ad0 n0 ad H locs cells slots la ha hn hP hD hS hl hcs hss
  · exact (kf (fun q => z ((z_eq hx hy).mpr q))) p l e R s m args below meth cd C A hA hE hK ad0 n0 ad H locs cells slots la ha hn hP hD hS hl hcs hss
theorem Ev.icmp_ne {G : zG} {M : zM} {pc pc9 : Nat} {ls st : List zSV} {h : zHp} {O : zO} {off x y : Int} {tgt : Nat}
    (hf : zf M pc = some (.if_icmp .ne off, 3, pc9)) (ht : (pc : Int) + off = (tgt : Int)) (hx : -2147483648 ≤ x ∧ x ≤ 2147483647) (hy : -2147483648 ≤ y ∧ y ≤ 2147483647) (kt : ¬ x = y → Ev G M tgt ls st h O) (kf : x = y → Ev G M pc9 ls st h O) : Ev G M pc ls ((0, y) :: (0, x) :: st) h O := by
  intro p l e R s m args below meth cd C A hA hE hK ad0 n0 ad H locs cells slots la ha hn hP hD hS hl hcs hss
  obtain ⟨hd, rfl⟩ := zf_ok hf
  refine lv_icmp_ne (x := Int32.ofInt x) (y := Int32.ofInt y) C.1 C.2.1 hd ht (fun z => ?_) (fun z => ?_)
  · exact (kt (fun q => z ((z_eq hx hy).mpr q))) p l e R s m args below meth cd C A hA hE hK ad0 n0 ad H locs cells slots la ha hn hP hD hS hl hcs hss
  · exact (kf ((z_eq hx hy).mp z)) p l e R s m args below meth cd C A hA hE hK ad0 n0 ad H locs cells slots la ha hn hP hD hS hl hcs hss
theorem Ev.icmp_lt {G : zG} {M : zM} {pc pc9 : Nat} {ls st : List zSV} {h : zHp} {O : zO} {off x y : Int} {tgt : Nat}
    (hf : zf M pc = some (.if_icmp .lt off, 3, pc9)) (ht : (pc : Int) + off = (tgt : Int)) (hx : -2147483648 ≤ x ∧ x ≤ 2147483647) (hy : -2147483648 ≤ y ∧ y ≤ 2147483647) (kt : x < y → Ev G M tgt ls st h O) (kf : ¬ x < y → Ev G M pc9 ls st h O) : Ev G M pc ls ((0, y) :: (0, x) :: st) h O := by
  intro p l e R s m args below meth cd C A hA hE hK ad0 n0 ad H locs cells slots la ha hn hP hD hS hl hcs hss
  obtain ⟨hd, rfl⟩ := zf_ok hf
  refine lv_icmp_lt (x := Int32.ofInt x) (y := Int32.ofInt y) C.1 C.2.1 hd ht (fun z => ?_) (fun z => ?_)
  · exact (kt ((z_lt hx hy).mp z)) p l e R s m args below meth cd C A hA hE hK ad0 n0 ad H locs cells slots la ha hn hP hD hS hl hcs hss
  · exact (kf (fun q => z ((z_lt hx hy).mpr q))) p l e R s m args below meth cd C A hA hE hK ad0 n0 ad H locs cells slots la ha hn hP hD hS hl hcs hss
theorem Ev.icmp_ge {G : zG} {M : zM} {pc pc9 : Nat} {ls st : List zSV} {h : zHp} {O : zO} {off x y : Int} {tgt : Nat}
    (hf : zf M pc = some (.if_icmp .ge off, 3, pc9)) (ht : (pc : Int) + off = (tgt : Int)) (hx : -2147483648 ≤ x ∧ x ≤ 2147483647) (hy : -2147483648 ≤ y ∧ y ≤ 2147483647) (kt : y ≤ x → Ev G M tgt ls st h O) (kf : ¬ y ≤ x → Ev G M pc9 ls st h O) : Ev G M pc ls ((0, y) :: (0, x) :: st) h O := by
  intro p l e R s m args below meth cd C A hA hE hK ad0 n0 ad H locs cells slots la ha hn hP hD hS hl hcs hss
  obtain ⟨hd, rfl⟩ := zf_ok hf
  refine lv_icmp_ge (x := Int32.ofInt x) (y := Int32.ofInt y) C.1 C.2.1 hd ht (fun z => ?_) (fun z => ?_)
  · exact (kt ((z_le hy hx).mp z)) p l e R s m args below meth cd C A hA hE hK ad0 n0 ad H locs cells slots la ha hn hP hD hS hl hcs hss
  · exact (kf (fun q => z ((z_le hy hx).mpr q))) p l e R s m args below meth cd C A hA hE hK ad0 n0 ad H locs cells slots la ha hn hP hD hS hl hcs hss
theorem Ev.icmp_gt {G : zG} {M : zM} {pc pc9 : Nat} {ls st : List zSV} {h : zHp} {O : zO} {off x y : Int} {tgt : Nat}
    (hf : zf M pc = some (.if_icmp .gt off, 3, pc9)) (ht : (pc : Int) + off = (tgt : Int)) (hx : -2147483648 ≤ x ∧ x ≤ 2147483647) (hy : -2147483648 ≤ y ∧ y ≤ 2147483647) (kt : y < x → Ev G M tgt ls st h O) (kf : ¬ y < x → Ev G M pc9 ls st h O) : Ev G M pc ls ((0, y) :: (0, x) :: st) h O := by
  intro p l e R s m args below meth cd C A hA hE hK ad0 n0 ad H locs cells slots la ha hn hP hD hS hl hcs hss
  obtain ⟨hd, rfl⟩ := zf_ok hf
  refine lv_icmp_gt (x := Int32.ofInt x) (y := Int32.ofInt y) C.1 C.2.1 hd ht (fun z => ?_) (fun z => ?_)
  · exact (kt ((z_lt hy hx).mp z)) p l e R s m args below meth cd C A hA hE hK ad0 n0 ad H locs cells slots la ha hn hP hD hS hl hcs hss
  · exact (kf (fun q => z ((z_lt hy hx).mpr q))) p l e R s m args below meth cd C A hA hE hK ad0 n0 ad H locs cells slots la ha hn hP hD hS hl hcs hss
theorem Ev.icmp_le {G : zG} {M : zM} {pc pc9 : Nat} {ls st : List zSV} {h : zHp} {O : zO} {off x y : Int} {tgt : Nat}
    (hf : zf M pc = some (.if_icmp .le off, 3, pc9)) (ht : (pc : Int) + off = (tgt : Int)) (hx : -2147483648 ≤ x ∧ x ≤ 2147483647) (hy : -2147483648 ≤ y ∧ y ≤ 2147483647) (kt : x ≤ y → Ev G M tgt ls st h O) (kf : ¬ x ≤ y → Ev G M pc9 ls st h O) : Ev G M pc ls ((0, y) :: (0, x) :: st) h O := by
  intro p l e R s m args below meth cd C A hA hE hK ad0 n0 ad H locs cells slots la ha hn hP hD hS hl hcs hss
  obtain ⟨hd, rfl⟩ := zf_ok hf
  refine lv_icmp_le (x := Int32.ofInt x) (y := Int32.ofInt y) C.1 C.2.1 hd ht (fun z => ?_) (fun z => ?_)
  · exact (kt ((z_le hx hy).mp z)) p l e R s m args below meth cd C A hA hE hK ad0 n0 ad H locs cells slots la ha hn hP hD hS hl hcs hss
  · exact (kf (fun q => z ((z_le hx hy).mpr q))) p l e R s m args below meth cd C A hA hE hK ad0 n0 ad H locs cells slots la ha hn hP hD hS hl hcs hss
theorem Ev.if_eq {G : zG} {M : zM} {pc pc9 : Nat} {ls st : List zSV} {h : zHp} {O : zO} {off x : Int} {tgt : Nat}
    (hf : zf M pc = some (.ifCond .eq off, 3, pc9)) (ht : (pc : Int) + off = (tgt : Int)) (hx : -2147483648 ≤ x ∧ x ≤ 2147483647) (kt : x = 0 → Ev G M tgt ls st h O) (kf : ¬ x = 0 → Ev G M pc9 ls st h O) : Ev G M pc ls ((0, x) :: st) h O := by
  intro p l e R s m args below meth cd C A hA hE hK ad0 n0 ad H locs cells slots la ha hn hP hD hS hl hcs hss
  obtain ⟨hd, rfl⟩ := zf_ok hf
  refine lv_if_eq (x := Int32.ofInt x) C.1 C.2.1 hd ht (fun z => ?_) (fun z => ?_)
  · exact (kt ((z_eq hx z_r0).mp z)) p l e R s m args below meth cd C A hA hE hK ad0 n0 ad H locs cells slots la ha hn hP hD hS hl hcs hss
  · exact (kf (fun q => z ((z_eq hx z_r0).mpr q))) p l e R s m args below meth cd C A hA hE hK ad0 n0 ad H locs cells slots la ha hn hP hD hS hl hcs hss
theorem Ev.if_ne {G : zG} {M : zM} {pc pc9 : Nat} {ls st : List zSV} {h : zHp} {O : zO} {off x : Int} {tgt : Nat}
    (hf : zf M pc = some (.ifCond .ne off, 3, pc9)) (ht : (pc : Int) + off = (tgt : Int)) (hx : -2147483648 ≤ x ∧ x ≤ 2147483647) (kt : ¬ x = 0 → Ev G M tgt ls st h O) (kf : x = 0 → Ev G M pc9 ls st h O) : Ev G M pc ls ((0, x) :: st) h O := by
  intro p l e R s m args below meth cd C A hA hE hK ad0 n0 ad H locs cells slots la ha hn hP hD hS hl hcs hss
  obtain ⟨hd, rfl⟩ := zf_ok hf
  refine lv_if_ne (x := Int32.ofInt x) C.1 C.2.1 hd ht (fun z => ?_) (fun z => ?_)
  · exact (kt (fun q => z ((z_eq hx z_r0).mpr q))) p l e R s m args below meth cd C A hA hE hK ad0 n0 ad H locs cells slots la ha hn hP hD hS hl hcs hss
  · exact (kf ((z_eq hx z_r0).mp z)) p l e R s m args below meth cd C A hA hE hK ad0 n0 ad H locs cells slots la ha hn hP hD hS hl hcs hss
theorem Ev.if_lt {G : zG} {M : zM} {pc pc9 : Nat} {ls st : List zSV} {h : zHp} {O : zO} {off x : Int} {tgt : Nat}
    (hf : zf M pc = some (.ifCond .lt off, 3, pc9)) (ht : (pc : Int) + off = (tgt : Int)) (hx : -2147483648 ≤ x ∧ x ≤ 2147483647) (kt : x < 0 → Ev G M tgt ls st h O) (kf : ¬ x < 0 → Ev G M pc9 ls st h O) : Ev G M pc ls ((0, x) :: st) h O := by
  intro p l e R s m args below meth cd C A hA hE hK ad0 n0 ad H locs cells slots la ha hn hP hD hS hl hcs hss
  obtain ⟨hd, rfl⟩ := zf_ok hf
  refine lv_if_lt (x := Int32.ofInt x) C.1 C.2.1 hd ht (fun z => ?_) (fun z => ?_)
  · exact (kt ((z_lt hx z_r0).mp z)) p l e R s m args below meth cd C A hA hE hK ad0 n0 ad H locs cells slots la ha hn hP hD hS hl hcs hss
  · exact (kf (fun q => z ((z_lt hx z_r0).mpr q))) p l e R s m args below meth cd C A hA hE hK ad0 n0 ad H locs cells slots la ha hn hP hD hS hl hcs hss
theorem Ev.if_ge {G : zG} {M : zM} {pc pc9 : Nat} {ls st : List zSV} {h : zHp} {O : zO} {off x : Int} {tgt : Nat}
    (hf : zf M pc = some (.ifCond .ge off, 3, pc9)) (ht : (pc : Int) + off = (tgt : Int)) (hx : -2147483648 ≤ x ∧ x ≤ 2147483647) (kt : 0 ≤ x → Ev G M tgt ls st h O) (kf : ¬ 0 ≤ x → Ev G M pc9 ls st h O) : Ev G M pc ls ((0, x) :: st) h O := by
  intro p l e R s m args below meth cd C A hA hE hK ad0 n0 ad H locs cells slots la ha hn hP hD hS hl hcs hss
  obtain ⟨hd, rfl⟩ := zf_ok hf
  refine lv_if_ge (x := Int32.ofInt x) C.1 C.2.1 hd ht (fun z => ?_) (fun z => ?_)
  · exact (kt ((z_le z_r0 hx).mp z)) p l e R s m args below meth cd C A hA hE hK ad0 n0 ad H locs cells slots la ha hn hP hD hS hl hcs hss
  · exact (kf (fun q => z ((z_le z_r0 hx).mpr q))) p l e R s m args below meth cd C A hA hE hK ad0 n0 ad H locs cells slots la ha hn hP hD hS hl hcs hss
theorem Ev.if_gt {G : zG} {M : zM} {pc pc9 : Nat} {ls st : List zSV} {h : zHp} {O : zO} {off x : Int} {tgt : Nat}
    (hf : zf M pc = some (.ifCond .gt off, 3, pc9)) (ht : (pc : Int) + off = (tgt : Int)) (hx : -2147483648 ≤ x ∧ x ≤ 2147483647) (kt : 0 < x → Ev G M tgt ls st h O) (kf : ¬ 0 < x → Ev G M pc9 ls st h O) : Ev G M pc ls ((0, x) :: st) h O := by
  intro p l e R s m args below meth cd C A hA hE hK ad0 n0 ad H locs cells slots la ha hn hP hD hS hl hcs hss
  obtain ⟨hd, rfl⟩ := zf_ok hf
  refine lv_if_gt (x := Int32.ofInt x) C.1 C.2.1 hd ht (fun z => ?_) (fun z => ?_)
  · exact (kt ((z_lt z_r0 hx).mp z)) p l e R s m args below meth cd C A hA hE hK ad0 n0 ad H locs cells slots la ha hn hP hD hS hl hcs hss
  · exact (kf (fun q => z ((z_lt z_r0 hx).mpr q))) p l e R s m args below meth cd C A hA hE hK ad0 n0 ad H locs cells slots la ha hn hP hD hS hl hcs hss
theorem Ev.if_le {G : zG} {M : zM} {pc pc9 : Nat} {ls st : List zSV} {h : zHp} {O : zO} {off x : Int} {tgt : Nat}
    (hf : zf M pc = some (.ifCond .le off, 3, pc9)) (ht : (pc : Int) + off = (tgt : Int)) (hx : -2147483648 ≤ x ∧ x ≤ 2147483647) (kt : x ≤ 0 → Ev G M tgt ls st h O) (kf : ¬ x ≤ 0 → Ev G M pc9 ls st h O) : Ev G M pc ls ((0, x) :: st) h O := by
  intro p l e R s m args below meth cd C A hA hE hK ad0 n0 ad H locs cells slots la ha hn hP hD hS hl hcs hss
  obtain ⟨hd, rfl⟩ := zf_ok hf
  refine lv_if_le (x := Int32.ofInt x) C.1 C.2.1 hd ht (fun z => ?_) (fun z => ?_)
  · exact (kt ((z_le hx z_r0).mp z)) p l e R s m args below meth cd C A hA hE hK ad0 n0 ad H locs cells slots la ha hn hP hD hS hl hcs hss
  · exact (kf (fun q => z ((z_le hx z_r0).mpr q))) p l e R s m args below meth cd C A hA hE hK ad0 n0 ad H locs cells slots la ha hn hP hD hS hl hcs hss
theorem Ev.goto {G : zG} {M : zM} {pc pc9 : Nat} {ls st : List zSV} {h : zHp} {O : zO} {off : Int} {tgt : Nat}
    (hf : zf M pc = some (.goto off, 3, pc9)) (ht : (pc : Int) + off = (tgt : Int)) (k : Ev G M tgt ls st h O) : Ev G M pc ls st h O := by
  intro p l e R s m args below meth cd C A hA hE hK ad0 n0 ad H locs cells slots la ha hn hP hD hS hl hcs hss
  obtain ⟨hd, rfl⟩ := zf_ok hf
  refine lv_goto C.1 C.2.1 hd ht ?_
  exact k p l e R s m args below meth cd C A hA hE hK ad0 n0 ad H locs cells slots la ha hn hP hD hS hl hcs hss
theorem Ev.tableIn {G : zG} {M : zM} {pc pc9 : Nat} {ls st : List zSV} {h : zHp} {O : zO} {dflt lo hi off x : Int} {offs : Array Int} {len tgt : Nat}
    (hf : zf M pc = some (.tableswitch dflt lo hi offs, len, pc9)) (hx : -2147483648 ≤ x ∧ x ≤ 2147483647) (h1 : lo ≤ x ∧ x ≤ hi) (ho : offs[(x - lo).toNat]? = some off) (ht : (pc : Int) + off = (tgt : Int)) (k : Ev G M tgt ls st h O) : Ev G M pc ls ((0, x) :: st) h O := by
  intro p l e R s m args below meth cd C A hA hE hK ad0 n0 ad H locs cells slots la ha hn hP hD hS hl hcs hss
  obtain ⟨hd, rfl⟩ := zf_ok hf
  refine lv_tableIn (x := Int32.ofInt x) C.1 C.2.1 hd (by rw [z_toInt hx]; omega) (by rw [z_toInt hx]; omega) (by rw [z_toInt hx]; exact ho) ht ?_
  exact k p l e R s m args below meth cd C A hA hE hK ad0 n0 ad H locs cells slots la ha hn hP hD hS hl hcs hss
theorem Ev.tableOut {G : zG} {M : zM} {pc pc9 : Nat} {ls st : List zSV} {h : zHp} {O : zO} {dflt lo hi x : Int} {offs : Array Int} {len tgt : Nat}
    (hf : zf M pc = some (.tableswitch dflt lo hi offs, len, pc9)) (hx : -2147483648 ≤ x ∧ x ≤ 2147483647) (h1 : x < lo ∨ hi < x) (ht : (pc : Int) + dflt = (tgt : Int)) (k : Ev G M tgt ls st h O) : Ev G M pc ls ((0, x) :: st) h O := by
  intro p l e R s m args below meth cd C A hA hE hK ad0 n0 ad H locs cells slots la ha hn hP hD hS hl hcs hss
  obtain ⟨hd, rfl⟩ := zf_ok hf
  refine lv_tableOut (x := Int32.ofInt x) C.1 C.2.1 hd (by rw [z_toInt hx]; exact h1) ht ?_
  exact k p l e R s m args below meth cd C A hA hE hK ad0 n0 ad H locs cells slots la ha hn hP hD hS hl hcs hss
theorem Ev.lookup {G : zG} {M : zM} {pc pc9 : Nat} {ls st : List zSV} {h : zHp} {O : zO} {dflt off x : Int} {ps : Array (Int × Int)} {len tgt : Nat}
    (hf : zf M pc = some (.lookupswitch dflt ps, len, pc9)) (hx : -2147483648 ≤ x ∧ x ≤ 2147483647) (hp : (ps.toList.zip (ps.toList.drop 1)).all (fun (a, next) => a.1 < next.1) = true) (ho : Op.lookupswitch.offset ps.toList dflt x = off) (ht : (pc : Int) + off = (tgt : Int)) (k : Ev G M tgt ls st h O) : Ev G M pc ls ((0, x) :: st) h O := by
  intro p l e R s m args below meth cd C A hA hE hK ad0 n0 ad H locs cells slots la ha hn hP hD hS hl hcs hss
  obtain ⟨hd, rfl⟩ := zf_ok hf
  refine lv_lookup (x := Int32.ofInt x) C.1 C.2.1 hd hp (by rw [z_toInt hx]; exact ho) ht ?_
  exact k p l e R s m args below meth cd C A hA hE hK ad0 n0 ad H locs cells slots la ha hn hP hD hS hl hcs hss
theorem Ev.dup {G : zG} {M : zM} {pc pc9 : Nat} {ls st : List zSV} {h : zHp} {O : zO} {v : zSV}
    (hf : zf M pc = some (.dup, 1, pc9)) (hv : zcat v = 1) (k : Ev G M pc9 ls (v :: v :: st) h O) : Ev G M pc ls (v :: st) h O := by
  intro p l e R s m args below meth cd C A hA hE hK ad0 n0 ad H locs cells slots la ha hn hP hD hS hl hcs hss
  obtain ⟨hd, rfl⟩ := zf_ok hf
  refine lv_dup C.1 C.2.1 hd (by rw [zcat_eq]; exact hv) ?_
  exact k p l e R s m args below meth cd C A hA hE hK ad0 n0 ad H locs cells slots la ha hn hP hD hS hl hcs hss
theorem Ev.dup2 {G : zG} {M : zM} {pc pc9 : Nat} {ls st : List zSV} {h : zHp} {O : zO} {v u : zSV}
    (hf : zf M pc = some (.dup2, 1, pc9)) (hv : zcat v = 1) (hv2 : zcat u = 1) (k : Ev G M pc9 ls (v :: u :: v :: u :: st) h O) : Ev G M pc ls (v :: u :: st) h O := by
  intro p l e R s m args below meth cd C A hA hE hK ad0 n0 ad H locs cells slots la ha hn hP hD hS hl hcs hss
  obtain ⟨hd, rfl⟩ := zf_ok hf
  refine lv_dup2_11 C.1 C.2.1 hd (by rw [zcat_eq]; exact hv) (by rw [zcat_eq]; exact hv2) ?_
  exact k p l e R s m args below meth cd C A hA hE hK ad0 n0 ad H locs cells slots la ha hn hP hD hS hl hcs hss
theorem Ev.pop {G : zG} {M : zM} {pc pc9 : Nat} {ls st : List zSV} {h : zHp} {O : zO} {v : zSV}
    (hf : zf M pc = some (.pop, 1, pc9)) (hv : zcat v = 1) (k : Ev G M pc9 ls st h O) : Ev G M pc ls (v :: st) h O := by
  intro p l e R s m args below meth cd C A hA hE hK ad0 n0 ad H locs cells slots la ha hn hP hD hS hl hcs hss
  obtain ⟨hd, rfl⟩ := zf_ok hf
  refine lv_pop C.1 C.2.1 hd (by rw [zcat_eq]; exact hv) ?_
  exact k p l e R s m args below meth cd C A hA hE hK ad0 n0 ad H locs cells slots la ha hn hP hD hS hl hcs hss
theorem Ev.i2l {G : zG} {M : zM} {pc pc9 : Nat} {ls st : List zSV} {h : zHp} {O : zO} {x : Int}
    (hf : zf M pc = some (.i2l, 1, pc9)) (hx : -2147483648 ≤ x ∧ x ≤ 2147483647) (k : Ev G M pc9 ls ((4, x) :: st) h O) : Ev G M pc ls ((0, x) :: st) h O := by
  intro p l e R s m args below meth cd C A hA hE hK ad0 n0 ad H locs cells slots la ha hn hP hD hS hl hcs hss
  obtain ⟨hd, rfl⟩ := zf_ok hf
  refine lv_i2l (x := Int32.ofInt x) (v := Int64.ofInt x) C.1 C.2.1 hd (Int32.toInt64_ofInt (by have : Int32.minValue.toInt = -2147483648 := rfl; omega) (by have : Int32.maxValue.toInt = 2147483647 := rfl; omega)) ?_
  exact k p l e R s m args below meth cd C A hA hE hK ad0 n0 ad H locs cells slots la ha hn hP hD hS hl hcs hss
theorem z_i2c {x : Int} : ((Int32.ofInt x).toUInt32 % 65536).toInt32 = Int32.ofInt (x % 65536) := by
  apply Int32.toInt_inj.mp
  rw [z_toInt ⟨by omega, by omega⟩]
  have h1 : ((Int32.ofInt x).toUInt32 % 65536).toNat = (x % 65536).toNat := by
    rw [UInt32.toNat_mod]
    have h2 : (Int32.ofInt x).toUInt32.toNat = (x % 4294967296).toNat := by
      show (BitVec.ofInt 32 x).toNat = _
      rw [BitVec.toNat_ofInt]
      rfl
    rw [h2]
    show (x % 4294967296).toNat % 65536 = _
    omega
  show (((Int32.ofInt x).toUInt32 % 65536).toBitVec).toInt = _
  rw [BitVec.toInt_eq_toNat_of_lt]
  · show ((((Int32.ofInt x).toUInt32 % 65536).toNat : Nat) : Int) = _
    rw [h1]
    omega
  · show 2 * ((Int32.ofInt x).toUInt32 % 65536).toNat < 2 ^ 32
    rw [h1]
    omega
theorem z_mask {x : Int} {k : Nat} (hk : k ≤ 16) : Int32.ofInt x &&& Int32.ofInt (2 ^ k - 1 : Int) = Int32.ofInt (x % (2 ^ k : Int)) := by
  apply Int32.toBitVec_inj.mp
  show BitVec.ofInt 32 x &&& BitVec.ofInt 32 (2 ^ k - 1 : Int) = BitVec.ofInt 32 (x % (2 ^ k : Int))
  apply BitVec.eq_of_toNat_eq
  rw [BitVec.toNat_and, BitVec.toNat_ofInt, BitVec.toNat_ofInt, BitVec.toNat_ofInt]
  have hp : (2 : Nat) ^ k ≤ 2 ^ 16 := Nat.pow_le_pow_right (by decide) hk
  have hp0 : 0 < (2 : Nat) ^ k := Nat.pow_pos (by decide)
  have e1 : ((2 ^ k - 1 : Int) % ((2 ^ 32 : Nat) : Int)).toNat = 2 ^ k - 1 := by
    have : (2 : Int) ^ k = ((2 ^ k : Nat) : Int) := by simp
    rw [this]
    omega
  rw [e1, Nat.and_two_pow_sub_one_eq_mod]
  have hd : (2 ^ 32 : Nat) = 2 ^ k * 2 ^ (32 - k) := by rw [← Nat.pow_add]; congr 1; omega
  have h3 : (x % (2 ^ k : Int)) % ((2 ^ 32 : Nat) : Int) = x % (2 ^ k : Int) := by
    have : (2 : Int) ^ k = ((2 ^ k : Nat) : Int) := by simp
    rw [this]
    have g1 := Int.emod_nonneg x (show ((2 ^ k : Nat) : Int) ≠ 0 by omega)
    have g2 := Int.emod_lt_of_pos x (show (0 : Int) < ((2 ^ k : Nat) : Int) by omega)
    exact Int.emod_eq_of_lt g1 (by omega)
  rw [h3]
  have g1 := Int.emod_nonneg x (show ((2 ^ 32 : Nat) : Int) ≠ 0 by decide)
  have h4 : (((x % ((2 ^ 32 : Nat) : Int)).toNat % 2 ^ k : Nat) : Int) = x % (2 ^ k : Int) := by
    rw [Int.natCast_emod, Int.toNat_of_nonneg g1]
    have : (2 : Int) ^ k = ((2 ^ k : Nat) : Int) := by simp
    rw [this]
    exact Int.emod_emod_of_dvd x (by rw [hd]; exact_mod_cast Nat.dvd_mul_right _ _)
  omega
theorem Ev.iand {G : zG} {M : zM} {pc pc9 : Nat} {ls st : List zSV} {h : zHp} {O : zO} {x y : Int}
    (k9 : Nat) (hk : k9 ≤ 16) (hf : zf M pc = some (.iand, 1, pc9)) (hy : y = 2 ^ k9 - 1) (k : Ev G M pc9 ls ((0, x % 2 ^ k9) :: st) h O) : Ev G M pc ls ((0, y) :: (0, x) :: st) h O := by
  intro p l e R s m args below meth cd C A hA hE hK ad0 n0 ad H locs cells slots la ha hn hP hD hS hl hcs hss
  obtain ⟨hd, rfl⟩ := zf_ok hf
  subst hy
  refine lv_iand (x := Int32.ofInt x) (y := Int32.ofInt (2 ^ k9 - 1)) C.1 C.2.1 hd ?_
  rw [z_mask hk]
  exact k p l e R s m args below meth cd C A hA hE hK ad0 n0 ad H locs cells slots la ha hn hP hD hS hl hcs hss
theorem Ev.ishr0 {G : zG} {M : zM} {pc pc9 : Nat} {ls st : List zSV} {h : zHp} {O : zO} {x : Int}
    (hf : zf M pc = some (.ishr, 1, pc9)) (k : Ev G M pc9 ls ((0, x) :: st) h O) : Ev G M pc ls ((0, 0) :: (0, x) :: st) h O := by
  intro p l e R s m args below meth cd C A hA hE hK ad0 n0 ad H locs cells slots la ha hn hP hD hS hl hcs hss
  obtain ⟨hd, rfl⟩ := zf_ok hf
  refine lv_ishr (x := Int32.ofInt x) (y := Int32.ofInt 0) C.1 C.2.1 hd ?_
  rw [show Int32.ofInt x >>> (Int32.ofInt 0 &&& 31) = Int32.ofInt x from z_shr0 _]
  exact k p l e R s m args below meth cd C A hA hE hK ad0 n0 ad H locs cells slots la ha hn hP hD hS hl hcs hss
theorem Ev.i2c {G : zG} {M : zM} {pc pc9 : Nat} {ls st : List zSV} {h : zHp} {O : zO} {x : Int}
    (hf : zf M pc = some (.i2c, 1, pc9)) (k : Ev G M pc9 ls ((0, x % 65536) :: st) h O) : Ev G M pc ls ((0, x) :: st) h O := by
  intro p l e R s m args below meth cd C A hA hE hK ad0 n0 ad H locs cells slots la ha hn hP hD hS hl hcs hss
  obtain ⟨hd, rfl⟩ := zf_ok hf
  refine lv_i2c (x := Int32.ofInt x) C.1 C.2.1 hd z_i2c ?_
  exact k p l e R s m args below meth cd C A hA hE hK ad0 n0 ad H locs cells slots la ha hn hP hD hS hl hcs hss
theorem Ev.lconst {G : zG} {M : zM} {pc pc9 : Nat} {ls st : List zSV} {h : zHp} {O : zO} {n : Fin 2}
    (hf : zf M pc = some (.lconst n, 1, pc9)) (k : Ev G M pc9 ls ((4, (n.val : Int)) :: st) h O) : Ev G M pc ls st h O := by
  intro p l e R s m args below meth cd C A hA hE hK ad0 n0 ad H locs cells slots la ha hn hP hD hS hl hcs hss
  obtain ⟨hd, rfl⟩ := zf_ok hf
  refine lv_lconst (v := Int64.ofInt (n.val : Int)) C.1 C.2.1 hd Int64.ofInt_eq_ofNat.symm ?_
  exact k p l e R s m args below meth cd C A hA hE hK ad0 n0 ad H locs cells slots la ha hn hP hD hS hl hcs hss
theorem z_lcmp {x y : Int} (hx : -2147483648 ≤ x ∧ x ≤ 2147483647) (hy : -2147483648 ≤ y ∧ y ≤ 2147483647) : lg_cmp (Int64.ofInt x) (Int64.ofInt y) = Int32.ofInt (if x < y then -1 else if x = y then 0 else 1) := by
  have ex : (Int64.ofInt x).toInt = x := Int64.toInt_ofInt_of_le (by omega) (by omega)
  have ey : (Int64.ofInt y).toInt = y := Int64.toInt_ofInt_of_le (by omega) (by omega)
  have e1 : Int64.ofInt x < Int64.ofInt y ↔ x < y := by rw [Int64.lt_iff_toInt_lt, ex, ey]
  have e2 : Int64.ofInt x = Int64.ofInt y ↔ x = y := by rw [← Int64.toInt_inj, ex, ey]
  have e3 : Int64.ofInt y < Int64.ofInt x ↔ y < x := by rw [Int64.lt_iff_toInt_lt, ex, ey]
  unfold lg_cmp
  by_cases h1 : x < y
  · have h2 : ¬ y < x := by omega
    have h3 : ¬ x = y := by omega
    simp [e1, e2, e3, h1, h2, h3]
  · by_cases h2 : x = y
    · have h3 : ¬ y < x := by omega
      simp [h2]
    · have h3 : y < x := by omega
      simp [e1, e2, e3, h1, h2, h3]
theorem Ev.lcmp {G : zG} {M : zM} {pc pc9 : Nat} {ls st : List zSV} {h : zHp} {O : zO} {x y : Int}
    (hf : zf M pc = some (.lcmp, 1, pc9)) (hx : -2147483648 ≤ x ∧ x ≤ 2147483647) (hy : -2147483648 ≤ y ∧ y ≤ 2147483647) (k : Ev G M pc9 ls ((0, if x < y then -1 else if x = y then 0 else 1) :: st) h O) : Ev G M pc ls ((4, y) :: (4, x) :: st) h O := by
  intro p l e R s m args below meth cd C A hA hE hK ad0 n0 ad H locs cells slots la ha hn hP hD hS hl hcs hss
  obtain ⟨hd, rfl⟩ := zf_ok hf
  refine W.lcmp (x := Int64.ofInt x) (y := Int64.ofInt y) C.1 C.2.1 hd ?_
  rw [z_lcmp hx hy]
  exact k p l e R s m args below meth cd C A hA hE hK ad0 n0 ad H locs cells slots la ha hn hP hD hS hl hcs hss
end
section
/-! READING AND WRITING CELLS, RETURNS (printed by wip/whole/gen/sim3.py) -/
theorem z_char (x : Int) : vp_nar .char (Int32.ofInt x) = Int32.ofInt (x % 65536) := by
  rw [vp_nar_char]
  apply Int32.toInt_inj.mp
  rw [z_toInt ⟨by omega, by omega⟩]
  have h2 : (Int32.ofInt x).toUInt32.toNat = (x % 4294967296).toNat := by
    show (BitVec.ofInt 32 x).toNat = _
    rw [BitVec.toNat_ofInt]
    rfl
  have h1 : ((Int32.ofInt x).toUInt32.toUInt16.toUInt32).toNat = (x % 65536).toNat := by
    rw [UInt16.toNat_toUInt32, UInt32.toNat_toUInt16, h2]
    omega
  show (((Int32.ofInt x).toUInt32.toUInt16.toUInt32).toBitVec).toInt = _
  rw [BitVec.toInt_eq_toNat_of_lt]
  · show ((((Int32.ofInt x).toUInt32.toUInt16.toUInt32).toNat : Nat) : Int) = _
    rw [h1]
    omega
  · show 2 * ((Int32.ofInt x).toUInt32.toUInt16.toUInt32).toNat < 2 ^ 32
    rw [h1]
    omega
/-- what a field or a return of this type keeps as it is -/
def zNar (ty : FieldType) (x : Int) : Prop := match ty with
  | .int => True
  | .boolean => x = 0 ∨ x = 1
  | .char => 0 ≤ x ∧ x ≤ 65535
  | _ => False
theorem zNar_ok {ty : FieldType} {x : Int} (h : zNar ty x) : narrow ty (.int (Int32.ofInt x)) = .int (Int32.ofInt x) ∧ fits ty (.int (Int32.ofInt x)) = true := by
  unfold zNar at h
  split at h
  · exact ⟨rfl, rfl⟩
  · rcases h with rfl | rfl <;> exact ⟨rfl, rfl⟩
  · constructor
    · have h1 := z_char x
      rw [vp_nar_char] at h1
      show Value.int _ = _
      rw [h1, show x % 65536 = x by omega]
    · show (decide (0 ≤ Int32.ofInt x) && decide (Int32.ofInt x ≤ 65535)) = true
      rw [Bool.and_eq_true, decide_eq_true_eq, decide_eq_true_eq, z_0, show (65535 : Int32) = Int32.ofInt 65535 from rfl, z_le ⟨by omega, by omega⟩ ⟨by omega, by omega⟩, z_le ⟨by omega, by omega⟩ ⟨by omega, by omega⟩]
      exact h
  · exact h.elim
def zClOk (ci : Nat) (C : String) (T : u_T) (ty : Nat → FieldType) : Prop := vwCl[ci]? = some (C, T, zN ci) ∧ (∀ w ∈ u_ws C T (zN ci), w ∈ zT) ∧ (∀ k, k < zN ci → parseFieldDescriptor (T k).2.2.1 = some (ty k)) ∧ (∀ a, a < zN ci → ∀ b, b < zN ci → a ≠ b → (T a).2.1 ≠ (T b).2.1) ∧ (∀ k, k < zN ci → (T k).1 = C) ∧ (∀ k, k < zN ci → defaultValue (ty k) = if zR ci k then .null else .int 0)
/-- what a field's link in the code of M says: class, place, type, whether it is final -/
def zFl (M : zM) (idx ci k : Nat) (t : FieldType) (fin : Bool) : Prop := ∃ (C : String) (T : u_T) (ty : Nat → FieldType), zClOk ci C T ty ∧ k < zN ci ∧ ty k = t ∧ (T k).2.2.2 = fin ∧ (Cond.fieldLink M.1.cls idx C (T k).2.1 (T k).2.2.1 ∈ zT ∨ ∃ host, Cond.fieldLinkNest M.1.cls idx C (T k).2.1 (T k).2.2.1 host ∈ zNw)
theorem zF_at {ad : Nat → Nat} {h : zHp} {c ci k : Nat} (hk : k < zN ci) : (zF ad h c ci)[k]? = some (if zR ci k then va_rf ((h.2.1 c k).map ad) else .int (Int32.ofInt (h.2.2.1 c (k : Int)))) := by
  unfold zF
  rw [List.getElem?_map, List.getElem?_range hk]
  rfl
theorem zF_I {ad : Nat → Nat} {sh : List (Nat × Nat)} {rf : Nat → Nat → Option Nat} {ia : Nat → Int → Int} {w : (Nat → Int → Int) × (Nat → Int → Int)} {c ci k : Nat} (hk : k < zN ci) (hr : zR ci k = false) : (zF ad (sh, rf, ia, w) c ci)[k]? = some (.int (Int32.ofInt (ia c (k : Int)))) := by
  rw [zF_at hk, hr]
  rfl
theorem zF_R {ad : Nat → Nat} {sh : List (Nat × Nat)} {rf : Nat → Nat → Option Nat} {ia : Nat → Int → Int} {w : (Nat → Int → Int) × (Nat → Int → Int)} {c ci k q : Nat} (hk : k < zN ci) (hr : zR ci k = true) (hq : rf c k = some q) : (zF ad (sh, rf, ia, w) c ci)[k]? = some (.ref (ad q)) := by
  rw [zF_at hk, hr]
  show some (va_rf ((rf c k).map ad)) = some (.ref (ad q))
  rw [hq]
  rfl
theorem zF_len {ad : Nat → Nat} {h : zHp} {c ci : Nat} : (zF ad h c ci).length = zN ci := by
  unfold zF
  rw [List.length_map, List.length_range]
theorem zu_ne {ia : Nat → Int → Int} {c j : Nat} {i x : Int} (h : j ≠ c) : zu ia c i x j = ia j := by
  funext k
  unfold zu
  rw [if_neg (fun e => h e.1)]
theorem zur_ne {rf : Nat → Nat → Option Nat} {c j k : Nat} {x : Option Nat} (h : j ≠ c) : zur rf c k x j = rf j := by
  funext i
  unfold zur
  rw [if_neg (fun e => h e.1)]
theorem zE_off {G : zG} {ad : Nat → Nat} {sh sh' : List (Nat × Nat)} {rf rf' : Nat → Nat → Option Nat} {ia ia' la la' da da' : Nat → Int → Int} {j : Nat} {kn : Nat × Nat} (h1 : rf' j = rf j) (h2 : ia' j = ia j) (h3 : la' j = la j) (h4 : da' j = da j) : zE G ad (sh', rf', ia', la', da') j kn = zE G ad (sh, rf, ia, la, da) j kn := by
  unfold zE zF
  dsimp only
  rw [h1, h2, h3, h4]
theorem zF_set {ad : Nat → Nat} {sh : List (Nat × Nat)} {rf : Nat → Nat → Option Nat} {ia : Nat → Int → Int} {w : (Nat → Int → Int) × (Nat → Int → Int)} {c ci k : Nat} {x : Int} (hk : k < zN ci) (hr : zR ci k = false) : (zF ad (sh, rf, ia, w) c ci).set k (.int (Int32.ofInt x)) = zF ad (sh, rf, zu ia c (k : Int) x, w) c ci := by
  apply List.ext_getElem?
  intro j
  by_cases hj : j < zN ci
  · rw [zF_at hj]
    by_cases e : j = k
    · subst e
      rw [List.getElem?_set_self (by rw [zF_len]; exact hj)]
      simp [hr, zu]
    · rw [List.getElem?_set_ne (Ne.symm e), zF_at hj]
      have e2 : ¬ ((j : Int) = (k : Int)) := by omega
      simp [zu, e2]
  · rw [List.getElem?_eq_none (by rw [List.length_set, zF_len]; omega), List.getElem?_eq_none (by rw [zF_len]; omega)]
theorem zF_setR {ad : Nat → Nat} {sh : List (Nat × Nat)} {rf : Nat → Nat → Option Nat} {ia : Nat → Int → Int} {w : (Nat → Int → Int) × (Nat → Int → Int)} {c ci k q : Nat} (hk : k < zN ci) (hr : zR ci k = true) : (zF ad (sh, rf, ia, w) c ci).set k (.ref (ad q)) = zF ad (sh, zur rf c k (some q), ia, w) c ci := by
  apply List.ext_getElem?
  intro j
  by_cases hj : j < zN ci
  · rw [zF_at hj]
    by_cases e : j = k
    · subst e
      rw [List.getElem?_set_self (by rw [zF_len]; exact hj)]
      simp [hr, zur, va_rf]
    · rw [List.getElem?_set_ne (Ne.symm e), zF_at hj]
      simp [zur, e]
  · rw [List.getElem?_eq_none (by rw [List.length_set, zF_len]; omega), List.getElem?_eq_none (by rw [zF_len]; omega)]
theorem zW_obj {G : zG} {ad : Nat → Nat} {sh : List (Nat × Nat)} {rf : Nat → Nat → Option Nat} {ia : Nat → Int → Int} {w : (Nat → Int → Int) × (Nat → Int → Int)} {c ci : Nat} (hc : sh[c]? = some (0, ci)) : (zW G ad (sh, rf, ia, w))[c]? = some (ad c, .inr (ci, zF ad (sh, rf, ia, w) c ci)) := zW_at (h := (sh, rf, ia, w)) hc
theorem zW_putI {G : zG} {ad : Nat → Nat} {sh : List (Nat × Nat)} {rf : Nat → Nat → Option Nat} {ia : Nat → Int → Int} {w : (Nat → Int → Int) × (Nat → Int → Int)} {c ci k : Nat} {x : Int} (hc : sh[c]? = some (0, ci)) (hk : k < zN ci) (hr : zR ci k = false) : (zW G ad (sh, rf, ia, w)).set c (ad c, .inr (ci, (zF ad (sh, rf, ia, w) c ci).set k (.int (Int32.ofInt x)))) = zW G ad (sh, rf, zu ia c (k : Int) x, w) := by
  refine zW_set rfl (fun j kn hj => zE_off rfl (zu_ne hj) rfl rfl) (fun kn h => ?_)
  cases hc.symm.trans h
  rw [zF_set hk hr]
  rfl
theorem zW_putR {G : zG} {ad : Nat → Nat} {sh : List (Nat × Nat)} {rf : Nat → Nat → Option Nat} {ia : Nat → Int → Int} {w : (Nat → Int → Int) × (Nat → Int → Int)} {c ci k q : Nat} (hc : sh[c]? = some (0, ci)) (hk : k < zN ci) (hr : zR ci k = true) : (zW G ad (sh, rf, ia, w)).set c (ad c, .inr (ci, (zF ad (sh, rf, ia, w) c ci).set k (.ref (ad q)))) = zW G ad (sh, zur rf c k (some q), ia, w) := by
  refine zW_set rfl (fun j kn hj => zE_off (zur_ne hj) rfl rfl rfl) (fun kn h => ?_)
  cases hc.symm.trans h
  rw [zF_setR hk hr]
  rfl
theorem z_upd {f : Int → Int} {i x : Int} (hi : 0 ≤ i) : upd (fun j : Nat => Int32.ofInt (f (j : Int))) i.toNat (Int32.ofInt x) = fun j : Nat => Int32.ofInt (if (j : Int) = i then x else f (j : Int)) := by
  funext j
  unfold upd
  by_cases e : j = i.toNat
  · have e2 : (j : Int) = i := by omega
    rw [if_pos e, if_pos e2]
  · have e2 : ¬ (j : Int) = i := by omega
    rw [if_neg e, if_neg e2]
theorem zW_arr {G : zG} {ad : Nat → Nat} {sh : List (Nat × Nat)} {rf : Nat → Nat → Option Nat} {ia : Nat → Int → Int} {w : (Nat → Int → Int) × (Nat → Int → Int)} {c k n : Nat} {i x : Int} (hk : k = 1 ∨ k = 2) (hc : sh[c]? = some (k, n)) (hi : 0 ≤ i) : (zW G ad (sh, rf, ia, w)).set c (ad c, .inl (G.2.1 (k - 1), n, .inl (upd (fun j : Nat => Int32.ofInt (ia c (j : Int))) i.toNat (Int32.ofInt x)))) = zW G ad (sh, rf, zu ia c i x, w) := by
  refine zW_set rfl (fun j kn hj => zE_off rfl (zu_ne hj) rfl rfl) (fun kn h => ?_)
  cases hc.symm.trans h
  rw [z_upd hi]
  rcases hk with rfl | rfl <;> (unfold zE zu; simp)
theorem zE_arr {G : zG} {ad : Nat → Nat} {sh : List (Nat × Nat)} {rf : Nat → Nat → Option Nat} {ia : Nat → Int → Int} {w : (Nat → Int → Int) × (Nat → Int → Int)} {c k n : Nat} (hk : k = 1 ∨ k = 2) (hc : sh[c]? = some (k, n)) : (zW G ad (sh, rf, ia, w))[c]? = some (ad c, .inl (G.2.1 (k - 1), n, .inl fun j : Nat => Int32.ofInt (ia c (j : Int)))) := by
  rw [zW_at (h := (sh, rf, ia, w)) hc]
  rcases hk with rfl | rfl <;> rfl
theorem zE_off2 : True := trivial
theorem Ev.getI {G : zG} {M : zM} {pc pc9 : Nat} {ls st : List zSV} {sh : List (Nat × Nat)} {rf : Nat → Nat → Option Nat} {ia : Nat → Int → Int} {w : (Nat → Int → Int) × (Nat → Int → Int)} {O : zO} {idx ci : Nat} {t : FieldType} {fin : Bool}
    (c k : Nat) (hf : zf M pc = some (.getfield idx, 3, pc9)) (hl9 : zFl M idx ci k t fin) (hc : sh[c]? = some (0, ci)) (hr : zR ci k = false) (kk : Ev G M pc9 ls ((0, ia c (k : Int)) :: st) (sh, rf, ia, w) O) : Ev G M pc ls ((1, (c : Int)) :: st) (sh, rf, ia, w) O := by
  intro p l e R s m args below meth cd C A hA hE hK ad0 n0 ad H locs cells slots la ha hn hP hD hS hl hcs hss
  obtain ⟨hd, rfl⟩ := zf_ok hf
  obtain ⟨C0, T0, ty0, hcl, hk, hty, hfin, hlk⟩ := hl9
  have hC : (T0 k).1 = C0 := hcl.2.2.2.2.1 k hk
  rcases hlk with hlk | ⟨host, hlk⟩
  · refine va_get (D := G.1) (ci := ci) (C := C0) (T := T0) (N := zN ci) C.1 C.2.1 C.2.2.2.2.2.2.1 hcl.2.1 C.2.2.2.2.1 hK hP c (zW_obj hc) hcl.1 k hk (C.2.2.2.2.2.2.1 _ hlk) (fun _ h9 => by rw [← hC]; exact h9) (zF_I hk hr) hd ?_
    exact kk p l e R s m args below meth cd C A hA hE hK ad0 n0 ad H locs cells slots la ha hn hP hD hS hl hcs hss
  · refine va_getN (D := G.1) (ci := ci) (C := C0) (T := T0) (N := zN ci) C.1 C.2.1 C.2.2.2.2.2.2.1 hcl.2.1 C.2.2.2.2.1 hK hP c (zW_obj hc) hcl.1 k hk (va_Nw.use rfl (hE.1 _ hlk)) (fun _ h9 => by rw [← hC]; exact h9) (zF_I hk hr) hd ?_
    exact kk p l e R s m args below meth cd C A hA hE hK ad0 n0 ad H locs cells slots la ha hn hP hD hS hl hcs hss
theorem Ev.getR {G : zG} {M : zM} {pc pc9 : Nat} {ls st : List zSV} {sh : List (Nat × Nat)} {rf : Nat → Nat → Option Nat} {ia : Nat → Int → Int} {w : (Nat → Int → Int) × (Nat → Int → Int)} {O : zO} {idx ci : Nat} {t : FieldType} {fin : Bool}
    (c k q : Nat) (hf : zf M pc = some (.getfield idx, 3, pc9)) (hl9 : zFl M idx ci k t fin) (hc : sh[c]? = some (0, ci)) (hr : zR ci k = true) (hq : rf c k = some q) (kk : Ev G M pc9 ls ((1, (q : Int)) :: st) (sh, rf, ia, w) O) : Ev G M pc ls ((1, (c : Int)) :: st) (sh, rf, ia, w) O := by
  intro p l e R s m args below meth cd C A hA hE hK ad0 n0 ad H locs cells slots la ha hn hP hD hS hl hcs hss
  obtain ⟨hd, rfl⟩ := zf_ok hf
  obtain ⟨C0, T0, ty0, hcl, hk, hty, hfin, hlk⟩ := hl9
  have hC : (T0 k).1 = C0 := hcl.2.2.2.2.1 k hk
  rcases hlk with hlk | ⟨host, hlk⟩
  · refine va_get (D := G.1) (ci := ci) (C := C0) (T := T0) (N := zN ci) C.1 C.2.1 C.2.2.2.2.2.2.1 hcl.2.1 C.2.2.2.2.1 hK hP c (zW_obj hc) hcl.1 k hk (C.2.2.2.2.2.2.1 _ hlk) (fun _ h9 => by rw [← hC]; exact h9) (zF_R hk hr hq) hd ?_
    exact kk p l e R s m args below meth cd C A hA hE hK ad0 n0 ad H locs cells slots la ha hn hP hD hS hl hcs hss
  · refine va_getN (D := G.1) (ci := ci) (C := C0) (T := T0) (N := zN ci) C.1 C.2.1 C.2.2.2.2.2.2.1 hcl.2.1 C.2.2.2.2.1 hK hP c (zW_obj hc) hcl.1 k hk (va_Nw.use rfl (hE.1 _ hlk)) (fun _ h9 => by rw [← hC]; exact h9) (zF_R hk hr hq) hd ?_
    exact kk p l e R s m args below meth cd C A hA hE hK ad0 n0 ad H locs cells slots la ha hn hP hD hS hl hcs hss
theorem Ev.putI {G : zG} {M : zM} {pc pc9 : Nat} {ls st : List zSV} {sh : List (Nat × Nat)} {rf : Nat → Nat → Option Nat} {ia : Nat → Int → Int} {w : (Nat → Int → Int) × (Nat → Int → Int)} {O : zO} {idx ci : Nat} {t : FieldType} {x : Int}
    (c k : Nat) (hf : zf M pc = some (.putfield idx, 3, pc9)) (hl9 : zFl M idx ci k t false) (hc : sh[c]? = some (0, ci)) (hr : zR ci k = false) (hx : zNar t x) (kk : Ev G M pc9 ls st (sh, rf, zu ia c (k : Int) x, w) O) : Ev G M pc ls ((0, x) :: (1, (c : Int)) :: st) (sh, rf, ia, w) O := by
  intro p l e R s m args below meth cd C A hA hE hK ad0 n0 ad H locs cells slots la ha hn hP hD hS hl hcs hss
  obtain ⟨hd, rfl⟩ := zf_ok hf
  obtain ⟨C0, T0, ty0, hcl, hk, hty, hfin, hlk⟩ := hl9
  subst hty
  have hC : (T0 k).1 = C0 := hcl.2.2.2.2.1 k hk
  rcases hlk with hlk | ⟨host, hlk⟩
  · refine va_put (D := G.1) (ci := ci) (C := C0) (T := T0) (N := zN ci) (v := .int (Int32.ofInt x)) C.1 C.2.1 C.2.2.2.2.2.2.1 hcl.2.1 ty0 hcl.2.2.1 hcl.2.2.2.1 C.2.2.2.2.1 hK hP hD hS c (zW_obj hc) hcl.1 k hk (C.2.2.2.2.2.2.1 _ hlk) (fun _ h9 => by rw [← hC]; exact h9) hfin (hcl.2.2.1 k hk) (zNar_ok hx).1 (zNar_ok hx).2 (by rw [zF_len]; exact hk) hd (fun H locs hP hD hS => ?_)
    rw [zW_putI hc hk hr] at hP hD
    exact kk p l e R s m args below meth cd C A hA hE hK ad0 n0 ad H locs cells slots la ha hn hP hD hS hl hcs hss
  · refine va_putN (D := G.1) (ci := ci) (C := C0) (T := T0) (N := zN ci) (v := .int (Int32.ofInt x)) C.1 C.2.1 C.2.2.2.2.2.2.1 hcl.2.1 ty0 hcl.2.2.1 hcl.2.2.2.1 C.2.2.2.2.1 hK hP hD hS c (zW_obj hc) hcl.1 k hk (va_Nw.use rfl (hE.1 _ hlk)) (fun _ h9 => by rw [← hC]; exact h9) hfin (hcl.2.2.1 k hk) (zNar_ok hx).1 (zNar_ok hx).2 (by rw [zF_len]; exact hk) hd (fun H locs hP hD hS => ?_)
    rw [zW_putI hc hk hr] at hP hD
    exact kk p l e R s m args below meth cd C A hA hE hK ad0 n0 ad H locs cells slots la ha hn hP hD hS hl hcs hss
theorem vwCl_own {ci : Nat} {C D : String} {T : u_T} {ty : Nat → FieldType} (h : zClOk ci C T ty) (hD : (vwCl[ci]?).map (fun q => q.1) = some D) : C = D := by
  rw [h.1] at hD
  exact Option.some.inj hD
/-- a final field's link in its class's own constructor -/
def zFf (M : zM) (idx ci k : Nat) : Prop := ∃ (C : String) (T : u_T) (ty : Nat → FieldType), zClOk ci C T ty ∧ k < zN ci ∧ ((∃ n, ty k = .object n) ∨ ∃ n, ty k = .array n) ∧ (T k).2.2.2 = true ∧ Cond.fieldLink M.1.cls idx C (T k).2.1 (T k).2.2.1 ∈ zT ∧ M.1.name = "<init>" ∧ C = M.1.cls
theorem Ev.putF {G : zG} {M : zM} {pc pc9 : Nat} {ls st : List zSV} {sh : List (Nat × Nat)} {rf : Nat → Nat → Option Nat} {ia : Nat → Int → Int} {w : (Nat → Int → Int) × (Nat → Int → Int)} {O : zO} {idx ci : Nat}
    (c k q : Nat) (hf : zf M pc = some (.putfield idx, 3, pc9)) (hl9 : zFf M idx ci k) (hc : sh[c]? = some (0, ci)) (hr : zR ci k = true) (kk : Ev G M pc9 ls st (sh, zur rf c k (some q), ia, w) O) : Ev G M pc ls ((1, (q : Int)) :: (1, (c : Int)) :: st) (sh, rf, ia, w) O := by
  intro p l e R s m args below meth cd C A hA hE hK ad0 n0 ad H locs cells slots la ha hn hP hD hS hl hcs hss
  obtain ⟨hd, rfl⟩ := zf_ok hf
  obtain ⟨C0, T0, ty0, hcl, hk, ht, hfin, hlk, hin, hown⟩ := hl9
  have hC : (T0 k).1 = C0 := hcl.2.2.2.2.1 k hk
  refine va_putF (D := G.1) (ci := ci) (C := C0) (T := T0) (N := zN ci) (v := .ref (ad q)) C.1 C.2.1 C.2.2.2.2.2.2.1 hcl.2.1 ty0 hcl.2.2.1 hcl.2.2.2.1 C.2.2.2.2.1 hK hP hD hS c (zW_obj hc) hcl.1 k hk (C.2.2.2.2.2.2.1 _ hlk) (fun _ h9 => by rw [← hC]; exact h9) hfin (C.2.2.2.2.2.2.2.2.2.2.2.trans hin) (hC.trans hown) (hcl.2.2.1 k hk) (by rcases ht with ⟨n9, e9⟩ | ⟨n9, e9⟩ <;> (rw [e9]; rfl)) (by rcases ht with ⟨n9, e9⟩ | ⟨n9, e9⟩ <;> (rw [e9]; rfl)) (by rw [zF_len]; exact hk) hd (fun H locs hP hD hS => ?_)
  rw [zW_putR hc hk hr] at hP hD
  exact kk p l e R s m args below meth cd C A hA hE hK ad0 n0 ad H locs cells slots la ha hn hP hD hS hl hcs hss
theorem Ev.iaload {G : zG} {M : zM} {pc pc9 : Nat} {ls st : List zSV} {sh : List (Nat × Nat)} {rf : Nat → Nat → Option Nat} {ia : Nat → Int → Int} {w : (Nat → Int → Int) × (Nat → Int → Int)} {O : zO} {i : Int}
    (c n : Nat) (hf : zf M pc = some (.iaload, 1, pc9)) (hc : sh[c]? = some (1, n)) (hn2 : n ≤ 2147483647) (hi : 0 ≤ i ∧ i < (n : Int)) (kk : Ev G M pc9 ls ((0, ia c i) :: st) (sh, rf, ia, w) O) : Ev G M pc ls ((0, i) :: (1, (c : Int)) :: st) (sh, rf, ia, w) O := by
  intro p l e R s m args below meth cd C A hA hE hK ad0 n0 ad H locs cells slots la ha hn hP hD hS hl hcs hss
  obtain ⟨hd, rfl⟩ := zf_ok hf
  refine va_iald (D := G.1) C.1 C.2.1 hK hP c 0 (zE_arr (k := 1) (by simp) hc) rfl (i := Int32.ofInt i) (z_in hi hn2) hd ?_
  rw [z_clamp ⟨hi.1, by omega⟩, Int.toNat_of_nonneg hi.1]
  exact kk p l e R s m args below meth cd C A hA hE hK ad0 n0 ad H locs cells slots la ha hn hP hD hS hl hcs hss
theorem Ev.caload {G : zG} {M : zM} {pc pc9 : Nat} {ls st : List zSV} {sh : List (Nat × Nat)} {rf : Nat → Nat → Option Nat} {ia : Nat → Int → Int} {w : (Nat → Int → Int) × (Nat → Int → Int)} {O : zO} {i : Int}
    (c n : Nat) (hf : zf M pc = some (.caload, 1, pc9)) (hc : sh[c]? = some (2, n)) (hn2 : n ≤ 2147483647) (hi : 0 ≤ i ∧ i < (n : Int)) (kk : Ev G M pc9 ls ((0, ia c i) :: st) (sh, rf, ia, w) O) : Ev G M pc ls ((0, i) :: (1, (c : Int)) :: st) (sh, rf, ia, w) O := by
  intro p l e R s m args below meth cd C A hA hE hK ad0 n0 ad H locs cells slots la ha hn hP hD hS hl hcs hss
  obtain ⟨hd, rfl⟩ := zf_ok hf
  refine va_cald (D := G.1) C.1 C.2.1 hK hP c 1 (zE_arr (k := 2) (by simp) hc) rfl (i := Int32.ofInt i) (z_in hi hn2) hd ?_
  rw [z_clamp ⟨hi.1, by omega⟩, Int.toNat_of_nonneg hi.1]
  exact kk p l e R s m args below meth cd C A hA hE hK ad0 n0 ad H locs cells slots la ha hn hP hD hS hl hcs hss
theorem Ev.iastore {G : zG} {M : zM} {pc pc9 : Nat} {ls st : List zSV} {sh : List (Nat × Nat)} {rf : Nat → Nat → Option Nat} {ia : Nat → Int → Int} {w : (Nat → Int → Int) × (Nat → Int → Int)} {O : zO} {i x : Int}
    (c n : Nat) (hf : zf M pc = some (.iastore, 1, pc9)) (hc : sh[c]? = some (1, n)) (hn2 : n ≤ 2147483647) (hi : 0 ≤ i ∧ i < (n : Int)) (kk : Ev G M pc9 ls st (sh, rf, zu ia c i x, w) O) : Ev G M pc ls ((0, x) :: (0, i) :: (1, (c : Int)) :: st) (sh, rf, ia, w) O := by
  intro p l e R s m args below meth cd C A hA hE hK ad0 n0 ad H locs cells slots la ha hn hP hD hS hl hcs hss
  obtain ⟨hd, rfl⟩ := zf_ok hf
  refine va_iast (D := G.1) C.1 C.2.1 hK hP hD hS c 0 (zE_arr (k := 1) (by simp) hc) rfl (i := Int32.ofInt i) (x := Int32.ofInt x) (z_in hi hn2) hd (fun H locs hP hD hS => ?_)
  rw [z_clamp ⟨hi.1, by omega⟩, zW_arr (k := 1) (by simp) hc hi.1] at hP hD
  exact kk p l e R s m args below meth cd C A hA hE hK ad0 n0 ad H locs cells slots la ha hn hP hD hS hl hcs hss
theorem Ev.castore {G : zG} {M : zM} {pc pc9 : Nat} {ls st : List zSV} {sh : List (Nat × Nat)} {rf : Nat → Nat → Option Nat} {ia : Nat → Int → Int} {w : (Nat → Int → Int) × (Nat → Int → Int)} {O : zO} {i x : Int}
    (c n : Nat) (hf : zf M pc = some (.castore, 1, pc9)) (hc : sh[c]? = some (2, n)) (hn2 : n ≤ 2147483647) (hi : 0 ≤ i ∧ i < (n : Int)) (hx : 0 ≤ x ∧ x ≤ 65535) (kk : Ev G M pc9 ls st (sh, rf, zu ia c i x, w) O) : Ev G M pc ls ((0, x) :: (0, i) :: (1, (c : Int)) :: st) (sh, rf, ia, w) O := by
  intro p l e R s m args below meth cd C A hA hE hK ad0 n0 ad H locs cells slots la ha hn hP hD hS hl hcs hss
  obtain ⟨hd, rfl⟩ := zf_ok hf
  refine va_cast (D := G.1) C.1 C.2.1 hK hP hD hS c 1 (zE_arr (k := 2) (by simp) hc) rfl (i := Int32.ofInt i) (x := Int32.ofInt x) (z_in hi hn2) hd (fun H locs hP hD hS => ?_)
  rw [z_clamp ⟨hi.1, by omega⟩, z_char, show x % 65536 = x by omega, zW_arr (k := 2) (by simp) hc hi.1] at hP hD
  exact kk p l e R s m args below meth cd C A hA hE hK ad0 n0 ad H locs cells slots la ha hn hP hD hS hl hcs hss
theorem z_updL {f : Int → Int} {i x : Int} (hi : 0 ≤ i) : vp_updL (fun j : Nat => Int64.ofInt (f (j : Int))) i.toNat (Int64.ofInt x) = fun j : Nat => Int64.ofInt (if (j : Int) = i then x else f (j : Int)) := by
  funext j
  unfold vp_updL
  by_cases e : j = i.toNat
  · have e2 : (j : Int) = i := by omega
    rw [if_pos e, if_pos e2]
  · have e2 : ¬ (j : Int) = i := by omega
    rw [if_neg e, if_neg e2]
theorem z_updD {f : Int → Int} {i x : Int} (hi : 0 ≤ i) : (fun j : Nat => if j = i.toNat then UInt64.ofNat x.toNat else UInt64.ofNat (f (j : Int)).toNat) = fun j : Nat => UInt64.ofNat (if (j : Int) = i then x else f (j : Int)).toNat := by
  funext j
  by_cases e : j = i.toNat
  · have e2 : (j : Int) = i := by omega
    rw [if_pos e, if_pos e2]
  · have e2 : ¬ (j : Int) = i := by omega
    rw [if_neg e, if_neg e2]
theorem zW_arrL {G : zG} {ad : Nat → Nat} {sh : List (Nat × Nat)} {rf : Nat → Nat → Option Nat} {ia lo da : Nat → Int → Int} {c n : Nat} {i x : Int} (hc : sh[c]? = some (3, n)) (hi : 0 ≤ i) : (zW G ad (sh, rf, ia, lo, da)).set c (ad c, .inl (G.2.1 2, n, .inr (.inl (vp_updL (fun j : Nat => Int64.ofInt (lo c (j : Int))) i.toNat (Int64.ofInt x))))) = zW G ad (sh, rf, ia, zu lo c i x, da) := by
  refine zW_set rfl (fun j kn hj => zE_off rfl rfl (zu_ne hj) rfl) (fun kn h => ?_)
  cases hc.symm.trans h
  rw [z_updL hi]
  unfold zE zu
  simp
theorem zW_arrD {G : zG} {ad : Nat → Nat} {sh : List (Nat × Nat)} {rf : Nat → Nat → Option Nat} {ia lo da : Nat → Int → Int} {c n : Nat} {i x : Int} (hc : sh[c]? = some (4, n)) (hi : 0 ≤ i) : (zW G ad (sh, rf, ia, lo, da)).set c (ad c, .inl (G.2.1 3, n, .inr (.inr (.inr (.inl (fun j : Nat => if j = i.toNat then UInt64.ofNat x.toNat else UInt64.ofNat (da c (j : Int)).toNat)))))) = zW G ad (sh, rf, ia, lo, zu da c i x) := by
  refine zW_set rfl (fun j kn hj => zE_off rfl rfl rfl (zu_ne hj)) (fun kn h => ?_)
  cases hc.symm.trans h
  rw [z_updD hi]
  unfold zE zu
  simp
theorem Ev.laload {G : zG} {M : zM} {pc pc9 : Nat} {ls st : List zSV} {sh : List (Nat × Nat)} {rf : Nat → Nat → Option Nat} {ia : Nat → Int → Int} {lo da : Nat → Int → Int} {O : zO} {i : Int}
    (c n : Nat) (hf : zf M pc = some (.laload, 1, pc9)) (hc : sh[c]? = some (3, n)) (hn2 : n ≤ 2147483647) (hi : 0 ≤ i ∧ i < (n : Int)) (kk : Ev G M pc9 ls ((4, lo c i) :: st) (sh, rf, ia, lo, da) O) : Ev G M pc ls ((0, i) :: (1, (c : Int)) :: st) (sh, rf, ia, lo, da) O := by
  intro p l e R s m args below meth cd C A hA hE hK ad0 n0 ad H locs cells slots la ha hn hP hD hS hl hcs hss
  obtain ⟨hd, rfl⟩ := zf_ok hf
  refine va_lald (D := G.1) C.1 C.2.1 hK hP c 2 (zW_at (h := (sh, rf, ia, lo, da)) hc) rfl (i := Int32.ofInt i) (z_in hi hn2) hd ?_
  rw [z_clamp ⟨hi.1, by omega⟩, Int.toNat_of_nonneg hi.1]
  exact kk p l e R s m args below meth cd C A hA hE hK ad0 n0 ad H locs cells slots la ha hn hP hD hS hl hcs hss
theorem Ev.daload {G : zG} {M : zM} {pc pc9 : Nat} {ls st : List zSV} {sh : List (Nat × Nat)} {rf : Nat → Nat → Option Nat} {ia : Nat → Int → Int} {lo da : Nat → Int → Int} {O : zO} {i : Int}
    (c n : Nat) (hf : zf M pc = some (.daload, 1, pc9)) (hc : sh[c]? = some (4, n)) (hn2 : n ≤ 2147483647) (hi : 0 ≤ i ∧ i < (n : Int)) (kk : Ev G M pc9 ls ((5, da c i) :: st) (sh, rf, ia, lo, da) O) : Ev G M pc ls ((0, i) :: (1, (c : Int)) :: st) (sh, rf, ia, lo, da) O := by
  intro p l e R s m args below meth cd C A hA hE hK ad0 n0 ad H locs cells slots la ha hn hP hD hS hl hcs hss
  obtain ⟨hd, rfl⟩ := zf_ok hf
  refine va_dald (D := G.1) C.1 C.2.1 hK hP c 3 (zW_at (h := (sh, rf, ia, lo, da)) hc) rfl (i := Int32.ofInt i) (z_in hi hn2) hd ?_
  rw [z_clamp ⟨hi.1, by omega⟩, Int.toNat_of_nonneg hi.1]
  exact kk p l e R s m args below meth cd C A hA hE hK ad0 n0 ad H locs cells slots la ha hn hP hD hS hl hcs hss
theorem Ev.lastore {G : zG} {M : zM} {pc pc9 : Nat} {ls st : List zSV} {sh : List (Nat × Nat)} {rf : Nat → Nat → Option Nat} {ia : Nat → Int → Int} {lo da : Nat → Int → Int} {O : zO} {i x : Int}
    (c n : Nat) (hf : zf M pc = some (.lastore, 1, pc9)) (hc : sh[c]? = some (3, n)) (hn2 : n ≤ 2147483647) (hi : 0 ≤ i ∧ i < (n : Int)) (kk : Ev G M pc9 ls st (sh, rf, ia, zu lo c i x, da) O) : Ev G M pc ls ((4, x) :: (0, i) :: (1, (c : Int)) :: st) (sh, rf, ia, lo, da) O := by
  intro p l e R s m args below meth cd C A hA hE hK ad0 n0 ad H locs cells slots la ha hn hP hD hS hl hcs hss
  obtain ⟨hd, rfl⟩ := zf_ok hf
  refine va_last (D := G.1) C.1 C.2.1 hK hP hD hS c 2 (zW_at (h := (sh, rf, ia, lo, da)) hc) rfl (i := Int32.ofInt i) (x := Int64.ofInt x) (z_in hi hn2) hd (fun H locs hP hD hS => ?_)
  rw [z_clamp ⟨hi.1, by omega⟩, zW_arrL hc hi.1] at hP hD
  exact kk p l e R s m args below meth cd C A hA hE hK ad0 n0 ad H locs cells slots la ha hn hP hD hS hl hcs hss
theorem Ev.dastore {G : zG} {M : zM} {pc pc9 : Nat} {ls st : List zSV} {sh : List (Nat × Nat)} {rf : Nat → Nat → Option Nat} {ia : Nat → Int → Int} {lo da : Nat → Int → Int} {O : zO} {i x : Int}
    (c n : Nat) (hf : zf M pc = some (.dastore, 1, pc9)) (hc : sh[c]? = some (4, n)) (hn2 : n ≤ 2147483647) (hi : 0 ≤ i ∧ i < (n : Int)) (kk : Ev G M pc9 ls st (sh, rf, ia, lo, zu da c i x) O) : Ev G M pc ls ((5, x) :: (0, i) :: (1, (c : Int)) :: st) (sh, rf, ia, lo, da) O := by
  intro p l e R s m args below meth cd C A hA hE hK ad0 n0 ad H locs cells slots la ha hn hP hD hS hl hcs hss
  obtain ⟨hd, rfl⟩ := zf_ok hf
  refine va_dast (D := G.1) C.1 C.2.1 hK hP hD hS c 3 (zW_at (h := (sh, rf, ia, lo, da)) hc) rfl (i := Int32.ofInt i) (x := UInt64.ofNat x.toNat) (z_in hi hn2) hd (fun H locs hP hD hS => ?_)
  rw [z_clamp ⟨hi.1, by omega⟩] at hP hD
  have hP : va_P G.1 vwCl (zW G ad (sh, rf, ia, lo, zu da c i x)) H := by rw [← zW_arrD hc hi.1]; exact hP
  have hD : va_D A (zW G ad (sh, rf, ia, lo, zu da c i x)) := by rw [← zW_arrD hc hi.1]; exact hD
  exact kk p l e R s m args below meth cd C A hA hE hK ad0 n0 ad H locs cells slots la ha hn hP hD hS hl hcs hss
theorem Ev.saload {G : zG} {M : zM} {pc pc9 : Nat} {ls st : List zSV} {sh : List (Nat × Nat)} {rf : Nat → Nat → Option Nat} {ia : Nat → Int → Int} {w : (Nat → Int → Int) × (Nat → Int → Int)} {O : zO} {i : Int}
    (j : Nat) (hf : zf M pc = some (.iaload, 1, pc9)) (hj : j < 3) (hn2 : (G.2.2.2.2.2.1 j).1 ≤ 2147483647) (hi : 0 ≤ i ∧ i < ((G.2.2.2.2.2.1 j).1 : Int)) (kk : Ev G M pc9 ls ((0, (G.2.2.2.2.2.1 j).2 i) :: st) (sh, rf, ia, w) O) : Ev G M pc ls ((0, i) :: (3, (j : Int)) :: st) (sh, rf, ia, w) O := by
  intro p l e R s m args below meth cd C A hA hE hK ad0 n0 ad H locs cells slots la ha hn hP hD hS hl hcs hss
  obtain ⟨hd, rfl⟩ := zf_ok hf
  refine va_ti C.1 C.2.1 (hE.2.2.2.2.2.2.2.2.2.2 j hj) hS (i := Int32.ofInt i) (z_in hi hn2) rfl hd ?_
  rw [z_clamp ⟨hi.1, by omega⟩, Int.toNat_of_nonneg hi.1]
  exact kk p l e R s m args below meth cd C A hA hE hK ad0 n0 ad H locs cells slots la ha hn hP hD hS hl hcs hss
theorem Ev.slen {G : zG} {M : zM} {pc pc9 : Nat} {ls st : List zSV} {sh : List (Nat × Nat)} {rf : Nat → Nat → Option Nat} {ia : Nat → Int → Int} {w : (Nat → Int → Int) × (Nat → Int → Int)} {O : zO} 
    (j : Nat) (hf : zf M pc = some (.arraylength, 1, pc9)) (hj : j < 3) (kk : Ev G M pc9 ls ((0, ((G.2.2.2.2.2.1 j).1 : Int)) :: st) (sh, rf, ia, w) O) : Ev G M pc ls ((3, (j : Int)) :: st) (sh, rf, ia, w) O := by
  intro p l e R s m args below meth cd C A hA hE hK ad0 n0 ad H locs cells slots la ha hn hP hD hS hl hcs hss
  obtain ⟨hd, rfl⟩ := zf_ok hf
  refine va_tlen C.1 C.2.1 (hE.2.2.2.2.2.2.2.2.2.2 j hj) hS Int32.ofInt_eq_ofNat.symm hd ?_
  exact kk p l e R s m args below meth cd C A hA hE hK ad0 n0 ad H locs cells slots la ha hn hP hD hS hl hcs hss
theorem Ev.alen {G : zG} {M : zM} {pc pc9 : Nat} {ls st : List zSV} {sh : List (Nat × Nat)} {rf : Nat → Nat → Option Nat} {ia : Nat → Int → Int} {w : (Nat → Int → Int) × (Nat → Int → Int)} {O : zO} {k : Nat}
    (c n : Nat) (hf : zf M pc = some (.arraylength, 1, pc9)) (hc : sh[c]? = some (k, n)) (hk : k = 1 ∨ k = 2) (kk : Ev G M pc9 ls ((0, (n : Int)) :: st) (sh, rf, ia, w) O) : Ev G M pc ls ((1, (c : Int)) :: st) (sh, rf, ia, w) O := by
  intro p l e R s m args below meth cd C A hA hE hK ad0 n0 ad H locs cells slots la ha hn hP hD hS hl hcs hss
  obtain ⟨hd, rfl⟩ := zf_ok hf
  have e9 := zE_arr (G := G) (ad := ad) (rf := rf) (ia := ia) (w := w) hk hc
  rcases hk with rfl | rfl
  · refine va_alen (D := G.1) C.1 C.2.1 hK hP c 0 e9 (ty := .int) rfl Int32.ofInt_eq_ofNat.symm hd ?_
    exact kk p l e R s m args below meth cd C A hA hE hK ad0 n0 ad H locs cells slots la ha hn hP hD hS hl hcs hss
  · refine va_alen (D := G.1) C.1 C.2.1 hK hP c 1 e9 (ty := .char) rfl Int32.ofInt_eq_ofNat.symm hd ?_
    exact kk p l e R s m args below meth cd C A hA hE hK ad0 n0 ad H locs cells slots la ha hn hP hD hS hl hcs hss
theorem Ev.lows {G : zG} {M : zM} {pc pc9 : Nat} {ls st : List zSV} {sh : List (Nat × Nat)} {rf : Nat → Nat → Option Nat} {ia : Nat → Int → Int} {w : (Nat → Int → Int) × (Nat → Int → Int)} {O : zO} {idx : Nat}
    (hf : zf M pc = some (.getstatic idx, 3, pc9)) (hl9 : Cond.fieldLink M.1.cls idx RX7 "LOWEST_LINE_OF_SPAN" "[I" ∈ zT) (kk : Ev G M pc9 ls ((3, 0) :: st) (sh, rf, ia, w) O) : Ev G M pc ls st (sh, rf, ia, w) O := by
  intro p l e R s m args below meth cd C A hA hE hK ad0 n0 ad H locs cells slots la ha hn hP hD hS hl hcs hss
  obtain ⟨hd, rfl⟩ := zf_ok hf
  refine va_gets C.1 C.2.1 hE.2.2.2.2.2.2.2.2.1 hS C.2.2.2.2.1 (C.2.2.2.2.2.2.1 _ hl9) (fun _ h9 => h9) hd ?_
  exact kk p l e R s m args below meth cd C A hA hE hK ad0 n0 ad H locs cells slots la ha hn hP hD hS hl hcs hss
theorem Ev.highs {G : zG} {M : zM} {pc pc9 : Nat} {ls st : List zSV} {sh : List (Nat × Nat)} {rf : Nat → Nat → Option Nat} {ia : Nat → Int → Int} {w : (Nat → Int → Int) × (Nat → Int → Int)} {O : zO} {idx : Nat}
    (hf : zf M pc = some (.getstatic idx, 3, pc9)) (hl9 : Cond.fieldLink M.1.cls idx RX7 "HIGHEST_LINE_OF_SPAN" "[I" ∈ zT) (kk : Ev G M pc9 ls ((3, 1) :: st) (sh, rf, ia, w) O) : Ev G M pc ls st (sh, rf, ia, w) O := by
  intro p l e R s m args below meth cd C A hA hE hK ad0 n0 ad H locs cells slots la ha hn hP hD hS hl hcs hss
  obtain ⟨hd, rfl⟩ := zf_ok hf
  refine va_gets C.1 C.2.1 hE.2.2.2.2.2.2.2.2.2.1 hS C.2.2.2.2.1 (C.2.2.2.2.2.2.1 _ hl9) (fun _ h9 => h9) hd ?_
  exact kk p l e R s m args below meth cd C A hA hE hK ad0 n0 ad H locs cells slots la ha hn hP hD hS hl hcs hss
theorem Ev.ldcS {G : zG} {M : zM} {pc pc9 : Nat} {ls st : List zSV} {sh : List (Nat × Nat)} {rf : Nat → Nat → Option Nat} {ia : Nat → Int → Int} {w : (Nat → Int → Int) × (Nat → Int → Int)} {O : zO} {idx : Nat} {tx : String}
    (i : Nat) (hf : zf M pc = some (.ldc idx, 2, pc9)) (hi : zSK[i]? = some (M.1.cls, idx, tx)) (kk : Ev G M pc9 ls ((2, (i : Int)) :: st) (sh, rf, ia, w) O) : Ev G M pc ls st (sh, rf, ia, w) O := by
  intro p l e R s m args below meth cd C A hA hE hK ad0 n0 ad H locs cells slots la ha hn hP hD hS hl hcs hss
  obtain ⟨hd, rfl⟩ := zf_ok hf
  refine va_ldcS C.1 C.2.1 C.2.2.2.2.1 (hE.2.2.1 i _ hi) hd ?_
  exact kk p l e R s m args below meth cd C A hA hE hK ad0 n0 ad H locs cells slots la ha hn hP hD hS hl hcs hss
theorem Ev.ldcD {G : zG} {M : zM} {pc pc9 : Nat} {ls st : List zSV} {sh : List (Nat × Nat)} {rf : Nat → Nat → Option Nat} {ia : Nat → Int → Int} {w : (Nat → Int → Int) × (Nat → Int → Int)} {O : zO} {idx b : Nat}
    (hf : zf M pc = some (.ldc2_w idx, 3, pc9)) (hl9 : Cond.constantDouble M.1.cls idx (UInt64.ofNat b) ∈ zT) (kk : Ev G M pc9 ls ((5, (b : Int)) :: st) (sh, rf, ia, w) O) : Ev G M pc ls st (sh, rf, ia, w) O := by
  intro p l e R s m args below meth cd C A hA hE hK ad0 n0 ad H locs cells slots la ha hn hP hD hS hl hcs hss
  obtain ⟨hd, rfl⟩ := zf_ok hf
  refine lv_ldc2d C.1 C.2.1 C.2.2.2.2.1 (C.2.2.2.2.2.2.1 _ hl9) hd ?_
  exact kk p l e R s m args below meth cd C A hA hE hK ad0 n0 ad H locs cells slots la ha hn hP hD hS hl hcs hss
theorem z_cpy {f g : Int → Int} {sp dp n : Int} (h1 : 0 ≤ sp) (h2 : 0 ≤ dp) (h3 : 0 ≤ n) : va_cpy (fun j : Nat => Int32.ofInt (f (j : Int))) (fun j : Nat => Int32.ofInt (g (j : Int))) sp.toNat dp.toNat n.toNat = fun j : Nat => Int32.ofInt (if dp ≤ (j : Int) ∧ (j : Int) < dp + n then f (sp + ((j : Int) - dp)) else g (j : Int)) := by
  funext j
  unfold va_cpy
  by_cases e : dp.toNat ≤ j ∧ j < dp.toNat + n.toNat
  · rw [if_pos e, if_pos (by omega)]
    show Int32.ofInt (f ((sp.toNat + (j - dp.toNat) : Nat) : Int)) = _
    rw [show ((sp.toNat + (j - dp.toNat) : Nat) : Int) = sp + ((j : Int) - dp) by omega]
  · rw [if_neg e, if_neg (by omega)]
/-- n places of the array c0 from sp on, copied to the array c1 from dp on -/
def zcp (ia : Nat → Int → Int) (c0 : Nat) (sp : Int) (c1 : Nat) (dp n : Int) : Nat → Int → Int := fun c i => if c = c1 ∧ dp ≤ i ∧ i < dp + n then ia c0 (sp + (i - dp)) else ia c i
theorem zW_cpy {G : zG} {ad : Nat → Nat} {sh : List (Nat × Nat)} {rf : Nat → Nat → Option Nat} {ia : Nat → Int → Int} {w : (Nat → Int → Int) × (Nat → Int → Int)} {c0 c1 n1 : Nat} {sp dp n : Int} (hc : sh[c1]? = some (1, n1)) (h1 : 0 ≤ sp) (h2 : 0 ≤ dp) (h3 : 0 ≤ n) : (zW G ad (sh, rf, ia, w)).set c1 (ad c1, .inl (G.2.1 0, n1, .inl (va_cpy (fun j : Nat => Int32.ofInt (ia c0 (j : Int))) (fun j : Nat => Int32.ofInt (ia c1 (j : Int))) sp.toNat dp.toNat n.toNat))) = zW G ad (sh, rf, zcp ia c0 sp c1 dp n, w) := by
  refine zW_set rfl (fun j kn hj => zE_off rfl (by funext k; unfold zcp; rw [if_neg (fun e => hj e.1)]) rfl rfl) (fun kn h => ?_)
  cases hc.symm.trans h
  rw [z_cpy h1 h2 h3]
  unfold zE zcp
  simp
theorem Ev.copy {G : zG} {M : zM} {pc pc9 : Nat} {ls st : List zSV} {sh : List (Nat × Nat)} {rf : Nat → Nat → Option Nat} {ia : Nat → Int → Int} {w : (Nat → Int → Int) × (Nat → Int → Int)} {O : zO} {idx : Nat} {sp dp n : Int}
    (c0 c1 n0a n1 : Nat) (hf : zf M pc = some (.invokestatic idx, 3, pc9)) (hl9 : Cond.methodLink M.1.cls idx arraycopyName ∈ zT) (hnat : Cond.native arraycopyName ∈ zT) (hsta : Cond.static arraycopyName ∈ zT) (hini : Cond.initialized "java/lang/System" ∈ zT) (hc0 : sh[c0]? = some (1, n0a)) (hc1 : sh[c1]? = some (1, n1)) (h0n : n0a ≤ 2147483647) (h1n : n1 ≤ 2147483647) (h1 : 0 ≤ sp ∧ 0 ≤ dp ∧ 0 ≤ n ∧ sp + n ≤ (n0a : Int) ∧ dp + n ≤ (n1 : Int)) (hfr : 1 ≤ M.2.2.2.2.2.1) (hlo : (st.map zcat).sum + (nativeFrameWords "java/lang/System" "arraycopy" 5 + 11) ≤ M.2.2.2.2.2.2) (kk : Ev G M pc9 ls st (sh, rf, zcp ia c0 sp c1 dp n, w) O) : Ev G M pc ls ((0, n) :: (0, dp) :: (1, (c1 : Int)) :: (0, sp) :: (1, (c0 : Int)) :: st) (sh, rf, ia, w) O := by
  intro p l e R s m args below meth cd C A hA hE hK ad0 n0 ad H locs cells slots la ha hn hP hD hS hl hcs hss
  obtain ⟨hd, rfl⟩ := zf_ok hf
  obtain ⟨h1, h2, h3, h4, h5⟩ := h1
  have nn : ∀ z : Int, 0 ≤ z ∧ z ≤ 2147483647 → ¬ Int32.ofInt z < 0 := fun z hz => by rw [z_0, z_lt ⟨by omega, by omega⟩ z_r0]; omega
  refine va_copyi (D := G.1) C.1 C.2.1 (C.2.2.1.trans hl.1.symm) C.2.2.2.2.1 (C.2.2.2.2.2.2.1 _ hl9) (C.2.2.2.2.2.2.1 _ hnat) (C.2.2.2.2.2.2.1 _ hsta) (C.2.2.2.2.2.2.1 _ hini) hK hP hD hS c0 c1 0 0 (zE_arr (k := 1) (by simp) hc0) (zE_arr (k := 1) (by simp) hc1) (ty := .int) rfl rfl rfl (sp := Int32.ofInt sp) (dp := Int32.ofInt dp) (n := Int32.ofInt n) (nn _ ⟨h1, by omega⟩) (nn _ ⟨h2, by omega⟩) (nn _ ⟨h3, by omega⟩) (by rw [z_clamp ⟨h1, by omega⟩, z_clamp ⟨h3, by omega⟩]; omega) (by rw [z_clamp ⟨h2, by omega⟩, z_clamp ⟨h3, by omega⟩]; omega) (fun _ _ => rfl) (Nat.le_trans hfr C.2.2.2.2.2.2.2.2.2.1) (by rw [zcats]; exact Nat.le_trans hlo C.2.2.2.2.2.2.2.2.2.2.1) hd (fun H locs hP hD hS => ?_)
  rw [z_clamp ⟨h1, by omega⟩, z_clamp ⟨h2, by omega⟩, z_clamp ⟨h3, by omega⟩, zW_cpy hc1 h1 h2 h3] at hP hD
  exact kk p l e R s m args below meth cd C A hA hE hK ad0 n0 ad H locs cells slots la ha hn hP hD hS hl hcs hss
theorem Ev.objInit {G : zG} {M : zM} {pc pc9 : Nat} {ls st : List zSV} {sh : List (Nat × Nat)} {rf : Nat → Nat → Option Nat} {ia : Nat → Int → Int} {w : (Nat → Int → Int) × (Nat → Int → Int)} {O : zO} {idx : Nat}
    (c : Nat) (hf : zf M pc = some (.invokespecial idx, 3, pc9)) (hl9 : Cond.methodLink M.1.cls idx Lib.objectInit ∈ zT) (hin : Cond.instanceMethod Lib.objectInit ∈ zT) (hco : Cond.code Lib.objectInit ⟨#[0xb1]⟩ 1 none ∈ zT) (hfr : 1 ≤ M.2.2.2.2.2.1) (hlo : (st.map zcat).sum + 12 ≤ M.2.2.2.2.2.2) (kk : Ev G M pc9 ls st (sh, rf, ia, w) O) : Ev G M pc ls ((1, (c : Int)) :: st) (sh, rf, ia, w) O := by
  intro p l e R s m args below meth cd C A hA hE hK ad0 n0 ad H locs cells slots la ha hn hP hD hS hl hcs hss
  obtain ⟨hd, rfl⟩ := zf_ok hf
  refine W.objInit C.1 C.2.1 C.2.2.2.2.1 (C.2.2.2.2.2.2.1 _ hl9) (C.2.2.2.2.2.2.1 _ hin) (C.2.2.2.2.2.2.1 _ hco) rfl (by rw [C.2.2.1]; exact hl.1) rfl hd (Nat.le_trans hfr C.2.2.2.2.2.2.2.2.2.1) (by rw [zcats]; exact Nat.le_trans (by simpa [JFrame.monitorRoom] using hlo) C.2.2.2.2.2.2.2.2.2.2.1) ?_
  exact kk p l e R s m args below meth cd C A hA hE hK ad0 n0 ad H locs cells slots la ha hn hP hD hS hl hcs hss
theorem Ev.retI {G : zG} {M : zM} {pc pc9 : Nat} {ls st : List zSV} {sh : List (Nat × Nat)} {rf : Nat → Nat → Option Nat} {ia : Nat → Int → Int} {w : (Nat → Int → Int) × (Nat → Int → Int)} {O : zO} {t : FieldType} {x : Int}
    (hf : zf M pc = some (.ireturn, 1, pc9)) (hr : M.2.2.2.1 = some t) (hx : zNar t x) : Ev G M pc ls [(0, x)] (sh, rf, ia, w) (.inl (some (0, x)), (sh, rf, ia, w), 0, 0) := by
  intro p l e R s m args below meth cd C A hA hE hK ad0 n0 ad H locs cells slots la ha hn hP hD hS hl hcs hss
  obtain ⟨hd, rfl⟩ := zf_ok hf
  refine W.widen (k := R.cells) (n := R.slots) hcs hss ?_
  refine vx_ret ?_
  exact W.zret (v := Int32.ofInt x) C.1 C.2.1 (C.2.2.2.1.trans hr) (zNar_ok hx).1 (fun t ht hW => ⟨⟨some (0, x), ad, rfl, rfl, by rw [ht]; exact hP, hD, ha⟩, hS.F ht⟩) hS.2.2 hd C.2.2.2.2.2.1
theorem Ev.retV {G : zG} {M : zM} {pc pc9 : Nat} {ls st : List zSV} {sh : List (Nat × Nat)} {rf : Nat → Nat → Option Nat} {ia : Nat → Int → Int} {w : (Nat → Int → Int) × (Nat → Int → Int)} {O : zO} 
    (hf : zf M pc = some (.return_, 1, pc9)) (hr : M.2.2.2.1 = none) : Ev G M pc ls [] (sh, rf, ia, w) (.inl none, (sh, rf, ia, w), 0, 0) := by
  intro p l e R s m args below meth cd C A hA hE hK ad0 n0 ad H locs cells slots la ha hn hP hD hS hl hcs hss
  obtain ⟨hd, rfl⟩ := zf_ok hf
  refine W.widen (k := R.cells) (n := R.slots) hcs hss ?_
  refine vx_ret ?_
  exact W.vret C.1 C.2.1 (C.2.2.2.1.trans hr) (fun t ht hW => ⟨⟨none, ad, rfl, rfl, by rw [ht]; exact hP, hD, ha⟩, hS.F ht⟩) hS.2.2 hd C.2.2.2.2.2.1
theorem Ev.retD {G : zG} {M : zM} {pc pc9 : Nat} {ls st : List zSV} {sh : List (Nat × Nat)} {rf : Nat → Nat → Option Nat} {ia : Nat → Int → Int} {w : (Nat → Int → Int) × (Nat → Int → Int)} {O : zO} {x : Int}
    (hf : zf M pc = some (.dreturn, 1, pc9)) (hr : M.2.2.2.1 = some .double) : Ev G M pc ls [(5, x)] (sh, rf, ia, w) (.inl (some (5, x)), (sh, rf, ia, w), 0, 0) := by
  intro p l e R s m args below meth cd C A hA hE hK ad0 n0 ad H locs cells slots la ha hn hP hD hS hl hcs hss
  obtain ⟨hd, rfl⟩ := zf_ok hf
  refine W.widen (k := R.cells) (n := R.slots) hcs hss ?_
  refine vx_ret ?_
  exact W.dret C.1 C.2.1 (C.2.2.2.1.trans hr) (fun t ht hW => ⟨⟨some (5, x), ad, rfl, rfl, by rw [ht]; exact hP, hD, ha⟩, hS.F ht⟩) hS.2.2 hd C.2.2.2.2.2.1
theorem Ev.retF {G : zG} {M : zM} {pc pc9 : Nat} {ls st : List zSV} {sh : List (Nat × Nat)} {rf : Nat → Nat → Option Nat} {ia : Nat → Int → Int} {w : (Nat → Int → Int) × (Nat → Int → Int)} {O : zO} {x : Int}
    (hf : zf M pc = some (.freturn, 1, pc9)) (hr : M.2.2.2.1 = some .float) : Ev G M pc ls [(6, x)] (sh, rf, ia, w) (.inl (some (6, x)), (sh, rf, ia, w), 0, 0) := by
  intro p l e R s m args below meth cd C A hA hE hK ad0 n0 ad H locs cells slots la ha hn hP hD hS hl hcs hss
  obtain ⟨hd, rfl⟩ := zf_ok hf
  refine W.widen (k := R.cells) (n := R.slots) hcs hss ?_
  refine vx_ret ?_
  exact W.fret C.1 C.2.1 (C.2.2.2.1.trans hr) (fun t ht hW => ⟨⟨some (6, x), ad, rfl, rfl, by rw [ht]; exact hP, hD, ha⟩, hS.F ht⟩) hS.2.2 hd C.2.2.2.2.2.1
theorem Ev.retS {G : zG} {M : zM} {pc pc9 : Nat} {ls st : List zSV} {sh : List (Nat × Nat)} {rf : Nat → Nat → Option Nat} {ia : Nat → Int → Int} {w : (Nat → Int → Int) × (Nat → Int → Int)} {O : zO} {x : Int}
    (hf : zf M pc = some (.areturn, 1, pc9)) (hr : M.2.2.2.1 = some (.object "java/lang/String")) : Ev G M pc ls [(2, x)] (sh, rf, ia, w) (.inl (some (2, x)), (sh, rf, ia, w), 0, 0) := by
  intro p l e R s m args below meth cd C A hA hE hK ad0 n0 ad H locs cells slots la ha hn hP hD hS hl hcs hss
  obtain ⟨hd, rfl⟩ := zf_ok hf
  refine W.widen (k := R.cells) (n := R.slots) hcs hss ?_
  refine vx_ret ?_
  exact W.aret (v := .ref (G.2.2.1 x.toNat)) (rt := .object "java/lang/String") C.1 C.2.1 (C.2.2.2.1.trans hr) (Or.inl ⟨_, rfl⟩) (Or.inr ⟨_, rfl⟩) (fun t ht hW => ⟨⟨some (2, x), ad, rfl, rfl, by rw [ht]; exact hP, hD, ha⟩, hS.F ht⟩) hS.2.2 hd C.2.2.2.2.2.1
end
section
/-! MAKING CELLS, CALLS, THROWS, CATCHES -/
def zOk (n : Nat) (v : zSV) : Bool := match v with
  | (1, k) => decide (k.toNat < n)
  | _ => true
theorem zc_ad {G : zG} {ad ad' : Nat → Nat} {n : Nat} {v : zSV} (h : ∀ c, c < n → ad' c = ad c) (hv : zOk n v = true) : zc G ad' v = zc G ad v := by
  obtain ⟨t, x⟩ := v
  match t with
  | 0 => rfl
  | 1 =>
    have h1 : x.toNat < n := by simpa [zOk] using hv
    show Value.ref (ad' x.toNat) = Value.ref (ad x.toNat)
    rw [h _ h1]
  | 2 => rfl
  | 3 => rfl
  | 4 => rfl
  | 5 => rfl
  | 6 => rfl
  | 7 => rfl
  | 8 => rfl
  | t + 9 => simp [zc]
theorem zcs_ad {G : zG} {ad ad' : Nat → Nat} {n : Nat} {l : List zSV} (h : ∀ c, c < n → ad' c = ad c) (hv : l.all (zOk n) = true) : l.map (zc G ad') = l.map (zc G ad) := List.map_congr_left fun v hm => zc_ad h (List.all_eq_true.mp hv v hm)
theorem zL_ad {G : zG} {ad ad' : Nat → Nat} {n : Nat} {l : List zSV} (h : ∀ c, c < n → ad' c = ad c) (hv : l.all (zOk n) = true) {la : Array Slot} {k : Nat} (hl : lv_has la k (zL G ad l)) : lv_has la k (zL G ad' l) := by
  refine lv_less hl fun q hq => ?_
  obtain ⟨w, h1, h2, h3⟩ := zL_mem.mp hq
  exact zL_mem.mpr ⟨w, h1, h2, h3.trans (zc_ad h (List.all_eq_true.mp hv w (List.mem_of_getElem? h1)))⟩
/-- the references of the first n cells lead to them -/
def zRfOk (n : Nat) (rf : Nat → Nat → Option Nat) : Bool := (List.range n).all fun c => (List.range 22).all fun k => match rf c k with
  | some q => decide (q < n)
  | none => true
theorem zRf_at {n c k q : Nat} {rf : Nat → Nat → Option Nat} (h : zRfOk n rf = true) (hc : c < n) (hk : k < 22) (hq : rf c k = some q) : q < n := by
  have h1 := List.all_eq_true.mp h c (List.mem_range.mpr hc)
  have h2 := List.all_eq_true.mp h1 k (List.mem_range.mpr hk)
  simp only [hq] at h2
  simpa using h2
theorem zN_le (ci : Nat) : zN ci ≤ 22 := by
  unfold zN
  split <;> omega
theorem zE_ad {G : zG} {ad ad' : Nat → Nat} {sh sh' : List (Nat × Nat)} {rf rf' : Nat → Nat → Option Nat} {ia ia' lo lo' da da' : Nat → Int → Int} {n j : Nat} {kn : Nat × Nat} (had : ∀ c, c < n → ad' c = ad c) (hrf : zRfOk n rf = true) (hj : j < n) (h1 : rf' j = rf j) (h2 : ia' j = ia j) (h3 : lo' j = lo j) (h4 : da' j = da j) : zE G ad' (sh', rf', ia', lo', da') j kn = zE G ad (sh, rf, ia, lo, da) j kn := by
  have hf : ∀ ci, zF ad' (sh', rf', ia', lo', da') j ci = zF ad (sh, rf, ia, lo, da) j ci := by
    intro ci
    unfold zF
    refine List.map_congr_left fun k hk => ?_
    have hk2 := List.mem_range.mp hk
    dsimp only
    rw [h1, h2]
    cases hq : rf j k with
    | none => rfl
    | some q =>
      have := zRf_at hrf hj (Nat.lt_of_lt_of_le hk2 (zN_le ci)) hq
      show (if zR ci k = true then va_rf (some (ad' q)) else _) = (if zR ci k = true then va_rf (some (ad q)) else _)
      rw [had q this]
  unfold zE
  split <;> simp only [hf, h2, h3, h4]
theorem zW_push {G : zG} {ad ad' : Nat → Nat} {sh : List (Nat × Nat)} {kn : Nat × Nat} {rf rf' : Nat → Nat → Option Nat} {ia ia' lo lo' da da' : Nat → Int → Int} (had : ∀ c, c < sh.length → ad' c = ad c) (hrf : zRfOk sh.length rf = true) (h1 : ∀ j, j < sh.length → rf' j = rf j) (h2 : ∀ j, j < sh.length → ia' j = ia j) (h3 : ∀ j, j < sh.length → lo' j = lo j) (h4 : ∀ j, j < sh.length → da' j = da j) :
    zW G ad' (sh ++ [kn], rf', ia', lo', da') = zW G ad (sh, rf, ia, lo, da) ++ [(ad' sh.length, zE G ad' (sh ++ [kn], rf', ia', lo', da') sh.length kn)] := by
  unfold zW
  dsimp only
  rw [List.mapIdx_concat]
  congr 1
  apply List.ext_getElem?
  intro j
  rw [List.getElem?_mapIdx, List.getElem?_mapIdx]
  cases hk : sh[j]? with
  | none => rfl
  | some x =>
    have hj := (List.getElem?_eq_some_iff.mp hk).1
    show some (ad' j, zE G ad' (sh ++ [kn], rf', ia', lo', da') j x) = some (ad j, zE G ad (sh, rf, ia, lo, da) j x)
    rw [had j hj, zE_ad had hrf hj (h1 j hj) (h2 j hj) (h3 j hj) (h4 j hj)]
def zcr (rf : Nat → Nat → Option Nat) (n : Nat) : Nat → Nat → Option Nat := fun c k => if c = n then none else rf c k
def zci (ia : Nat → Int → Int) (n : Nat) : Nat → Int → Int := fun c i => if c = n then 0 else ia c i
theorem zcr_lt {rf : Nat → Nat → Option Nat} {n j : Nat} (h : j < n) : zcr rf n j = rf j := by
  funext k
  unfold zcr
  rw [if_neg (by omega)]
theorem zci_lt {ia : Nat → Int → Int} {n j : Nat} (h : j < n) : zci ia n j = ia j := by
  funext k
  unfold zci
  rw [if_neg (by omega)]
/-- the addresses, with one more at the end -/
def zAd (ad : Nat → Nat) (n q : Nat) : Nat → Nat := fun c => if c = n then q else ad c
theorem zAd_lt {ad : Nat → Nat} {n q : Nat} : ∀ c, c < n → zAd ad n q c = ad c := fun c h => by
  unfold zAd
  rw [if_neg (by omega)]
theorem zAd_n {ad : Nat → Nat} {n q : Nat} : zAd ad n q n = q := by
  unfold zAd
  rw [if_pos rfl]
/-- 'new' of a class of ours -/
def zNl (M : zM) (idx ci : Nat) : Prop := ∃ (C : String) (T : u_T) (ty : Nat → FieldType), zClOk ci C T ty ∧ Cond.classLink M.1.cls idx C ∈ zT ∧ Cond.instantiable C (zN ci) ∈ zT ∧ Cond.initialized C ∈ zT
theorem Ev.new {G : zG} {M : zM} {pc pc9 : Nat} {ls st : List zSV} {sh : List (Nat × Nat)} {rf : Nat → Nat → Option Nat} {ia : Nat → Int → Int} {w : (Nat → Int → Int) × (Nat → Int → Int)} {idx ci : Nat} {o : Option zSV ⊕ String} {h2 : zHp} {ce sl : Nat} (n ce1 sl1 : Nat) (hn9 : sh.length = n) (hf : zf M pc = some (.new idx, 3, pc9)) (hl9 : zNl M idx ci) (h1l : ls.all (zOk n) = true) (h1s : st.all (zOk n) = true) (hrf : zRfOk n rf = true) (hce : ce1 + 1 = ce) (hsl : sl1 + zN ci = sl)
    (kk : Ev G M pc9 ls ((1, (n : Int)) :: st) (sh ++ [(0, ci)], zcr rf n, zci ia n, w) (o, h2, ce1, sl1)) : Ev G M pc ls st (sh, rf, ia, w) (o, h2, ce, sl) := by
  intro p l e R s m args below meth cd C A hA hE hK ad0 n0 ad H locs cells slots la ha hn hP hD hS hl hcs hss
  obtain ⟨hd, rfl⟩ := zf_ok hf
  obtain ⟨C0, T0, ty0, hcl, hk1, hk2, hk3⟩ := hl9
  subst hn9
  subst hce
  subst hsl
  dsimp only at hcs hss hn
  refine va_new (D := G.1) (ci := ci) (C := C0) (T := T0) (N := zN ci) (fs := (List.range (zN ci)).map fun k => if zR ci k then .null else .int 0) C.1 C.2.1 C.2.2.2.2.2.2.1 hcl.2.1 ty0 hcl.2.2.1 C.2.2.2.2.1 (C.2.2.2.2.2.2.1 _ hk1) (C.2.2.2.2.2.2.1 _ hk2) (C.2.2.2.2.2.2.1 _ hk3) hK hP hD hS hA hcl.1 (fun j hj => ?_) (by omega) (by omega) hd (fun q H1 hP1 hD1 hS1 => ?_)
  · rw [hcl.2.2.2.2.2 j hj]
    unfold vp_V
    rw [List.getD_eq_getElem?_getD, List.getElem?_map, List.getElem?_range hj]
    rfl
  · have e9 : zW G (zAd ad sh.length q) (sh ++ [(0, ci)], zcr rf sh.length, zci ia sh.length, w) = zW G ad (sh, rf, ia, w) ++ [(q, .inr (ci, (List.range (zN ci)).map fun k => if zR ci k then .null else .int 0))] := by
      rw [zW_push (ad := ad) (lo := w.1) (da := w.2) zAd_lt hrf (fun j hj => zcr_lt hj) (fun j hj => zci_lt hj) (fun _ _ => rfl) (fun _ _ => rfl), zAd_n]
      congr 3
      unfold zE zF zcr zci
      simp only [if_true, Option.map_none]
      congr 2
    have kk2 := kk p l e R s m args below meth cd C A hA hE hK ad0 n0 (zAd ad sh.length q) H1 locs (cells + 1) (slots + zN ci) la (fun c hc => (zAd_lt c (by omega)).trans (ha c hc)) (by dsimp only; rw [List.length_append]; omega) (by rw [e9]; exact hP1) (by rw [e9]; exact hD1) hS1 (zL_ad zAd_lt h1l hl) (by dsimp only; omega) (by dsimp only; omega)
    rw [List.map_cons, zcs_ad zAd_lt h1s] at kk2
    have e8 : zc G (zAd ad sh.length q) (1, (sh.length : Int)) = .ref q := by
      show Value.ref (zAd ad sh.length q ((sh.length : Int)).toNat) = _
      rw [Int.toNat_natCast, zAd_n]
    rw [e8] at kk2
    exact kk2
/-! PRINTED from here on (wip/whole/gen/sim4.py) -/
theorem Ev.newaI {G : zG} {M : zM} {pc pc9 : Nat} {ls st : List zSV} {sh : List (Nat × Nat)} {rf : Nat → Nat → Option Nat} {ia : Nat → Int → Int} {w : (Nat → Int → Int) × (Nat → Int → Int)} {o : Option zSV ⊕ String} {h2 : zHp} {ce sl : Nat} (n N ce1 sl1 : Nat) (hn9 : sh.length = n) (hf : zf M pc = some (.newarray .int, 2, pc9)) (hac : Cond.arrayClass .int ∈ zT) (h1l : ls.all (zOk n) = true) (h1s : st.all (zOk n) = true) (hrf : zRfOk n rf = true) (hN : N ≤ 100000) (hce : ce1 + 1 = ce) (hsl : sl1 + N = sl)
    (kk : Ev G M pc9 ls ((1, (n : Int)) :: st) (sh ++ [(1, N)], zcr rf n, zci ia n, w) (o, h2, ce1, sl1)) : Ev G M pc ls ((0, (N : Int)) :: st) (sh, rf, ia, w) (o, h2, ce, sl) := by
  intro p l e R s m args below meth cd C A hA hE hK ad0 n0 ad H locs cells slots la ha hn hP hD hS hl hcs hss
  obtain ⟨hd, rfl⟩ := zf_ok hf
  subst hn9
  subst hce
  subst hsl
  dsimp only at hcs hss hn
  refine va_newa (D := G.1) (atype := .int) (ty := .int) (a0 := (N, .inl fun _ => 0)) (N' := N) C.1 C.2.1 (C.2.2.2.2.2.2.1 _ hac) rfl hK hP hD hS hA (n := Int32.ofInt (N : Int)) (fun _ => rfl) (by rw [z_0, z_lt ⟨by omega, by omega⟩ z_r0]; omega) (by rw [z_clamp ⟨by omega, by omega⟩, Int.toNat_natCast]) (by simp [componentBytes]; omega) (by omega) (by omega) hd (fun q cA H1 hK1 hP1 hD1 hS1 => ?_)
  have hcA : cA = G.2.1 0 := Option.some.inj (((hK1.2 4 (cA, .int) rfl).2).symm.trans (hK.2 0 (G.2.1 0, .int) rfl).2)
  subst hcA
  have e9 : zW G (zAd ad sh.length q) (sh ++ [(1, N)], zcr rf sh.length, zci ia sh.length, w) = zW G ad (sh, rf, ia, w) ++ [(q, .inl (G.2.1 0, N, .inl fun _ => 0))] := by
    rw [zW_push (ad := ad) (lo := w.1) (da := w.2) zAd_lt hrf (fun j hj => zcr_lt hj) (fun j hj => zci_lt hj) (fun _ _ => rfl) (fun _ _ => rfl), zAd_n]
    congr 3
    unfold zE zci
    simp only [if_true]
    rfl
  have kk2 := kk p l e R s m args below meth cd C A hA hE hK ad0 n0 (zAd ad sh.length q) H1 locs (cells + 1) (slots + N) la (fun c hc => (zAd_lt c (by omega)).trans (ha c hc)) (by dsimp only; rw [List.length_append]; omega) (by rw [e9]; exact hP1) (by rw [e9]; exact hD1) hS1 (zL_ad zAd_lt h1l hl) (by dsimp only; omega) (by dsimp only; omega)
  rw [List.map_cons, zcs_ad zAd_lt h1s] at kk2
  have e8 : zc G (zAd ad sh.length q) (1, (sh.length : Int)) = .ref q := by
    show Value.ref (zAd ad sh.length q ((sh.length : Int)).toNat) = _
    rw [Int.toNat_natCast, zAd_n]
  rw [e8] at kk2
  exact kk2
theorem Ev.newaC {G : zG} {M : zM} {pc pc9 : Nat} {ls st : List zSV} {sh : List (Nat × Nat)} {rf : Nat → Nat → Option Nat} {ia : Nat → Int → Int} {w : (Nat → Int → Int) × (Nat → Int → Int)} {o : Option zSV ⊕ String} {h2 : zHp} {ce sl : Nat} (n N ce1 sl1 : Nat) (hn9 : sh.length = n) (hf : zf M pc = some (.newarray .char, 2, pc9)) (hac : Cond.arrayClass .char ∈ zT) (h1l : ls.all (zOk n) = true) (h1s : st.all (zOk n) = true) (hrf : zRfOk n rf = true) (hN : N ≤ 100000) (hce : ce1 + 1 = ce) (hsl : sl1 + N = sl)
    (kk : Ev G M pc9 ls ((1, (n : Int)) :: st) (sh ++ [(2, N)], zcr rf n, zci ia n, w) (o, h2, ce1, sl1)) : Ev G M pc ls ((0, (N : Int)) :: st) (sh, rf, ia, w) (o, h2, ce, sl) := by
  intro p l e R s m args below meth cd C A hA hE hK ad0 n0 ad H locs cells slots la ha hn hP hD hS hl hcs hss
  obtain ⟨hd, rfl⟩ := zf_ok hf
  subst hn9
  subst hce
  subst hsl
  dsimp only at hcs hss hn
  refine va_newa (D := G.1) (atype := .char) (ty := .char) (a0 := (N, .inl fun _ => 0)) (N' := N) C.1 C.2.1 (C.2.2.2.2.2.2.1 _ hac) rfl hK hP hD hS hA (n := Int32.ofInt (N : Int)) (fun _ => rfl) (by rw [z_0, z_lt ⟨by omega, by omega⟩ z_r0]; omega) (by rw [z_clamp ⟨by omega, by omega⟩, Int.toNat_natCast]) (by simp [componentBytes]; omega) (by omega) (by omega) hd (fun q cA H1 hK1 hP1 hD1 hS1 => ?_)
  have hcA : cA = G.2.1 1 := Option.some.inj (((hK1.2 4 (cA, .char) rfl).2).symm.trans (hK.2 1 (G.2.1 1, .char) rfl).2)
  subst hcA
  have e9 : zW G (zAd ad sh.length q) (sh ++ [(2, N)], zcr rf sh.length, zci ia sh.length, w) = zW G ad (sh, rf, ia, w) ++ [(q, .inl (G.2.1 1, N, .inl fun _ => 0))] := by
    rw [zW_push (ad := ad) (lo := w.1) (da := w.2) zAd_lt hrf (fun j hj => zcr_lt hj) (fun j hj => zci_lt hj) (fun _ _ => rfl) (fun _ _ => rfl), zAd_n]
    congr 3
    unfold zE zci
    simp only [if_true]
    rfl
  have kk2 := kk p l e R s m args below meth cd C A hA hE hK ad0 n0 (zAd ad sh.length q) H1 locs (cells + 1) (slots + N) la (fun c hc => (zAd_lt c (by omega)).trans (ha c hc)) (by dsimp only; rw [List.length_append]; omega) (by rw [e9]; exact hP1) (by rw [e9]; exact hD1) hS1 (zL_ad zAd_lt h1l hl) (by dsimp only; omega) (by dsimp only; omega)
  rw [List.map_cons, zcs_ad zAd_lt h1s] at kk2
  have e8 : zc G (zAd ad sh.length q) (1, (sh.length : Int)) = .ref q := by
    show Value.ref (zAd ad sh.length q ((sh.length : Int)).toNat) = _
    rw [Int.toNat_natCast, zAd_n]
  rw [e8] at kk2
  exact kk2
theorem Ev.newaL {G : zG} {M : zM} {pc pc9 : Nat} {ls st : List zSV} {sh : List (Nat × Nat)} {rf : Nat → Nat → Option Nat} {ia : Nat → Int → Int} {lo da : Nat → Int → Int} {o : Option zSV ⊕ String} {h2 : zHp} {ce sl : Nat} (n N ce1 sl1 : Nat) (hn9 : sh.length = n) (hf : zf M pc = some (.newarray .long, 2, pc9)) (hac : Cond.arrayClass .long ∈ zT) (h1l : ls.all (zOk n) = true) (h1s : st.all (zOk n) = true) (hrf : zRfOk n rf = true) (hN : N ≤ 100000) (hce : ce1 + 1 = ce) (hsl : sl1 + N = sl)
    (kk : Ev G M pc9 ls ((1, (n : Int)) :: st) (sh ++ [(3, N)], zcr rf n, zci ia n, (zci lo n, da)) (o, h2, ce1, sl1)) : Ev G M pc ls ((0, (N : Int)) :: st) (sh, rf, ia, lo, da) (o, h2, ce, sl) := by
  intro p l e R s m args below meth cd C A hA hE hK ad0 n0 ad H locs cells slots la ha hn hP hD hS hl hcs hss
  obtain ⟨hd, rfl⟩ := zf_ok hf
  subst hn9
  subst hce
  subst hsl
  dsimp only at hcs hss hn
  refine va_newa (D := G.1) (atype := .long) (ty := .long) (a0 := (N, .inr (.inl fun _ => 0))) (N' := N) C.1 C.2.1 (C.2.2.2.2.2.2.1 _ hac) rfl hK hP hD hS hA (n := Int32.ofInt (N : Int)) (fun _ => rfl) (by rw [z_0, z_lt ⟨by omega, by omega⟩ z_r0]; omega) (by rw [z_clamp ⟨by omega, by omega⟩, Int.toNat_natCast]) (by simp [componentBytes]; omega) (by omega) (by omega) hd (fun q cA H1 hK1 hP1 hD1 hS1 => ?_)
  have hcA : cA = G.2.1 2 := Option.some.inj (((hK1.2 4 (cA, .long) rfl).2).symm.trans (hK.2 2 (G.2.1 2, .long) rfl).2)
  subst hcA
  have e9 : zW G (zAd ad sh.length q) (sh ++ [(3, N)], zcr rf sh.length, zci ia sh.length, zci lo sh.length, da) = zW G ad (sh, rf, ia, lo, da) ++ [(q, .inl (G.2.1 2, N, .inr (.inl fun _ => 0)))] := by
    rw [zW_push (ad := ad) (lo := lo) (da := da) zAd_lt hrf (fun j hj => zcr_lt hj) (fun j hj => zci_lt hj) (fun j hj => zci_lt hj) (fun _ _ => rfl), zAd_n]
    congr 3
    unfold zE zci
    simp only [if_true]
    rfl
  have kk2 := kk p l e R s m args below meth cd C A hA hE hK ad0 n0 (zAd ad sh.length q) H1 locs (cells + 1) (slots + N) la (fun c hc => (zAd_lt c (by omega)).trans (ha c hc)) (by dsimp only; rw [List.length_append]; omega) (by rw [e9]; exact hP1) (by rw [e9]; exact hD1) hS1 (zL_ad zAd_lt h1l hl) (by dsimp only; omega) (by dsimp only; omega)
  rw [List.map_cons, zcs_ad zAd_lt h1s] at kk2
  have e8 : zc G (zAd ad sh.length q) (1, (sh.length : Int)) = .ref q := by
    show Value.ref (zAd ad sh.length q ((sh.length : Int)).toNat) = _
    rw [Int.toNat_natCast, zAd_n]
  rw [e8] at kk2
  exact kk2
theorem Ev.newaD {G : zG} {M : zM} {pc pc9 : Nat} {ls st : List zSV} {sh : List (Nat × Nat)} {rf : Nat → Nat → Option Nat} {ia : Nat → Int → Int} {lo da : Nat → Int → Int} {o : Option zSV ⊕ String} {h2 : zHp} {ce sl : Nat} (n N ce1 sl1 : Nat) (hn9 : sh.length = n) (hf : zf M pc = some (.newarray .double, 2, pc9)) (hac : Cond.arrayClass .double ∈ zT) (h1l : ls.all (zOk n) = true) (h1s : st.all (zOk n) = true) (hrf : zRfOk n rf = true) (hN : N ≤ 100000) (hce : ce1 + 1 = ce) (hsl : sl1 + N = sl)
    (kk : Ev G M pc9 ls ((1, (n : Int)) :: st) (sh ++ [(4, N)], zcr rf n, zci ia n, (lo, zci da n)) (o, h2, ce1, sl1)) : Ev G M pc ls ((0, (N : Int)) :: st) (sh, rf, ia, lo, da) (o, h2, ce, sl) := by
  intro p l e R s m args below meth cd C A hA hE hK ad0 n0 ad H locs cells slots la ha hn hP hD hS hl hcs hss
  obtain ⟨hd, rfl⟩ := zf_ok hf
  subst hn9
  subst hce
  subst hsl
  dsimp only at hcs hss hn
  refine va_newa (D := G.1) (atype := .double) (ty := .double) (a0 := (N, .inr (.inr (.inr (.inl fun _ => 0))))) (N' := N) C.1 C.2.1 (C.2.2.2.2.2.2.1 _ hac) rfl hK hP hD hS hA (n := Int32.ofInt (N : Int)) (fun _ => rfl) (by rw [z_0, z_lt ⟨by omega, by omega⟩ z_r0]; omega) (by rw [z_clamp ⟨by omega, by omega⟩, Int.toNat_natCast]) (by simp [componentBytes]; omega) (by omega) (by omega) hd (fun q cA H1 hK1 hP1 hD1 hS1 => ?_)
  have hcA : cA = G.2.1 3 := Option.some.inj (((hK1.2 4 (cA, .double) rfl).2).symm.trans (hK.2 3 (G.2.1 3, .double) rfl).2)
  subst hcA
  have e9 : zW G (zAd ad sh.length q) (sh ++ [(4, N)], zcr rf sh.length, zci ia sh.length, lo, zci da sh.length) = zW G ad (sh, rf, ia, lo, da) ++ [(q, .inl (G.2.1 3, N, .inr (.inr (.inr (.inl fun _ => 0)))))] := by
    rw [zW_push (ad := ad) (lo := lo) (da := da) zAd_lt hrf (fun j hj => zcr_lt hj) (fun j hj => zci_lt hj) (fun _ _ => rfl) (fun j hj => zci_lt hj), zAd_n]
    congr 3
    unfold zE zci
    simp only [if_true]
    rfl
  have kk2 := kk p l e R s m args below meth cd C A hA hE hK ad0 n0 (zAd ad sh.length q) H1 locs (cells + 1) (slots + N) la (fun c hc => (zAd_lt c (by omega)).trans (ha c hc)) (by dsimp only; rw [List.length_append]; omega) (by rw [e9]; exact hP1) (by rw [e9]; exact hD1) hS1 (zL_ad zAd_lt h1l hl) (by dsimp only; omega) (by dsimp only; omega)
  rw [List.map_cons, zcs_ad zAd_lt h1s] at kk2
  have e8 : zc G (zAd ad sh.length q) (1, (sh.length : Int)) = .ref q := by
    show Value.ref (zAd ad sh.length q ((sh.length : Int)).toNat) = _
    rw [Int.toNat_natCast, zAd_n]
  rw [e8] at kk2
  exact kk2
/-! CONTRACTS out of 'Ev' -/
def zWs (M : zM) : List Cond := Cond.code M.1 M.2.1 M.2.2.1 M.2.2.2.1 :: zT
def zWsH (M : zM) : List Cond := Cond.codeWith M.1 M.2.1 M.2.2.1 M.2.2.2.1 M.2.2.2.2.1 :: zT
def zRm (M : zM) (ce sl : Nat) : Room := { frames := M.2.2.2.2.2.1, cells := ce, slots := sl, locals := M.2.2.2.2.2.2 }
def zPre (G : zG) (ad : Nat → Nat) (h : zHp) (as : List zSV) (sz : Nat) : Array Value → State → Prop := va_Pc (as.map (zc G ad)) (fun U => U.heap.size = sz ∧ va_P G.1 vwCl (zW G ad h) U.heap ∧ va_K G.1 vwCl (zTys G) U ∧ va_D (fun _ => True) (zW G ad h) ∧ zEnv G (va_A (zW G ad h) sz) U U.heap)
theorem lg_len : ∀ (l : List Value), (∀ v ∈ l, v.category = 1) → (lg_sl l).length = l.length
  | [], _ => rfl
  | v :: l, h => by
    have h1 := h v List.mem_cons_self
    have h2 := lg_len l (fun w hw => h w (List.mem_cons_of_mem _ hw))
    show ((if v.category = 2 then [Slot.val v, .second] else [.val v]) ++ lg_sl l).length = _
    rw [if_neg (by omega), List.length_append, h2]
    simp [Nat.add_comm]
theorem lv_args_mem : ∀ (l : List Value) (i : Nat), (∀ v ∈ l, v.category = 1) → ∀ (k : Nat) (v : Value), l[k]? = some v → (i + k, v) ∈ lv_args i l
  | [], _, _, _, _, h => by simp at h
  | v :: l, i, hc, k, u, h => by
    have h1 := hc v List.mem_cons_self
    unfold lv_args
    rw [if_neg (by omega)]
    cases k with
    | zero =>
      cases h
      exact List.mem_cons_self
    | succ k =>
      rw [List.getElem?_cons_succ] at h
      have h2 := lv_args_mem l (i + 1) (fun w hw => hc w (List.mem_cons_of_mem _ hw)) k u h
      rw [show i + (k + 1) = i + 1 + k by omega]
      exact List.mem_cons_of_mem _ h2
/-- the locals at a method's entry -/
def zIn (as : List zSV) (maxL : Nat) : List zSV := as ++ List.replicate (maxL - as.length) (9, 0)
theorem zIn_has {G : zG} {ad : Nat → Nat} {as : List zSV} {maxL : Nat} (hc : as.all (fun v => zcat v == 1) = true) (hlen : as.length ≤ maxL) : lv_has ((lg_sl (as.map (zc G ad)) ++ List.replicate (maxL - (lg_sl (as.map (zc G ad))).length) Slot.unset).toArray) maxL (zL G ad (zIn as maxL)) := by
  have hc1 : ∀ v ∈ as.map (zc G ad), v.category = 1 := by
    intro v hv
    obtain ⟨u, h1, rfl⟩ := List.mem_map.mp hv
    rw [zcat_eq]
    simpa using List.all_eq_true.mp hc u h1
  have h1 := lg_len _ hc1
  rw [List.length_map] at h1
  have hl := lv_entry (as.map (zc G ad)) (n := maxL) (by omega)
  refine lv_less hl fun q hq => ?_
  obtain ⟨w, g1, g2, g3⟩ := zL_mem.mp hq
  have g4 : as[q.1]? = some w := by
    unfold zIn at g1
    by_cases hlt : q.1 < as.length
    · rwa [List.getElem?_append_left hlt] at g1
    · rw [List.getElem?_append_right (by omega), List.getElem?_replicate] at g1
      split at g1
      · cases g1
        exact absurd rfl g2
      · cases g1
  have g5 := lv_args_mem (as.map (zc G ad)) 0 hc1 q.1 (zc G ad w) (by rw [List.getElem?_map, g4]; rfl)
  rw [Nat.zero_add, ← g3] at g5
  exact g5
theorem zMetX {G : zG} {M : zM} {l : Launch} {h : zHp} {O : zO} {ad : Nat → Nat} {as : List zSV} {sz : Nat} (hy : plainName M.1.cls = true) (hh : M.2.2.2.2.1 = []) (hst : l.stackTraces = false) (hc : as.all (fun v => zcat v == 1) = true) (hlen : as.length ≤ M.2.2.1) (k : Ev G M 0 (zIn as M.2.2.1) [] h O) :
    vx_Met l M.1 (zWs M) (zRm M O.2.2.1 O.2.2.2) (zPre G ad h as sz) (zQ G (va_A (zW G ad h) sz) ad h.1.length O) (zX G (va_A (zW G ad h) sz) ad h.1.length O) O.2.2.1 O.2.2.2 (va_A (zW G ad h) sz) := by
  refine vx_ofW (cc := M.2.1) (maxL := M.2.2.1) (ret := M.2.2.2.1) hy rfl ?_
  intro p e s m args9 below meth cd s₁ B hml ht hv
  obtain ⟨rfl, hsz, hP, hK, hD0, hE⟩ := hv
  have hts := atoms_spec (ws := zWs M) B.pre
  subst hsz
  have hD := hD0.self (sz := s.heap.size)
  have htab : cd.exceptionTable.toList = tableOf M.2.2.2.2.1 := by
    rw [hh]
    cases hx : cd.exceptionTable.toList with
    | nil => rfl
    | cons x t => exact (ht x (by rw [hx]; exact List.mem_cons_self)).elim
  rw [lg_entry_eq]
  exact k p l e (zRm M O.2.2.1 O.2.2.2) s m _ below meth cd ⟨B.exec, B.bytes, hml, B.returns, findClass_of_methodNamed B.named, B.notSynchronized, fun w hw => hts w (List.mem_cons_of_mem _ hw), htab, hst, Nat.le_refl _, Nat.le_refl _, (name_of_methodNamed B.named B.method).1⟩ _ (fun q h => Or.inr h) hE hK ad h.1.length ad s.heap [] 0 0 _ (fun _ _ => rfl) (Nat.le_refl _) hP hD va_S.rf (zIn_has hc hlen) (by simp [zRm]) (by simp [zRm])
theorem zMetH {G : zG} {M : zM} {l : Launch} {h : zHp} {O : zO} {ad : Nat → Nat} {as : List zSV} {sz : Nat} (hy : plainName M.1.cls = true) (hst : l.stackTraces = false) (hc : as.all (fun v => zcat v == 1) = true) (hlen : as.length ≤ M.2.2.1) (k : Ev G M 0 (zIn as M.2.2.1) [] h O) :
    vx_Met l M.1 (zWsH M) (zRm M O.2.2.1 O.2.2.2) (zPre G ad h as sz) (zQ G (va_A (zW G ad h) sz) ad h.1.length O) (zX G (va_A (zW G ad h) sz) ad h.1.length O) O.2.2.1 O.2.2.2 (va_A (zW G ad h) sz) := by
  refine vx_ofWH (cc := M.2.1) (maxL := M.2.2.1) (ret := M.2.2.2.1) (hh := M.2.2.2.2.1) hy rfl ?_
  intro p e s m args9 below meth cd s₁ B hml hv
  obtain ⟨rfl, hsz, hP, hK, hD0, hE⟩ := hv
  have hts := atoms_spec (ws := zWsH M) B.pre
  subst hsz
  have hD := hD0.self (sz := s.heap.size)
  have htab : cd.exceptionTable.toList = tableOf M.2.2.2.2.1 := vx_table (x := M.1) B (hts _ List.mem_cons_self)
  rw [lg_entry_eq]
  exact k p l e (zRm M O.2.2.1 O.2.2.2) s m _ below meth cd ⟨B.exec, B.bytes, hml, B.returns, findClass_of_methodNamed B.named, B.notSynchronized, fun w hw => hts w (List.mem_cons_of_mem _ hw), htab, hst, Nat.le_refl _, Nat.le_refl _, (name_of_methodNamed B.named B.method).1⟩ _ (fun q h => Or.inr h) hE hK ad h.1.length ad s.heap [] 0 0 _ (fun _ _ => rfl) (Nat.le_refl _) hP hD va_S.rf (zIn_has hc hlen) (by simp [zRm]) (by simp [zRm])
theorem zMet_of {l : Launch} {y : MethodName} {ws : List Cond} {rm : Room} {Pc : Array Value → State → Prop} {Qc : Array Value → State → Outcome → State → Prop} {XC : String → State → State → Prop} {mc ms : Nat} {free : Addr → Prop} (h : vx_Met l y ws rm Pc Qc XC mc ms free) (hx : ∀ E st t, ¬ XC E st t) : Met l y ws rm Pc Qc mc ms free := by
  intro p e ha hc hk s m args below hf happ hP hK
  obtain ⟨n, o, h1, h2, h3, hQ⟩ := h p e ha hc hk s m args below hf happ hP hK
  refine ⟨n, o, h1, h2, h3, ?_⟩
  rcases hQ with hq | ⟨q, _, E, ce, L, hX, _⟩
  · exact hq
  · exact absurd hX (hx _ _ _)
theorem zX_no {G : zG} {A : Nat → Prop} {ad0 : Nat → Nat} {n0 : Nat} {v : Option zSV} {h : zHp} {ce sl : Nat} (E : String) (st t : State) : ¬ zX G A ad0 n0 (.inl v, h, ce, sl) E st t := by
  rintro ⟨⟨ad, h1, -⟩, -⟩
  cases h1
theorem zPre_blind {G : zG} {ad : Nat → Nat} {h : zHp} {as : List zSV} {sz : Nat} : FrameBlind (zPre G ad h as sz) := by
  intro a U g mk hq
  obtain ⟨q0, q1, qP, qK, qD, qE⟩ := hq
  exact ⟨q0, q1, qP, va_K.moved (u := U) (U := U.calling g mk a) (Vm.Alike.refl U.vm) qK, qD, qE.go (U := U.calling g mk a) (fun _ _ _ => rfl) (fun _ h => h) rfl (State.WarmedH.refl U)⟩
theorem zFree {A : Nat → Prop} {ws : va_W} {H0 H : Heap} {locs : List Loc} (hD : va_D A ws) (hS : va_S A H0 H locs) (hA : ∀ q, H0.size ≤ q → A q) : ∀ q, va_A ws H.size q → A q := fun q h => h.elim (fun ⟨k, e, hk⟩ => hD.2 k _ hk) (fun h => hA q (Nat.le_trans hS.1 h))
theorem zPre_at {G : zG} {ad : Nat → Nat} {h : zHp} {as : List zSV} {A : Nat → Prop} {s : State} {H : Heap} {locs : List Loc} (hA : ∀ q, s.heap.size ≤ q → A q) (hE : zEnv G A s s.heap) (hK : va_K G.1 vwCl (zTys G) s) (hP : va_P G.1 vwCl (zW G ad h) H) (hD : va_D A (zW G ad h)) (hS : va_S A s.heap H locs) : ∀ U : State, U.heap = H → s.WarmedH U.vm → zPre G ad h as H.size (as.map (zc G ad)).toArray U := fun U hU hW => ⟨rfl, by rw [hU], by rw [hU]; exact hP, va_K.moved hW.alike hK, hD.weaken (fun _ _ _ _ => trivial), hE.go hS.2.1 (zFree hD hS hA) hU hW⟩
section ZC
variable {p : Program} {l : Launch} {e : Env} {R : Room} {s : State} {m : MethodId} {args : Array Value} {below : List Frame} {meth : Method} {cd : Code} {H : Heap} {locs : List Loc} {cells slots : Nat} {Q : State → Prop}
variable {pc : Nat} {la : Array Slot} {rest st0 : List Value} {a : Array Value} {A0 A1 : Nat → Prop} {H0 : Heap} {mc ms : Nat} {G : zG} {ad : Nat → Nat} {n : Nat} {O : zO}
theorem zCall (hr : va_Run p l e R s m args below meth cd H locs cells slots mc ms (F0 m pc la st0) rest (zQ G A1 ad n O a) A1) (hS : va_S A0 H0 H locs) (hf : ∀ q, A1 q → A0 q)
    (kk : ∀ (v : Option zSV) (ad' : Nat → Nat) (H1 : Heap) (locs1 : List Loc), O.1 = .inl v → (∀ c, c < n → ad' c = ad c) → va_P G.1 vwCl (zW G ad' O.2.1) H1 → va_D A0 (zW G ad' O.2.1) → va_S A0 H0 H1 locs1 → W p l e R s m args below meth cd H1 locs1 (cells + mc) (slots + ms) Q (F0 m (pc + 3) la ((v.map (zc G ad')).toList ++ rest))) : W p l e R s m args below meth cd H locs cells slots Q (F0 m pc la st0) := by
  intro T hT X
  obtain ⟨v, st₀, t, T', L, h0, X', hL, e1, e2, ⟨⟨v9, ad9, hv1, hv2, hP9, hD9, had9⟩, hF⟩, st⟩ := hr T hT X
  cases hv2
  obtain ⟨k1, k2, k3⟩ := vx_keep h0 e1 hS (fun q _ h => hf q h) hf hL hF
  obtain ⟨t2, a1, b1⟩ := kk v9 ad9 T'.heap (locs ++ L) hv1 had9 (by rw [e1]; exact hP9) (hD9.weaken (fun _ _ _ h => hf _ h)) k3 T' rfl X'
  exact ⟨t2, st t2 a1, b1⟩
theorem zCallT {E : String} (hr : vx_Run p l e R s m args below meth cd H locs cells slots mc ms (F0 m pc la st0) rest (zQ G A1 ad n O a) (zX G A1 ad n O) A1) (hO : O.1 = .inr E) (hS : va_S A0 H0 H locs) (hf : ∀ q, A1 q → A0 q)
    (kx : ∀ (ce : Cell) (q9 : Addr) (ad' : Nat → Nat) (H1 : Heap) (locs1 : List Loc), (∀ c, c < n → ad' c = ad c) → va_P G.1 vwCl (zW G ad' O.2.1) H1 → va_D A0 (zW G ad' O.2.1) → va_S A0 H0 H1 locs1 → H1[q9]? = some ce → ce.vm = .none → s.vm.findClass E = some ce.cls → vx_W p l e R s m args below meth cd H1 locs1 (cells + mc) (slots + ms) Q (F0 m pc la rest) q9) : W p l e R s m args below meth cd H locs cells slots Q (F0 m pc la st0) := by
  intro T hT X
  rcases hr T hT X with ⟨v, st₀, t, T', L, h0, X', hL, e1, e2, ⟨⟨v9, ad9, hv1, -⟩, -⟩, st⟩ | ⟨q, st₀, t, T', L, E9, ce, h0, X', hL, e1, e2, ⟨⟨ad9, hv1, hP9, hD9, had9⟩, hF⟩, hce, hcv, hcl, st⟩
  · rw [hO] at hv1
    cases hv1
  · rw [hO] at hv1
    cases hv1
    obtain ⟨k1, k2, k3⟩ := vx_keep h0 e1 hS (fun q _ h => hf q h) hf hL hF
    obtain ⟨t2, a1, b1⟩ := kx ce q ad9 T'.heap (locs ++ L) had9 (by rw [e1]; exact hP9) (hD9.weaken (fun _ _ _ h => hf _ h)) k3 (by rw [e1]; exact hce) hcv hcl T' rfl X'
    exact ⟨t2, st.trans a1, b1⟩
end ZC
/-- a call's link: the callee's code, how many parameters, room -/
def zLk (M y : zM) (n : Nat) : Prop := Cond.initialized y.1.cls ∈ zT ∧ plainName y.1.cls = true ∧ (y.1.cls ≠ "java/lang/invoke/MethodHandle" ∧ y.1.cls ≠ "java/lang/invoke/VarHandle") ∧ (parseMethodDescriptor y.1.desc).map (fun d => d.parameters.length) = some n ∧ y.2.2.2.2.2.1 + 1 ≤ M.2.2.2.2.2.1 ∧ 8 + (y.2.2.1 + 11) + y.2.2.2.2.2.2 ≤ M.2.2.2.2.2.2
def zLkC (y : zM) : Prop := y.2.2.2.2.1 = [] ∧ Cond.code y.1 y.2.1 y.2.2.1 y.2.2.2.1 ∈ zT
def zLkV (M : zM) (idx : Nat) (y : zM) (n : Nat) : Prop := zLk M y n ∧ zLkC y ∧ Cond.methodLink M.1.cls idx y.1 ∈ zT ∧ Cond.instanceMethod y.1 ∈ zT ∧ Cond.selects y.1.cls y.1 y.1 ∈ zT
def zLkS (M : zM) (idx : Nat) (y : zM) (n : Nat) : Prop := zLk M y n ∧ zLkC y ∧ Cond.methodLink M.1.cls idx y.1 ∈ zT ∧ Cond.static y.1 ∈ zT
def zLkSN (M : zM) (idx : Nat) (y : zM) (n : Nat) : Prop := zLk M y n ∧ zLkC y ∧ (∃ host, Cond.methodLinkNest M.1.cls idx y.1 host ∈ zNw) ∧ Cond.static y.1 ∈ zT
def zLkI (M : zM) (idx : Nat) (y : zM) (n : Nat) : Prop := zLk M y n ∧ zLkC y ∧ Cond.methodLink M.1.cls idx y.1 ∈ zT ∧ Cond.instanceMethod y.1 ∈ zT ∧ y.1.name = "<init>" ∧ y.2.2.2.1 = none
def zLkIN (M : zM) (idx : Nat) (y : zM) (n : Nat) : Prop := zLk M y n ∧ zLkC y ∧ (∃ host, Cond.methodLinkNest M.1.cls idx y.1 host ∈ zNw) ∧ Cond.instanceMethod y.1 ∈ zT ∧ y.1.name = "<init>" ∧ y.2.2.2.1 = none
def zLkH (M : zM) (idx : Nat) (y : zM) (n : Nat) : Prop := zLk M y n ∧ Cond.codeWith y.1 y.2.1 y.2.2.1 y.2.2.2.1 y.2.2.2.2.1 ∈ zT ∧ Cond.methodLink M.1.cls idx y.1 ∈ zT ∧ Cond.static y.1 ∈ zT
theorem zWs_good {y : zM} {s : State} {args : Array Value} (hc : Cond.code y.1 y.2.1 y.2.2.1 y.2.2.2.1 ∈ zT) (hts : ∀ w ∈ zT, w.before args s = true) : ∀ w ∈ zWs y, ∀ (a' : Array Value) (U : State), s.WarmedH U.vm → w.before a' U = true := fun w hw a' U hW => by
  have h : w ∈ zT := (List.mem_cons.mp hw).elim (fun e => by rw [e]; exact hc) id
  exact word_at hW (good_of_word (zT_good h)) (hts w h)
theorem zWsH_good {y : zM} {s : State} {args : Array Value} (hc : Cond.codeWith y.1 y.2.1 y.2.2.1 y.2.2.2.1 y.2.2.2.2.1 ∈ zT) (hts : ∀ w ∈ zT, w.before args s = true) : ∀ w ∈ zWsH y, ∀ (a' : Array Value) (U : State), s.WarmedH U.vm → w.before a' U = true := fun w hw a' U hW => by
  have h : w ∈ zT := (List.mem_cons.mp hw).elim (fun e => by rw [e]; exact hc) id
  exact word_at hW (good_of_word (zT_good h)) (hts w h)
theorem zN_of {y : zM} {n : Nat} (h : (parseMethodDescriptor y.1.desc).map (fun d => d.parameters.length) = some n) : ∀ sig, parseMethodDescriptor y.1.desc = some sig → n = sig.parameters.length := fun sig h1 => by
  rw [h1] at h
  exact (Option.some.inj h).symm
theorem Ev.callV {G : zG} {M y : zM} {pc pc9 : Nat} {ls rest : List zSV} {sh sh1 : List (Nat × Nat)} {rf rf1 : Nat → Nat → Option Nat} {ia ia1 : Nat → Int → Int} {w w1 : (Nat → Int → Int) × (Nat → Int → Int)} {o : Option zSV ⊕ String} {h2 : zHp} {ce sl idx n : Nat} {v : Option zSV} {ce2 sl2 : Nat} (c : Nat) (ce1 sl1 : Nat) (as : List zSV) (hf : zf M pc = some (.invokevirtual idx, 3, pc9)) (hl9 : zLkV M idx y n) (hn9 : as.length = n) (ci : Nat) (TT : u_T) (NN : Nat) (hcl : vwCl[ci]? = some (y.1.cls, TT, NN)) (hc : sh[c]? = some (0, ci)) (hac : ((1, (c : Int)) :: as).all (fun v => zcat v == 1) = true) (hal : ((1, (c : Int)) :: as).length ≤ y.2.2.1) (hrc : (rest.map zcat).sum ≤ 8) (h1l : ls.all (zOk sh.length) = true) (h1r : rest.all (zOk sh.length) = true) (hgr : Nat.ble sh.length sh1.length = true) (hce : ce1 + ce2 = ce) (hsl : sl1 + sl2 = sl)
    (ev : Ev G y 0 (zIn ((1, (c : Int)) :: as) y.2.2.1) [] (sh, rf, ia, w) (.inl v, (sh1, rf1, ia1, w1), ce1, sl1)) (kk : Ev G M pc9 ls (v.toList ++ rest) (sh1, rf1, ia1, w1) (o, h2, ce2, sl2)) : Ev G M pc ls (as.reverse ++ (1, (c : Int)) :: rest) (sh, rf, ia, w) (o, h2, ce, sl) := by
  intro p l e R s m args below meth cd C A hA hE hK ad0 n0 ad H locs cells slots la ha hn hP hD hS hl hcs hss
  obtain ⟨hd, rfl⟩ := zf_ok hf
  subst hce
  subst hsl
  dsimp only at hcs hss hn
  obtain ⟨hini, hpl, hmh, hpar, hfr, hlo⟩ := hl9.1
  have hRun := va_runV (As := as.map (zc G ad)) (b := ad c) (rest := rest.map (zc G ad)) (g := F0 m pc la (List.map (zc G ad) (as.reverse ++ (1, (c : Int)) :: rest))) (R := R) (cells := cells) (slots := slots) (e := e) (below := below) (meth := meth) (locs := locs) (p := p) (H := H) ⟨C.1, C.2.1, C.2.2.1, C.2.2.2.2.1, C.2.2.2.2.2.2.1⟩ (zMet_of (zMetX (sz := H.size) (ad := ad) hpl hl9.2.1.1 C.2.2.2.2.2.2.2.2.1 hac hal ev) zX_no) (C := y.1.cls) ⟨⟨rfl, rfl, Nat.le_trans hfr C.2.2.2.2.2.2.2.2.2.1, Nat.le_trans hlo C.2.2.2.2.2.2.2.2.2.2.1, zWs_good hl9.2.1.2 C.2.2.2.2.2.2.1, List.mem_cons_self, C.2.2.2.2.2.2.1 _ hl9.2.1.2, C.2.2.2.2.2.2.1 _ hini, hmh, zN_of hpar, C.2.2.2.2.2.2.1 _ hl9.2.2.1⟩, C.2.2.2.2.2.2.1 _ hl9.2.2.2.1, C.2.2.2.2.2.2.1 _ hl9.2.2.2.2⟩ ⟨zPre_blind, va_recv (ci := ci) (q := (y.1.cls, TT, NN)) hK hP hcl (zW_obj hc), zPre_at hA hE hK hP hD hS⟩ rfl (by rw [List.length_map]; exact hn9) hl.1 (by show List.map (zc G ad) (as.reverse ++ (1, (c : Int)) :: rest) = (as.map (zc G ad)).reverse ++ .ref (ad c) :: rest.map (zc G ad); rw [List.map_append, List.map_reverse]; rfl) (lv_room (by rw [zcats]; exact hrc)) hd ⟨by dsimp only; omega, by dsimp only; omega⟩
  have hf9 := zFree hD hS hA
  refine zCall hRun hS hf9 (fun v9 ad9 H1 locs1 hv1 had9 hP9 hD9 hS9 => ?_)
  cases hv1
  have kk2 := kk p l e R s m args below meth cd C A hA hE hK ad0 n0 ad9 H1 locs1 (cells + ce1) (slots + sl1) la (fun c hc => (had9 c (Nat.lt_of_lt_of_le hc hn)).trans (ha c hc)) (by dsimp only; have := Nat.le_of_ble_eq_true hgr; omega) hP9 hD9 hS9 (zL_ad had9 h1l hl) (by dsimp only; omega) (by dsimp only; omega)
  rw [List.map_append, zcs_ad had9 h1r] at kk2
  have e8 : v.toList.map (zc G ad9) = (v.map (zc G ad9)).toList := by cases v <;> rfl
  rw [e8] at kk2
  exact kk2
theorem Ev.callS {G : zG} {M y : zM} {pc pc9 : Nat} {ls rest : List zSV} {sh sh1 : List (Nat × Nat)} {rf rf1 : Nat → Nat → Option Nat} {ia ia1 : Nat → Int → Int} {w w1 : (Nat → Int → Int) × (Nat → Int → Int)} {o : Option zSV ⊕ String} {h2 : zHp} {ce sl idx n : Nat} {v : Option zSV} {ce2 sl2 : Nat} (ce1 sl1 : Nat) (as : List zSV) (hf : zf M pc = some (.invokestatic idx, 3, pc9)) (hl9 : zLkS M idx y n) (hn9 : as.length = n) (hac : as.all (fun v => zcat v == 1) = true) (hal : as.length ≤ y.2.2.1) (hrc : (rest.map zcat).sum ≤ 8) (h1l : ls.all (zOk sh.length) = true) (h1r : rest.all (zOk sh.length) = true) (hgr : Nat.ble sh.length sh1.length = true) (hce : ce1 + ce2 = ce) (hsl : sl1 + sl2 = sl)
    (ev : Ev G y 0 (zIn as y.2.2.1) [] (sh, rf, ia, w) (.inl v, (sh1, rf1, ia1, w1), ce1, sl1)) (kk : Ev G M pc9 ls (v.toList ++ rest) (sh1, rf1, ia1, w1) (o, h2, ce2, sl2)) : Ev G M pc ls (as.reverse ++ rest) (sh, rf, ia, w) (o, h2, ce, sl) := by
  intro p l e R s m args below meth cd C A hA hE hK ad0 n0 ad H locs cells slots la ha hn hP hD hS hl hcs hss
  obtain ⟨hd, rfl⟩ := zf_ok hf
  subst hce
  subst hsl
  dsimp only at hcs hss hn
  obtain ⟨hini, hpl, hmh, hpar, hfr, hlo⟩ := hl9.1
  have hRun := va_runS (As := as.map (zc G ad)) (rest := rest.map (zc G ad)) (g := F0 m pc la (List.map (zc G ad) (as.reverse ++ rest))) (R := R) (cells := cells) (slots := slots) (e := e) (below := below) (meth := meth) (locs := locs) (p := p) (H := H) ⟨C.1, C.2.1, C.2.2.1, C.2.2.2.2.1, C.2.2.2.2.2.2.1⟩ (zMet_of (zMetX (sz := H.size) (ad := ad) hpl hl9.2.1.1 C.2.2.2.2.2.2.2.2.1 hac hal ev) zX_no) ⟨⟨rfl, rfl, Nat.le_trans hfr C.2.2.2.2.2.2.2.2.2.1, Nat.le_trans hlo C.2.2.2.2.2.2.2.2.2.2.1, zWs_good hl9.2.1.2 C.2.2.2.2.2.2.1, List.mem_cons_self, C.2.2.2.2.2.2.1 _ hl9.2.1.2, C.2.2.2.2.2.2.1 _ hini, hmh, zN_of hpar, C.2.2.2.2.2.2.1 _ hl9.2.2.1⟩, C.2.2.2.2.2.2.1 _ hl9.2.2.2⟩ ⟨zPre_blind, zPre_at hA hE hK hP hD hS⟩ rfl (by rw [List.length_map]; exact hn9) hl.1 (by show List.map (zc G ad) (as.reverse ++ rest) = (as.map (zc G ad)).reverse ++ rest.map (zc G ad); rw [List.map_append, List.map_reverse]) (lv_room (by rw [zcats]; exact hrc)) hd ⟨by dsimp only; omega, by dsimp only; omega⟩
  have hf9 := zFree hD hS hA
  refine zCall hRun hS hf9 (fun v9 ad9 H1 locs1 hv1 had9 hP9 hD9 hS9 => ?_)
  cases hv1
  have kk2 := kk p l e R s m args below meth cd C A hA hE hK ad0 n0 ad9 H1 locs1 (cells + ce1) (slots + sl1) la (fun c hc => (had9 c (Nat.lt_of_lt_of_le hc hn)).trans (ha c hc)) (by dsimp only; have := Nat.le_of_ble_eq_true hgr; omega) hP9 hD9 hS9 (zL_ad had9 h1l hl) (by dsimp only; omega) (by dsimp only; omega)
  rw [List.map_append, zcs_ad had9 h1r] at kk2
  have e8 : v.toList.map (zc G ad9) = (v.map (zc G ad9)).toList := by cases v <;> rfl
  rw [e8] at kk2
  exact kk2
theorem Ev.callSN {G : zG} {M y : zM} {pc pc9 : Nat} {ls rest : List zSV} {sh sh1 : List (Nat × Nat)} {rf rf1 : Nat → Nat → Option Nat} {ia ia1 : Nat → Int → Int} {w w1 : (Nat → Int → Int) × (Nat → Int → Int)} {o : Option zSV ⊕ String} {h2 : zHp} {ce sl idx n : Nat} {v : Option zSV} {ce2 sl2 : Nat} (ce1 sl1 : Nat) (as : List zSV) (hf : zf M pc = some (.invokestatic idx, 3, pc9)) (hl9 : zLkSN M idx y n) (hn9 : as.length = n) (hac : as.all (fun v => zcat v == 1) = true) (hal : as.length ≤ y.2.2.1) (hrc : (rest.map zcat).sum ≤ 8) (h1l : ls.all (zOk sh.length) = true) (h1r : rest.all (zOk sh.length) = true) (hgr : Nat.ble sh.length sh1.length = true) (hce : ce1 + ce2 = ce) (hsl : sl1 + sl2 = sl)
    (ev : Ev G y 0 (zIn as y.2.2.1) [] (sh, rf, ia, w) (.inl v, (sh1, rf1, ia1, w1), ce1, sl1)) (kk : Ev G M pc9 ls (v.toList ++ rest) (sh1, rf1, ia1, w1) (o, h2, ce2, sl2)) : Ev G M pc ls (as.reverse ++ rest) (sh, rf, ia, w) (o, h2, ce, sl) := by
  intro p l e R s m args below meth cd C A hA hE hK ad0 n0 ad H locs cells slots la ha hn hP hD hS hl hcs hss
  obtain ⟨hd, rfl⟩ := zf_ok hf
  subst hce
  subst hsl
  dsimp only at hcs hss hn
  obtain ⟨hini, hpl, hmh, hpar, hfr, hlo⟩ := hl9.1
  obtain ⟨host, hnst⟩ := hl9.2.2.1
  have hRun := va_runSN (As := as.map (zc G ad)) (rest := rest.map (zc G ad)) (g := F0 m pc la (List.map (zc G ad) (as.reverse ++ rest))) (R := R) (cells := cells) (slots := slots) (e := e) (below := below) (meth := meth) (locs := locs) (p := p) (H := H) ⟨C.1, C.2.1, C.2.2.1, C.2.2.2.2.1, C.2.2.2.2.2.2.1⟩ (zMet_of (zMetX (sz := H.size) (ad := ad) hpl hl9.2.1.1 C.2.2.2.2.2.2.2.2.1 hac hal ev) zX_no) ⟨⟨⟨rfl, rfl, Nat.le_trans hfr C.2.2.2.2.2.2.2.2.2.1, Nat.le_trans hlo C.2.2.2.2.2.2.2.2.2.2.1, zWs_good hl9.2.1.2 C.2.2.2.2.2.2.1, List.mem_cons_self⟩, C.2.2.2.2.2.2.1 _ hl9.2.1.2, C.2.2.2.2.2.2.1 _ hini, hmh, zN_of hpar, va_Nw.use rfl (hE.1 _ hnst)⟩, C.2.2.2.2.2.2.1 _ hl9.2.2.2, trivial⟩ ⟨zPre_blind, zPre_at hA hE hK hP hD hS⟩ rfl (by rw [List.length_map]; exact hn9) hl.1 (by show List.map (zc G ad) (as.reverse ++ rest) = (as.map (zc G ad)).reverse ++ rest.map (zc G ad); rw [List.map_append, List.map_reverse]) (lv_room (by rw [zcats]; exact hrc)) hd ⟨by dsimp only; omega, by dsimp only; omega⟩
  have hf9 := zFree hD hS hA
  refine zCall hRun hS hf9 (fun v9 ad9 H1 locs1 hv1 had9 hP9 hD9 hS9 => ?_)
  cases hv1
  have kk2 := kk p l e R s m args below meth cd C A hA hE hK ad0 n0 ad9 H1 locs1 (cells + ce1) (slots + sl1) la (fun c hc => (had9 c (Nat.lt_of_lt_of_le hc hn)).trans (ha c hc)) (by dsimp only; have := Nat.le_of_ble_eq_true hgr; omega) hP9 hD9 hS9 (zL_ad had9 h1l hl) (by dsimp only; omega) (by dsimp only; omega)
  rw [List.map_append, zcs_ad had9 h1r] at kk2
  have e8 : v.toList.map (zc G ad9) = (v.map (zc G ad9)).toList := by cases v <;> rfl
  rw [e8] at kk2
  exact kk2
theorem Ev.callI {G : zG} {M y : zM} {pc pc9 : Nat} {ls rest : List zSV} {sh sh1 : List (Nat × Nat)} {rf rf1 : Nat → Nat → Option Nat} {ia ia1 : Nat → Int → Int} {w w1 : (Nat → Int → Int) × (Nat → Int → Int)} {o : Option zSV ⊕ String} {h2 : zHp} {ce sl idx n : Nat} {v : Option zSV} {ce2 sl2 : Nat} (c : Nat) (ce1 sl1 : Nat) (as : List zSV) (hf : zf M pc = some (.invokespecial idx, 3, pc9)) (hl9 : zLkI M idx y n) (hn9 : as.length = n) (hac : ((1, (c : Int)) :: as).all (fun v => zcat v == 1) = true) (hal : ((1, (c : Int)) :: as).length ≤ y.2.2.1) (hrc : (rest.map zcat).sum ≤ 8) (h1l : ls.all (zOk sh.length) = true) (h1r : rest.all (zOk sh.length) = true) (hgr : Nat.ble sh.length sh1.length = true) (hce : ce1 + ce2 = ce) (hsl : sl1 + sl2 = sl)
    (ev : Ev G y 0 (zIn ((1, (c : Int)) :: as) y.2.2.1) [] (sh, rf, ia, w) (.inl v, (sh1, rf1, ia1, w1), ce1, sl1)) (kk : Ev G M pc9 ls (v.toList ++ rest) (sh1, rf1, ia1, w1) (o, h2, ce2, sl2)) : Ev G M pc ls (as.reverse ++ (1, (c : Int)) :: rest) (sh, rf, ia, w) (o, h2, ce, sl) := by
  intro p l e R s m args below meth cd C A hA hE hK ad0 n0 ad H locs cells slots la ha hn hP hD hS hl hcs hss
  obtain ⟨hd, rfl⟩ := zf_ok hf
  subst hce
  subst hsl
  dsimp only at hcs hss hn
  obtain ⟨hini, hpl, hmh, hpar, hfr, hlo⟩ := hl9.1
  have hrn := hl9.2.2.2.2.2
  have hcb := hl9.2.1.2
  have hgd := zWs_good hcb C.2.2.2.2.2.2.1
  have hin0 : Cond.code y.1 y.2.1 y.2.2.1 y.2.2.2.1 ∈ zWs y := List.mem_cons_self
  have hcb2 := C.2.2.2.2.2.2.1 _ hcb
  rw [hrn] at hin0 hcb2
  have hRun := va_runI (As := as.map (zc G ad)) (b := ad c) (rest := rest.map (zc G ad)) (g := F0 m pc la (List.map (zc G ad) (as.reverse ++ (1, (c : Int)) :: rest))) (R := R) (cells := cells) (slots := slots) (e := e) (below := below) (meth := meth) (locs := locs) (p := p) (H := H) ⟨C.1, C.2.1, C.2.2.1, C.2.2.2.2.1, C.2.2.2.2.2.2.1⟩ (zMet_of (zMetX (sz := H.size) (ad := ad) hpl hl9.2.1.1 C.2.2.2.2.2.2.2.2.1 hac hal ev) zX_no) ⟨⟨rfl, rfl, Nat.le_trans hfr C.2.2.2.2.2.2.2.2.2.1, Nat.le_trans hlo C.2.2.2.2.2.2.2.2.2.2.1, hgd, hin0, hcb2, C.2.2.2.2.2.2.1 _ hini, hmh, zN_of hpar, C.2.2.2.2.2.2.1 _ hl9.2.2.1⟩, hl9.2.2.2.2.1, C.2.2.2.2.2.2.1 _ hl9.2.2.2.1⟩ ⟨zPre_blind, zPre_at hA hE hK hP hD hS⟩ rfl (by rw [List.length_map]; exact hn9) hl.1 (by show List.map (zc G ad) (as.reverse ++ (1, (c : Int)) :: rest) = (as.map (zc G ad)).reverse ++ .ref (ad c) :: rest.map (zc G ad); rw [List.map_append, List.map_reverse]; rfl) (lv_room (by rw [zcats]; exact hrc)) hd ⟨by dsimp only; omega, by dsimp only; omega⟩
  have hf9 := zFree hD hS hA
  refine zCall hRun hS hf9 (fun v9 ad9 H1 locs1 hv1 had9 hP9 hD9 hS9 => ?_)
  cases hv1
  have kk2 := kk p l e R s m args below meth cd C A hA hE hK ad0 n0 ad9 H1 locs1 (cells + ce1) (slots + sl1) la (fun c hc => (had9 c (Nat.lt_of_lt_of_le hc hn)).trans (ha c hc)) (by dsimp only; have := Nat.le_of_ble_eq_true hgr; omega) hP9 hD9 hS9 (zL_ad had9 h1l hl) (by dsimp only; omega) (by dsimp only; omega)
  rw [List.map_append, zcs_ad had9 h1r] at kk2
  have e8 : v.toList.map (zc G ad9) = (v.map (zc G ad9)).toList := by cases v <;> rfl
  rw [e8] at kk2
  exact kk2
theorem Ev.callIN {G : zG} {M y : zM} {pc pc9 : Nat} {ls rest : List zSV} {sh sh1 : List (Nat × Nat)} {rf rf1 : Nat → Nat → Option Nat} {ia ia1 : Nat → Int → Int} {w w1 : (Nat → Int → Int) × (Nat → Int → Int)} {o : Option zSV ⊕ String} {h2 : zHp} {ce sl idx n : Nat} {v : Option zSV} {ce2 sl2 : Nat} (c : Nat) (ce1 sl1 : Nat) (as : List zSV) (hf : zf M pc = some (.invokespecial idx, 3, pc9)) (hl9 : zLkIN M idx y n) (hn9 : as.length = n) (hac : ((1, (c : Int)) :: as).all (fun v => zcat v == 1) = true) (hal : ((1, (c : Int)) :: as).length ≤ y.2.2.1) (hrc : (rest.map zcat).sum ≤ 8) (h1l : ls.all (zOk sh.length) = true) (h1r : rest.all (zOk sh.length) = true) (hgr : Nat.ble sh.length sh1.length = true) (hce : ce1 + ce2 = ce) (hsl : sl1 + sl2 = sl)
    (ev : Ev G y 0 (zIn ((1, (c : Int)) :: as) y.2.2.1) [] (sh, rf, ia, w) (.inl v, (sh1, rf1, ia1, w1), ce1, sl1)) (kk : Ev G M pc9 ls (v.toList ++ rest) (sh1, rf1, ia1, w1) (o, h2, ce2, sl2)) : Ev G M pc ls (as.reverse ++ (1, (c : Int)) :: rest) (sh, rf, ia, w) (o, h2, ce, sl) := by
  intro p l e R s m args below meth cd C A hA hE hK ad0 n0 ad H locs cells slots la ha hn hP hD hS hl hcs hss
  obtain ⟨hd, rfl⟩ := zf_ok hf
  subst hce
  subst hsl
  dsimp only at hcs hss hn
  obtain ⟨hini, hpl, hmh, hpar, hfr, hlo⟩ := hl9.1
  obtain ⟨host, hnst⟩ := hl9.2.2.1
  have hrn := hl9.2.2.2.2.2
  have hcb := hl9.2.1.2
  have hgd := zWs_good hcb C.2.2.2.2.2.2.1
  have hin0 : Cond.code y.1 y.2.1 y.2.2.1 y.2.2.2.1 ∈ zWs y := List.mem_cons_self
  have hcb2 := C.2.2.2.2.2.2.1 _ hcb
  rw [hrn] at hin0 hcb2
  have hRun := va_runIN (As := as.map (zc G ad)) (b := ad c) (rest := rest.map (zc G ad)) (g := F0 m pc la (List.map (zc G ad) (as.reverse ++ (1, (c : Int)) :: rest))) (R := R) (cells := cells) (slots := slots) (e := e) (below := below) (meth := meth) (locs := locs) (p := p) (H := H) ⟨C.1, C.2.1, C.2.2.1, C.2.2.2.2.1, C.2.2.2.2.2.2.1⟩ (zMet_of (zMetX (sz := H.size) (ad := ad) hpl hl9.2.1.1 C.2.2.2.2.2.2.2.2.1 hac hal ev) zX_no) ⟨⟨⟨rfl, rfl, Nat.le_trans hfr C.2.2.2.2.2.2.2.2.2.1, Nat.le_trans hlo C.2.2.2.2.2.2.2.2.2.2.1, hgd, hin0⟩, hcb2, C.2.2.2.2.2.2.1 _ hini, hmh, zN_of hpar, va_Nw.use rfl (hE.1 _ hnst)⟩, hl9.2.2.2.2.1, C.2.2.2.2.2.2.1 _ hl9.2.2.2.1⟩ ⟨zPre_blind, zPre_at hA hE hK hP hD hS⟩ rfl (by rw [List.length_map]; exact hn9) hl.1 (by show List.map (zc G ad) (as.reverse ++ (1, (c : Int)) :: rest) = (as.map (zc G ad)).reverse ++ .ref (ad c) :: rest.map (zc G ad); rw [List.map_append, List.map_reverse]; rfl) (lv_room (by rw [zcats]; exact hrc)) hd ⟨by dsimp only; omega, by dsimp only; omega⟩
  have hf9 := zFree hD hS hA
  refine zCall hRun hS hf9 (fun v9 ad9 H1 locs1 hv1 had9 hP9 hD9 hS9 => ?_)
  cases hv1
  have kk2 := kk p l e R s m args below meth cd C A hA hE hK ad0 n0 ad9 H1 locs1 (cells + ce1) (slots + sl1) la (fun c hc => (had9 c (Nat.lt_of_lt_of_le hc hn)).trans (ha c hc)) (by dsimp only; have := Nat.le_of_ble_eq_true hgr; omega) hP9 hD9 hS9 (zL_ad had9 h1l hl) (by dsimp only; omega) (by dsimp only; omega)
  rw [List.map_append, zcs_ad had9 h1r] at kk2
  have e8 : v.toList.map (zc G ad9) = (v.map (zc G ad9)).toList := by cases v <;> rfl
  rw [e8] at kk2
  exact kk2
theorem Ev.callH {G : zG} {M y : zM} {pc pc9 : Nat} {ls rest : List zSV} {sh sh1 : List (Nat × Nat)} {rf rf1 : Nat → Nat → Option Nat} {ia ia1 : Nat → Int → Int} {w w1 : (Nat → Int → Int) × (Nat → Int → Int)} {o : Option zSV ⊕ String} {h2 : zHp} {ce sl idx n : Nat} {v : Option zSV} {ce2 sl2 : Nat} (ce1 sl1 : Nat) (as : List zSV) (hf : zf M pc = some (.invokestatic idx, 3, pc9)) (hl9 : zLkH M idx y n) (hn9 : as.length = n) (hac : as.all (fun v => zcat v == 1) = true) (hal : as.length ≤ y.2.2.1) (hrc : (rest.map zcat).sum ≤ 8) (h1l : ls.all (zOk sh.length) = true) (h1r : rest.all (zOk sh.length) = true) (hgr : Nat.ble sh.length sh1.length = true) (hce : ce1 + ce2 = ce) (hsl : sl1 + sl2 = sl)
    (ev : Ev G y 0 (zIn as y.2.2.1) [] (sh, rf, ia, w) (.inl v, (sh1, rf1, ia1, w1), ce1, sl1)) (kk : Ev G M pc9 ls (v.toList ++ rest) (sh1, rf1, ia1, w1) (o, h2, ce2, sl2)) : Ev G M pc ls (as.reverse ++ rest) (sh, rf, ia, w) (o, h2, ce, sl) := by
  intro p l e R s m args below meth cd C A hA hE hK ad0 n0 ad H locs cells slots la ha hn hP hD hS hl hcs hss
  obtain ⟨hd, rfl⟩ := zf_ok hf
  subst hce
  subst hsl
  dsimp only at hcs hss hn
  obtain ⟨hini, hpl, hmh, hpar, hfr, hlo⟩ := hl9.1
  have hRun := vx_runSW (hh := y.2.2.2.2.1) (As := as.map (zc G ad)) (rest := rest.map (zc G ad)) (g := F0 m pc la (List.map (zc G ad) (as.reverse ++ rest))) (R := R) (cells := cells) (slots := slots) (e := e) (below := below) (meth := meth) (locs := locs) (p := p) (H := H) ⟨C.1, C.2.1, C.2.2.1, C.2.2.2.2.1, C.2.2.2.2.2.2.1⟩ (zMet_of (zMetH (sz := H.size) (ad := ad) hpl C.2.2.2.2.2.2.2.2.1 hac hal ev) zX_no) ⟨⟨rfl, rfl, Nat.le_trans hfr C.2.2.2.2.2.2.2.2.2.1, Nat.le_trans hlo C.2.2.2.2.2.2.2.2.2.2.1, zWsH_good hl9.2.1 C.2.2.2.2.2.2.1, List.mem_cons_self⟩, C.2.2.2.2.2.2.1 _ hl9.2.1, C.2.2.2.2.2.2.1 _ hini, hmh, zN_of hpar, C.2.2.2.2.2.2.1 _ hl9.2.2.1, C.2.2.2.2.2.2.1 _ hl9.2.2.2⟩ ⟨zPre_blind, zPre_at hA hE hK hP hD hS⟩ rfl (by rw [List.length_map]; exact hn9) hl.1 (by show List.map (zc G ad) (as.reverse ++ rest) = (as.map (zc G ad)).reverse ++ rest.map (zc G ad); rw [List.map_append, List.map_reverse]) (lv_room (by rw [zcats]; exact hrc)) hd ⟨by dsimp only; omega, by dsimp only; omega⟩
  have hf9 := zFree hD hS hA
  refine zCall hRun hS hf9 (fun v9 ad9 H1 locs1 hv1 had9 hP9 hD9 hS9 => ?_)
  cases hv1
  have kk2 := kk p l e R s m args below meth cd C A hA hE hK ad0 n0 ad9 H1 locs1 (cells + ce1) (slots + sl1) la (fun c hc => (had9 c (Nat.lt_of_lt_of_le hc hn)).trans (ha c hc)) (by dsimp only; have := Nat.le_of_ble_eq_true hgr; omega) hP9 hD9 hS9 (zL_ad had9 h1l hl) (by dsimp only; omega) (by dsimp only; omega)
  rw [List.map_append, zcs_ad had9 h1r] at kk2
  have e8 : v.toList.map (zc G ad9) = (v.map (zc G ad9)).toList := by cases v <;> rfl
  rw [e8] at kk2
  exact kk2
end
section
/-! THROWS, THEIR PASSING ON, THEIR CATCHING; TEXT CONSTANTS; FLOATS (printed by wip/whole/gen/sim5.py) -/
def zEx : List String := ["java/lang/RuntimeException", "java/lang/Exception"]
/-- 'new E("..")' in the code of M -/
def zTh (M : zM) (ik ic : Nat) (cls : String) : Prop := Bundle.fit cls = true ∧ Cond.classLink M.1.cls ik cls ∈ zT ∧ Cond.initialized cls ∈ zT ∧ (∀ w ∈ (vx_atS M.1.cls ic cls zEx).filter goodWord, w ∈ zT) ∧ (∀ w ∈ (vx_atS M.1.cls ic cls zEx).filter (fun w => !goodWord w), w ∈ zNw) ∧ (∀ w ∈ Cond.classLink M.1.cls ik cls :: Cond.initialized cls :: vx_atS M.1.cls ic cls zEx, vx_ot w = true)
theorem zEx_fit : ∀ n ∈ zEx, Bundle.fit n = true := by decide +kernel
theorem zNw_ot {w : Cond} (h : w ∈ zNw) : w.onTables = true := by
  have h1 := (List.mem_filter.mp h).2
  cases w <;> first | rfl | (cases h1)
theorem Ev.throw {G : zG} {M : zM} {pc pc9 : Nat} {ls st : List zSV} {sh : List (Nat × Nat)} {rf : Nat → Nat → Option Nat} {ia : Nat → Int → Int} {w : (Nat → Int → Int) × (Nat → Int → Int)} {p1 p2 p3 p4 p5 ik ic is : Nat} {cls tx : String} (i : Nat) (hl9 : zTh M ik ic cls) (f0 : zf M pc = some (.new ik, 3, p1)) (f1 : zf M p1 = some (.dup, 1, p2)) (f2 : zf M p2 = some (.ldc is, 2, p3)) (f3 : zf M p3 = some (.invokespecial ic, 3, p4)) (f4 : zf M p4 = some (.athrow, 1, p5)) (hs9 : zSK[i]? = some (M.1.cls, is, tx)) (hh : M.2.2.2.2.1 = []) (hfr : 6 ≤ M.2.2.2.2.2.1) (hlo : (st.map zcat).sum + 82 ≤ M.2.2.2.2.2.2) :
    Ev G M pc ls st (sh, rf, ia, w) (.inr cls, (sh, rf, ia, w), 1, 6) := by
  intro p l e R s m args below meth cd C A hA hE hK ad0 n0 ad H locs cells slots la ha hn hP hD hS hl hcs hss
  obtain ⟨d0, rfl⟩ := zf_ok f0
  obtain ⟨d1, rfl⟩ := zf_ok f1
  obtain ⟨d2, rfl⟩ := zf_ok f2
  obtain ⟨d3, rfl⟩ := zf_ok f3
  obtain ⟨d4, rfl⟩ := zf_ok f4
  obtain ⟨hfit, hk, hini, hg1, hg2, hgood⟩ := hl9
  have hts := C.2.2.2.2.2.2.1
  have hat : ∀ w ∈ vx_atS M.1.cls ic cls zEx, w.before args s = true := vx_hat (B := zNw) (fun w hw => hts w (hg1 w hw)) hg2 (fun w hw => va_Nw.use (zNw_ot hw) (hE.1 w hw))
  refine vx_throwS (names := zEx) (A := A) (own := M.1.cls) (cls := cls) (text := tx) (sa := G.2.2.1 i) C.1 C.2.1 C.2.2.2.2.2.2.2.2.1 C.2.2.2.2.1 hfit zEx_fit (hts _ hk) (hts _ hini) (hE.2.2.1 i _ hs9) hat hgood hE.2.2.2.1 hE.2.2.2.2.1 hS (hl.1.trans C.2.2.1.symm) d0 d1 d2 d3 d4 (fun x hx => ?_) (Nat.lt_of_lt_of_le hfr C.2.2.2.2.2.2.2.2.2.1) (by rw [zcats]; exact Nat.le_trans hlo C.2.2.2.2.2.2.2.2.2.2.1) hcs hss C.2.2.2.2.2.1 (fun t hal hsz hq => ?_) hS.2.2 hcs hss
  · rw [C.2.2.2.2.2.2.2.1, hh] at hx
    cases hx
  · exact ⟨⟨ad, rfl, hP.kept (fun k q hk => hq _ (vx_lt hP hk)), hD, ha⟩, Nat.le_trans hS.1 hsz, fun q h1 h2 => (hq q (Nat.lt_of_lt_of_le h1 hS.1)).trans (hS.2.1 q h1 h2)⟩
theorem Ev.throwW {G : zG} {M : zM} {pc pc9 : Nat} {ls st : List zSV} {sh : List (Nat × Nat)} {rf : Nat → Nat → Option Nat} {ia : Nat → Int → Int} {w : (Nat → Int → Int) × (Nat → Int → Int)} {p1 p2 p3 p4 p5 ik ic is : Nat} {cls tx : String} (i : Nat) (hl9 : zTh M ik ic cls) (f0 : zf M pc = some (.new ik, 3, p1)) (f1 : zf M p1 = some (.dup, 1, p2)) (f2 : zf M p2 = some (.ldc_w is, 3, p3)) (f3 : zf M p3 = some (.invokespecial ic, 3, p4)) (f4 : zf M p4 = some (.athrow, 1, p5)) (hs9 : zSK[i]? = some (M.1.cls, is, tx)) (hh : M.2.2.2.2.1 = []) (hfr : 6 ≤ M.2.2.2.2.2.1) (hlo : (st.map zcat).sum + 82 ≤ M.2.2.2.2.2.2) :
    Ev G M pc ls st (sh, rf, ia, w) (.inr cls, (sh, rf, ia, w), 1, 6) := by
  intro p l e R s m args below meth cd C A hA hE hK ad0 n0 ad H locs cells slots la ha hn hP hD hS hl hcs hss
  obtain ⟨d0, rfl⟩ := zf_ok f0
  obtain ⟨d1, rfl⟩ := zf_ok f1
  obtain ⟨d2, rfl⟩ := zf_ok f2
  obtain ⟨d3, rfl⟩ := zf_ok f3
  obtain ⟨d4, rfl⟩ := zf_ok f4
  obtain ⟨hfit, hk, hini, hg1, hg2, hgood⟩ := hl9
  have hts := C.2.2.2.2.2.2.1
  have hat : ∀ w ∈ vx_atS M.1.cls ic cls zEx, w.before args s = true := vx_hat (B := zNw) (fun w hw => hts w (hg1 w hw)) hg2 (fun w hw => va_Nw.use (zNw_ot hw) (hE.1 w hw))
  refine vx_throwSW (names := zEx) (A := A) (own := M.1.cls) (cls := cls) (text := tx) (sa := G.2.2.1 i) C.1 C.2.1 C.2.2.2.2.2.2.2.2.1 C.2.2.2.2.1 hfit zEx_fit (hts _ hk) (hts _ hini) (hE.2.2.1 i _ hs9) hat hgood hE.2.2.2.1 hE.2.2.2.2.1 hS (hl.1.trans C.2.2.1.symm) d0 d1 d2 d3 d4 (fun x hx => ?_) (Nat.lt_of_lt_of_le hfr C.2.2.2.2.2.2.2.2.2.1) (by rw [zcats]; exact Nat.le_trans hlo C.2.2.2.2.2.2.2.2.2.2.1) hcs hss C.2.2.2.2.2.1 (fun t hal hsz hq => ?_) hS.2.2 hcs hss
  · rw [C.2.2.2.2.2.2.2.1, hh] at hx
    cases hx
  · exact ⟨⟨ad, rfl, hP.kept (fun k q hk => hq _ (vx_lt hP hk)), hD, ha⟩, Nat.le_trans hS.1 hsz, fun q h1 h2 => (hq q (Nat.lt_of_lt_of_le h1 hS.1)).trans (hS.2.1 q h1 h2)⟩
theorem Ev.passV {G : zG} {M y : zM} {pc pc9 : Nat} {ls rest : List zSV} {sh sh1 : List (Nat × Nat)} {rf rf1 : Nat → Nat → Option Nat} {ia ia1 : Nat → Int → Int} {w w1 : (Nat → Int → Int) × (Nat → Int → Int)} {ce sl idx n : Nat} {E : String} (c : Nat) (as : List zSV) (hf : zf M pc = some (.invokevirtual idx, 3, pc9)) (hl9 : zLkV M idx y n) (hn9 : as.length = n) (ci : Nat) (TT : u_T) (NN : Nat) (hcl : vwCl[ci]? = some (y.1.cls, TT, NN)) (hc : sh[c]? = some (0, ci)) (hac : ((1, (c : Int)) :: as).all (fun v => zcat v == 1) = true) (hal : ((1, (c : Int)) :: as).length ≤ y.2.2.1) (hrc : (rest.map zcat).sum ≤ 8) (hgr : Nat.ble sh.length sh1.length = true) (hh : M.2.2.2.2.1 = []) 
    (ev : Ev G y 0 (zIn ((1, (c : Int)) :: as) y.2.2.1) [] (sh, rf, ia, w) (.inr E, (sh1, rf1, ia1, w1), ce, sl)) : Ev G M pc ls (as.reverse ++ (1, (c : Int)) :: rest) (sh, rf, ia, w) (.inr E, (sh1, rf1, ia1, w1), ce, sl) := by
  intro p l e R s m args below meth cd C A hA hE hK ad0 n0 ad H locs cells slots la ha hn hP hD hS hl hcs hss
  obtain ⟨hd, rfl⟩ := zf_ok hf
  dsimp only at hcs hss hn
  obtain ⟨hini, hpl, hmh, hpar, hfr, hlo⟩ := hl9.1
  have hRun := vx_runV (As := as.map (zc G ad)) (b := ad c) (rest := rest.map (zc G ad)) (g := F0 m pc la (List.map (zc G ad) (as.reverse ++ (1, (c : Int)) :: rest))) (R := R) (cells := cells) (slots := slots) (e := e) (below := below) (meth := meth) (locs := locs) (p := p) (H := H) ⟨C.1, C.2.1, C.2.2.1, C.2.2.2.2.1, C.2.2.2.2.2.2.1⟩ (zMetX (sz := H.size) (ad := ad) hpl hl9.2.1.1 C.2.2.2.2.2.2.2.2.1 hac hal ev) (C := y.1.cls) ⟨⟨rfl, rfl, Nat.le_trans hfr C.2.2.2.2.2.2.2.2.2.1, Nat.le_trans hlo C.2.2.2.2.2.2.2.2.2.2.1, zWs_good hl9.2.1.2 C.2.2.2.2.2.2.1, List.mem_cons_self, C.2.2.2.2.2.2.1 _ hl9.2.1.2, C.2.2.2.2.2.2.1 _ hini, hmh, zN_of hpar, C.2.2.2.2.2.2.1 _ hl9.2.2.1⟩, C.2.2.2.2.2.2.1 _ hl9.2.2.2.1, C.2.2.2.2.2.2.1 _ hl9.2.2.2.2⟩ ⟨zPre_blind, va_recv (ci := ci) (q := (y.1.cls, TT, NN)) hK hP hcl (zW_obj hc), zPre_at hA hE hK hP hD hS⟩ rfl (by rw [List.length_map]; exact hn9) hl.1 (by show List.map (zc G ad) (as.reverse ++ (1, (c : Int)) :: rest) = (as.map (zc G ad)).reverse ++ .ref (ad c) :: rest.map (zc G ad); rw [List.map_append, List.map_reverse]; rfl) (lv_room (by rw [zcats]; exact hrc)) hd ⟨by dsimp only; omega, by dsimp only; omega⟩
  have hf9 := zFree hD hS hA
  refine zCallT hRun rfl hS hf9 (fun ce9 q9 ad9 H1 locs1 had9 hP9 hD9 hS9 hce9 hcv9 hcl9 => ?_)
  exact vx_out (E := E) (ce := ce9) (fun x hx => by rw [C.2.2.2.2.2.2.2.1, hh] at hx; cases hx) C.2.2.2.2.2.1 hce9 hcv9 hcl9 (fun t ht hal9 => ⟨⟨ad9, rfl, by rw [ht]; exact hP9, hD9, fun c hc => (had9 c (Nat.lt_of_lt_of_le hc hn)).trans (ha c hc)⟩, hS9.F ht⟩) hS9.2.2 hcs hss
theorem Ev.passS {G : zG} {M y : zM} {pc pc9 : Nat} {ls rest : List zSV} {sh sh1 : List (Nat × Nat)} {rf rf1 : Nat → Nat → Option Nat} {ia ia1 : Nat → Int → Int} {w w1 : (Nat → Int → Int) × (Nat → Int → Int)} {ce sl idx n : Nat} {E : String} (as : List zSV) (hf : zf M pc = some (.invokestatic idx, 3, pc9)) (hl9 : zLkS M idx y n) (hn9 : as.length = n) (hac : as.all (fun v => zcat v == 1) = true) (hal : as.length ≤ y.2.2.1) (hrc : (rest.map zcat).sum ≤ 8) (hgr : Nat.ble sh.length sh1.length = true) (hh : M.2.2.2.2.1 = []) 
    (ev : Ev G y 0 (zIn as y.2.2.1) [] (sh, rf, ia, w) (.inr E, (sh1, rf1, ia1, w1), ce, sl)) : Ev G M pc ls (as.reverse ++ rest) (sh, rf, ia, w) (.inr E, (sh1, rf1, ia1, w1), ce, sl) := by
  intro p l e R s m args below meth cd C A hA hE hK ad0 n0 ad H locs cells slots la ha hn hP hD hS hl hcs hss
  obtain ⟨hd, rfl⟩ := zf_ok hf
  dsimp only at hcs hss hn
  obtain ⟨hini, hpl, hmh, hpar, hfr, hlo⟩ := hl9.1
  have hRun := vx_runS (As := as.map (zc G ad)) (rest := rest.map (zc G ad)) (g := F0 m pc la (List.map (zc G ad) (as.reverse ++ rest))) (R := R) (cells := cells) (slots := slots) (e := e) (below := below) (meth := meth) (locs := locs) (p := p) (H := H) ⟨C.1, C.2.1, C.2.2.1, C.2.2.2.2.1, C.2.2.2.2.2.2.1⟩ (zMetX (sz := H.size) (ad := ad) hpl hl9.2.1.1 C.2.2.2.2.2.2.2.2.1 hac hal ev) ⟨⟨rfl, rfl, Nat.le_trans hfr C.2.2.2.2.2.2.2.2.2.1, Nat.le_trans hlo C.2.2.2.2.2.2.2.2.2.2.1, zWs_good hl9.2.1.2 C.2.2.2.2.2.2.1, List.mem_cons_self, C.2.2.2.2.2.2.1 _ hl9.2.1.2, C.2.2.2.2.2.2.1 _ hini, hmh, zN_of hpar, C.2.2.2.2.2.2.1 _ hl9.2.2.1⟩, C.2.2.2.2.2.2.1 _ hl9.2.2.2⟩ ⟨zPre_blind, zPre_at hA hE hK hP hD hS⟩ rfl (by rw [List.length_map]; exact hn9) hl.1 (by show List.map (zc G ad) (as.reverse ++ rest) = (as.map (zc G ad)).reverse ++ rest.map (zc G ad); rw [List.map_append, List.map_reverse]) (lv_room (by rw [zcats]; exact hrc)) hd ⟨by dsimp only; omega, by dsimp only; omega⟩
  have hf9 := zFree hD hS hA
  refine zCallT hRun rfl hS hf9 (fun ce9 q9 ad9 H1 locs1 had9 hP9 hD9 hS9 hce9 hcv9 hcl9 => ?_)
  exact vx_out (E := E) (ce := ce9) (fun x hx => by rw [C.2.2.2.2.2.2.2.1, hh] at hx; cases hx) C.2.2.2.2.2.1 hce9 hcv9 hcl9 (fun t ht hal9 => ⟨⟨ad9, rfl, by rw [ht]; exact hP9, hD9, fun c hc => (had9 c (Nat.lt_of_lt_of_le hc hn)).trans (ha c hc)⟩, hS9.F ht⟩) hS9.2.2 hcs hss
theorem Ev.catchV {ce1 sl1 : Nat} {G : zG} {M y : zM} {pc pc9 : Nat} {ls rest : List zSV} {sh sh1 : List (Nat × Nat)} {rf rf1 : Nat → Nat → Option Nat} {ia ia1 : Nat → Int → Int} {w w1 : (Nat → Int → Int) × (Nat → Int → Int)} {ce sl ce2 sl2 idx n p1 i9 : Nat} {o : Option zSV ⊕ String} {h2 : zHp} {E : String} (c : Nat) (as : List zSV) (hf : zf M pc = some (.invokevirtual idx, 3, pc9)) (hl9 : zLkV M idx y n) (hn9 : as.length = n) (ci : Nat) (TT : u_T) (NN : Nat) (hcl : vwCl[ci]? = some (y.1.cls, TT, NN)) (hc : sh[c]? = some (0, ci)) (hac : ((1, (c : Int)) :: as).all (fun v => zcat v == 1) = true) (hal : ((1, (c : Int)) :: as).length ≤ y.2.2.1) (hrc : (rest.map zcat).sum ≤ 8) (hgr : Nat.ble sh.length sh1.length = true) (pre suf : List (Nat × Nat × Nat × Nat)) (x9 : Nat × Nat × Nat × Nat) (name : String) (hh : M.2.2.2.2.1 = pre ++ x9 :: suf) (hpass : ∀ z ∈ pre, z.2.2.2 ≠ 0 ∧ ∃ nm : String, Cond.classLink M.1.cls z.2.2.2 nm ∈ zT ∧ (E, nm) ∈ zNc) (hcov : covers ⟨x9.1, x9.2.1, x9.2.2.1, x9.2.2.2⟩ pc = true) (h0 : x9.2.2.2 ≠ 0) (hlk : Cond.classLink M.1.cls x9.2.2.2 name ∈ zT) (hca : Cond.castable E name ∈ zNw) (hast : zf M x9.2.2.1 = some (.astore i9, 2, p1) ∨ ∃ k : Fin 4, (k : Nat) = i9 ∧ zf M x9.2.2.1 = some (.astore_n k, 1, p1)) (him : Nat.ble (i9 + 1) M.2.2.1 = true) (hce : ce1 + ce2 = ce) (hsl : sl1 + sl2 = sl) (kk : Ev G M p1 [] [] (sh1, rf1, ia1, w1) (o, h2, ce2, sl2)) 
    (ev : Ev G y 0 (zIn ((1, (c : Int)) :: as) y.2.2.1) [] (sh, rf, ia, w) (.inr E, (sh1, rf1, ia1, w1), ce1, sl1)) : Ev G M pc ls (as.reverse ++ (1, (c : Int)) :: rest) (sh, rf, ia, w) (o, h2, ce, sl) := by
  intro p l e R s m args below meth cd C A hA hE hK ad0 n0 ad H locs cells slots la ha hn hP hD hS hl hcs hss
  obtain ⟨hd, rfl⟩ := zf_ok hf
  dsimp only at hcs hss hn
  obtain ⟨hini, hpl, hmh, hpar, hfr, hlo⟩ := hl9.1
  subst hce
  subst hsl
  have hRun := vx_runV (As := as.map (zc G ad)) (b := ad c) (rest := rest.map (zc G ad)) (g := F0 m pc la (List.map (zc G ad) (as.reverse ++ (1, (c : Int)) :: rest))) (R := R) (cells := cells) (slots := slots) (e := e) (below := below) (meth := meth) (locs := locs) (p := p) (H := H) ⟨C.1, C.2.1, C.2.2.1, C.2.2.2.2.1, C.2.2.2.2.2.2.1⟩ (zMetX (sz := H.size) (ad := ad) hpl hl9.2.1.1 C.2.2.2.2.2.2.2.2.1 hac hal ev) (C := y.1.cls) ⟨⟨rfl, rfl, Nat.le_trans hfr C.2.2.2.2.2.2.2.2.2.1, Nat.le_trans hlo C.2.2.2.2.2.2.2.2.2.2.1, zWs_good hl9.2.1.2 C.2.2.2.2.2.2.1, List.mem_cons_self, C.2.2.2.2.2.2.1 _ hl9.2.1.2, C.2.2.2.2.2.2.1 _ hini, hmh, zN_of hpar, C.2.2.2.2.2.2.1 _ hl9.2.2.1⟩, C.2.2.2.2.2.2.1 _ hl9.2.2.2.1, C.2.2.2.2.2.2.1 _ hl9.2.2.2.2⟩ ⟨zPre_blind, va_recv (ci := ci) (q := (y.1.cls, TT, NN)) hK hP hcl (zW_obj hc), zPre_at hA hE hK hP hD hS⟩ rfl (by rw [List.length_map]; exact hn9) hl.1 (by show List.map (zc G ad) (as.reverse ++ (1, (c : Int)) :: rest) = (as.map (zc G ad)).reverse ++ .ref (ad c) :: rest.map (zc G ad); rw [List.map_append, List.map_reverse]; rfl) (lv_room (by rw [zcats]; exact hrc)) hd ⟨by dsimp only; omega, by dsimp only; omega⟩
  have hf9 := zFree hD hS hA
  refine zCallT hRun rfl hS hf9 (fun ce9 q9 ad9 H1 locs1 had9 hP9 hD9 hS9 hce9 hcv9 hcl9 => ?_)
  have hts := C.2.2.2.2.2.2.1
  refine vx_catch (E := E) (name := name) (ce := ce9) C.2.2.2.2.1 (tableOf pre) ⟨x9.1, x9.2.1, x9.2.2.1, x9.2.2.2⟩ (tableOf suf) (by rw [C.2.2.2.2.2.2.2.1, hh]; simp [tableOf]) (fun z hz => ?_) hcov h0 (hts _ hlk) (va_Nw.use rfl (hE.1 _ hca)) hce9 hcv9 hcl9 ?_
  · obtain ⟨z0, hz0, rfl⟩ := List.mem_map.mp hz
    obtain ⟨g1, nm9, g2, g3⟩ := hpass z0 hz0
    exact Or.inr ⟨g1, nm9, hts _ g2, hE.2.1 _ g3⟩
  · have hl0 : lv_has la M.2.2.1 [] := lv_less hl (fun q hq => by cases hq)
    have fin : ∀ (la9 : Array Slot), lv_has la9 M.2.2.1 [(i9, .ref q9)] → W p l e R s m args below meth cd H1 locs1 (cells + ce1) (slots + sl1) (vx_MQ below (zQ G A ad0 n0 (o, h2, ce1 + ce2, sl1 + sl2)) (zX G A ad0 n0 (o, h2, ce1 + ce2, sl1 + sl2)) args s R.cells R.slots A) (F0 m p1 la9 []) := by
      intro la9 hl9x
      exact kk p l e R s m args below meth cd C A hA hE hK ad0 n0 ad9 H1 locs1 (cells + ce1) (slots + sl1) la9 (fun c hc => (had9 c (Nat.lt_of_lt_of_le hc hn)).trans (ha c hc)) (by dsimp only; have := Nat.le_of_ble_eq_true hgr; omega) hP9 hD9 hS9 (lv_less hl9x (fun q hq => by cases hq)) (by dsimp only; omega) (by dsimp only; omega)
    rcases hast with hast | ⟨k9, hk9, hast⟩
    · obtain ⟨g1, rfl⟩ := zf_ok hast
      exact lv_astore C.1 C.2.1 g1 hl0 (Nat.le_of_ble_eq_true him) rfl (fun la9 hl9x => fin la9 hl9x)
    · obtain ⟨g1, rfl⟩ := zf_ok hast
      exact lv_astore_n C.1 C.2.1 g1 hk9 hl0 (Nat.le_of_ble_eq_true him) rfl (fun la9 hl9x => fin la9 hl9x)
theorem zStr {G : zG} {A : Nat → Prop} {U : State} {H : Heap} (h : zEnv G A U H) {i : Nat} (hi : i < 24) : va_O "java/lang/String" (G.2.2.1 i) A U H ∧ va_OF "java/lang/String" "coder" "B" (.int 0) (G.2.2.1 i) A U H ∧ va_OF "java/lang/String" "value" "[B" (.ref (G.2.2.2.1 i)) (G.2.2.1 i) A U H ∧ va_T .byte (G.2.2.2.1 i) (zSl.getD i 0) (fun j => .int ((zSb.getD i []).getD j 0)) A U H := h.2.2.2.2.2.1.1 i hi
theorem Ev.sVal {G : zG} {M : zM} {pc pc9 : Nat} {ls st : List zSV} {sh : List (Nat × Nat)} {rf : Nat → Nat → Option Nat} {ia : Nat → Int → Int} {O : zO} {w : (Nat → Int → Int) × (Nat → Int → Int)} {idx : Nat}
    (i : Nat) (hi : i < 24) (hf : zf M pc = some (.getfield idx, 3, pc9)) (hl9 : Cond.fieldLink M.1.cls idx "java/lang/String" "value" "[B" ∈ zT) (kk : Ev G M pc9 ls ((7, (i : Int)) :: st) (sh, rf, ia, w) O) : Ev G M pc ls ((2, (i : Int)) :: st) (sh, rf, ia, w) O := by
  intro p l e R s m args below meth cd C A hA hE hK ad0 n0 ad H locs cells slots la ha hn hP hD hS hl hcs hss
  obtain ⟨hd, rfl⟩ := zf_ok hf
  refine vk_getf C.1 C.2.1 (zStr hE hi).2.2.1 hS C.2.2.2.2.1 (C.2.2.2.2.2.2.1 _ hl9) (fun _ h9 => h9) hd ?_
  exact kk p l e R s m args below meth cd C A hA hE hK ad0 n0 ad H locs cells slots la ha hn hP hD hS hl hcs hss
theorem Ev.sCod {G : zG} {M : zM} {pc pc9 : Nat} {ls st : List zSV} {sh : List (Nat × Nat)} {rf : Nat → Nat → Option Nat} {ia : Nat → Int → Int} {O : zO} {w : (Nat → Int → Int) × (Nat → Int → Int)} {idx : Nat}
    (i : Nat) (hi : i < 24) (hf : zf M pc = some (.getfield idx, 3, pc9)) (hl9 : Cond.fieldLink M.1.cls idx "java/lang/String" "coder" "B" ∈ zT) (kk : Ev G M pc9 ls ((0, 0) :: st) (sh, rf, ia, w) O) : Ev G M pc ls ((2, (i : Int)) :: st) (sh, rf, ia, w) O := by
  intro p l e R s m args below meth cd C A hA hE hK ad0 n0 ad H locs cells slots la ha hn hP hD hS hl hcs hss
  obtain ⟨hd, rfl⟩ := zf_ok hf
  refine vk_getf C.1 C.2.1 (zStr hE hi).2.1 hS C.2.2.2.2.1 (C.2.2.2.2.2.2.1 _ hl9) (fun _ h9 => h9) hd ?_
  exact kk p l e R s m args below meth cd C A hA hE hK ad0 n0 ad H locs cells slots la ha hn hP hD hS hl hcs hss
theorem Ev.sLen {G : zG} {M : zM} {pc pc9 : Nat} {ls st : List zSV} {sh : List (Nat × Nat)} {rf : Nat → Nat → Option Nat} {ia : Nat → Int → Int} {O : zO} {w : (Nat → Int → Int) × (Nat → Int → Int)} 
    (i : Nat) (hi : i < 24) (hf : zf M pc = some (.arraylength, 1, pc9)) (kk : Ev G M pc9 ls ((0, ((zSl.getD i 0 : Nat) : Int)) :: st) (sh, rf, ia, w) O) : Ev G M pc ls ((7, (i : Int)) :: st) (sh, rf, ia, w) O := by
  intro p l e R s m args below meth cd C A hA hE hK ad0 n0 ad H locs cells slots la ha hn hP hD hS hl hcs hss
  obtain ⟨hd, rfl⟩ := zf_ok hf
  refine va_tlen C.1 C.2.1 (zStr hE hi).2.2.2 hS Int32.ofInt_eq_ofNat.symm hd ?_
  exact kk p l e R s m args below meth cd C A hA hE hK ad0 n0 ad H locs cells slots la ha hn hP hD hS hl hcs hss
theorem Ev.sByte {G : zG} {M : zM} {pc pc9 : Nat} {ls st : List zSV} {sh : List (Nat × Nat)} {rf : Nat → Nat → Option Nat} {ia : Nat → Int → Int} {O : zO} {w : (Nat → Int → Int) × (Nat → Int → Int)} 
    (i j : Nat) (b : Int) (hi : i < 24) (hf : zf M pc = some (.baload, 1, pc9)) (hj : j < zSl.getD i 0) (hj2 : zSl.getD i 0 ≤ 2147483647) (hb : (zSb.getD i []).getD j 0 = Int32.ofInt b) (kk : Ev G M pc9 ls ((0, b) :: st) (sh, rf, ia, w) O) : Ev G M pc ls ((0, (j : Int)) :: (7, (i : Int)) :: st) (sh, rf, ia, w) O := by
  intro p l e R s m args below meth cd C A hA hE hK ad0 n0 ad H locs cells slots la ha hn hP hD hS hl hcs hss
  obtain ⟨hd, rfl⟩ := zf_ok hf
  refine va_tb C.1 C.2.1 (zStr hE hi).2.2.2 hS (i := Int32.ofInt (j : Int)) (v := .int (Int32.ofInt b)) (z_in ⟨by omega, by omega⟩ hj2) ?_ hd ?_
  · rw [z_clamp ⟨by omega, by omega⟩, Int.toNat_natCast, hb]
  exact kk p l e R s m args below meth cd C A hA hE hK ad0 n0 ad H locs cells slots la ha hn hP hD hS hl hcs hss
theorem Ev.sComp {G : zG} {M : zM} {pc pc9 : Nat} {ls st : List zSV} {sh : List (Nat × Nat)} {rf : Nat → Nat → Option Nat} {ia : Nat → Int → Int} {O : zO} {w : (Nat → Int → Int) × (Nat → Int → Int)} {idx : Nat}
    (hf : zf M pc = some (.getstatic idx, 3, pc9)) (hl9 : Cond.fieldLink M.1.cls idx "java/lang/String" "COMPACT_STRINGS" "Z" ∈ zT) (kk : Ev G M pc9 ls ((0, 1) :: st) (sh, rf, ia, w) O) : Ev G M pc ls st (sh, rf, ia, w) O := by
  intro p l e R s m args below meth cd C A hA hE hK ad0 n0 ad H locs cells slots la ha hn hP hD hS hl hcs hss
  obtain ⟨hd, rfl⟩ := zf_ok hf
  refine va_gets C.1 C.2.1 hE.2.2.2.2.2.2.1 hS C.2.2.2.2.1 (C.2.2.2.2.2.2.1 _ hl9) (fun _ h9 => h9) hd ?_
  exact kk p l e R s m args below meth cd C A hA hE hK ad0 n0 ad H locs cells slots la ha hn hP hD hS hl hcs hss
theorem Ev.sForm {G : zG} {M : zM} {pc pc9 : Nat} {ls st : List zSV} {sh : List (Nat × Nat)} {rf : Nat → Nat → Option Nat} {ia : Nat → Int → Int} {O : zO} {w : (Nat → Int → Int) × (Nat → Int → Int)} {idx : Nat}
    (hf : zf M pc = some (.getstatic idx, 3, pc9)) (hl9 : Cond.fieldLink M.1.cls idx "jdk/internal/util/Preconditions" "SIOOBE_FORMATTER" "Ljava/util/function/BiFunction;" ∈ zT) (kk : Ev G M pc9 ls ((8, 0) :: st) (sh, rf, ia, w) O) : Ev G M pc ls st (sh, rf, ia, w) O := by
  intro p l e R s m args below meth cd C A hA hE hK ad0 n0 ad H locs cells slots la ha hn hP hD hS hl hcs hss
  obtain ⟨hd, rfl⟩ := zf_ok hf
  refine va_gets C.1 C.2.1 hE.2.2.2.2.2.2.2.1 hS C.2.2.2.2.1 (C.2.2.2.2.2.2.1 _ hl9) (fun _ h9 => h9) hd ?_
  exact kk p l e R s m args below meth cd C A hA hE hK ad0 n0 ad H locs cells slots la ha hn hP hD hS hl hcs hss
theorem Ev.retB {G : zG} {M : zM} {pc pc9 : Nat} {ls st : List zSV} {sh : List (Nat × Nat)} {rf : Nat → Nat → Option Nat} {ia : Nat → Int → Int} {w : (Nat → Int → Int) × (Nat → Int → Int)} {x : Int}
    (hf : zf M pc = some (.ireturn, 1, pc9)) (hr : M.2.2.2.1 = some .byte) (hx : (Int32.ofInt x).toInt8.toInt32 = Int32.ofInt x) : Ev G M pc ls [(0, x)] (sh, rf, ia, w) (.inl (some (0, x)), (sh, rf, ia, w), 0, 0) := by
  intro p l e R s m args below meth cd C A hA hE hK ad0 n0 ad H locs cells slots la ha hn hP hD hS hl hcs hss
  obtain ⟨hd, rfl⟩ := zf_ok hf
  refine W.widen (k := R.cells) (n := R.slots) hcs hss ?_
  refine vx_ret ?_
  exact W.zret (v := Int32.ofInt x) C.1 C.2.1 (C.2.2.2.1.trans hr) (by show Value.int _ = _; rw [hx]) (fun t ht hW => ⟨⟨some (0, x), ad, rfl, rfl, by rw [ht]; exact hP, hD, ha⟩, hS.F ht⟩) hS.2.2 hd C.2.2.2.2.2.1
theorem Ev.callVS {G : zG} {M y : zM} {pc pc9 : Nat} {ls rest : List zSV} {sh sh1 : List (Nat × Nat)} {rf rf1 : Nat → Nat → Option Nat} {ia ia1 : Nat → Int → Int} {w w1 : (Nat → Int → Int) × (Nat → Int → Int)} {o : Option zSV ⊕ String} {h2 : zHp} {ce sl idx n : Nat} {v : Option zSV} {ce2 sl2 : Nat} (i : Nat) (hi : i < 24) (ce1 sl1 : Nat) (as : List zSV) (hf : zf M pc = some (.invokevirtual idx, 3, pc9)) (hl9 : zLkV M idx y n) (hn9 : as.length = n) (hcl : y.1.cls = "java/lang/String") (hac : ((2, (i : Int)) :: as).all (fun v => zcat v == 1) = true) (hal : ((2, (i : Int)) :: as).length ≤ y.2.2.1) (hrc : (rest.map zcat).sum ≤ 8) (h1l : ls.all (zOk sh.length) = true) (h1r : rest.all (zOk sh.length) = true) (hgr : Nat.ble sh.length sh1.length = true) (hce : ce1 + ce2 = ce) (hsl : sl1 + sl2 = sl)
    (ev : Ev G y 0 (zIn ((2, (i : Int)) :: as) y.2.2.1) [] (sh, rf, ia, w) (.inl v, (sh1, rf1, ia1, w1), ce1, sl1)) (kk : Ev G M pc9 ls (v.toList ++ rest) (sh1, rf1, ia1, w1) (o, h2, ce2, sl2)) : Ev G M pc ls (as.reverse ++ (2, (i : Int)) :: rest) (sh, rf, ia, w) (o, h2, ce, sl) := by
  intro p l e R s m args below meth cd C A hA hE hK ad0 n0 ad H locs cells slots la ha hn hP hD hS hl hcs hss
  obtain ⟨hd, rfl⟩ := zf_ok hf
  subst hce
  subst hsl
  dsimp only at hcs hss hn
  obtain ⟨hini, hpl, hmh, hpar, hfr, hlo⟩ := hl9.1
  have hRun := va_runV (As := as.map (zc G ad)) (b := G.2.2.1 i) (rest := rest.map (zc G ad)) (g := F0 m pc la (List.map (zc G ad) (as.reverse ++ (2, (i : Int)) :: rest))) (R := R) (cells := cells) (slots := slots) (e := e) (below := below) (meth := meth) (locs := locs) (p := p) (H := H) ⟨C.1, C.2.1, C.2.2.1, C.2.2.2.2.1, C.2.2.2.2.2.2.1⟩ (zMet_of (zMetX (sz := H.size) (ad := ad) hpl hl9.2.1.1 C.2.2.2.2.2.2.2.2.1 hac hal ev) zX_no) (C := y.1.cls) ⟨⟨rfl, rfl, Nat.le_trans hfr C.2.2.2.2.2.2.2.2.2.1, Nat.le_trans hlo C.2.2.2.2.2.2.2.2.2.2.1, zWs_good hl9.2.1.2 C.2.2.2.2.2.2.1, List.mem_cons_self, C.2.2.2.2.2.2.1 _ hl9.2.1.2, C.2.2.2.2.2.2.1 _ hini, hmh, zN_of hpar, C.2.2.2.2.2.2.1 _ hl9.2.2.1⟩, C.2.2.2.2.2.2.1 _ hl9.2.2.2.1, C.2.2.2.2.2.2.1 _ hl9.2.2.2.2⟩ ⟨zPre_blind, by rw [hcl]; exact vk_recv hE.2.2.2.2.2.1 hi hS, zPre_at hA hE hK hP hD hS⟩ rfl (by rw [List.length_map]; exact hn9) hl.1 (by show List.map (zc G ad) (as.reverse ++ (2, (i : Int)) :: rest) = (as.map (zc G ad)).reverse ++ .ref (G.2.2.1 i) :: rest.map (zc G ad); rw [List.map_append, List.map_reverse]; rfl) (lv_room (by rw [zcats]; exact hrc)) hd ⟨by dsimp only; omega, by dsimp only; omega⟩
  have hf9 := zFree hD hS hA
  refine zCall hRun hS hf9 (fun v9 ad9 H1 locs1 hv1 had9 hP9 hD9 hS9 => ?_)
  cases hv1
  have kk2 := kk p l e R s m args below meth cd C A hA hE hK ad0 n0 ad9 H1 locs1 (cells + ce1) (slots + sl1) la (fun c hc => (had9 c (Nat.lt_of_lt_of_le hc hn)).trans (ha c hc)) (by dsimp only; have := Nat.le_of_ble_eq_true hgr; omega) hP9 hD9 hS9 (zL_ad had9 h1l hl) (by dsimp only; omega) (by dsimp only; omega)
  rw [List.map_append, zcs_ad had9 h1r] at kk2
  have e8 : v.toList.map (zc G ad9) = (v.map (zc G ad9)).toList := by cases v <;> rfl
  rw [e8] at kk2
  exact kk2
theorem z_u64 (b : UInt64) : UInt64.ofNat ((b.toNat : Nat) : Int).toNat = b := by
  rw [Int.toNat_natCast]
  exact UInt64.ofNat_toNat
theorem z_u32 (b : UInt32) : UInt32.ofNat ((b.toNat : Nat) : Int).toNat = b := by
  rw [Int.toNat_natCast]
  exact UInt32.ofNat_toNat
/-- a double's, a float's bits as a number -/
def zD (b : UInt64) : Int := ((b.toNat : Nat) : Int)
def zS (b : UInt32) : Int := ((b.toNat : Nat) : Int)
theorem zc_D {G : zG} {ad : Nat → Nat} {b : UInt64} : zc G ad (5, zD b) = .double b := congrArg Value.double (z_u64 b)
theorem zc_S {G : zG} {ad : Nat → Nat} {b : UInt32} : zc G ad (6, zS b) = .float b := congrArg Value.float (z_u32 b)
theorem Ev.i2d {G : zG} {M : zM} {pc pc9 : Nat} {ls st : List zSV} {sh : List (Nat × Nat)} {rf : Nat → Nat → Option Nat} {ia : Nat → Int → Int} {O : zO} {w : (Nat → Int → Int) × (Nat → Int → Int)} {x : Int}
    (hf : zf M pc = some (.i2d, 1, pc9))  (kk : Ev G M pc9 ls ((5, zD (FP.i2d (Int32.ofInt x))) :: st) (sh, rf, ia, w) O) : Ev G M pc ls ((0, x) :: st) (sh, rf, ia, w) O := by
  intro p l e R s m args below meth cd C A hA hE hK ad0 n0 ad H locs cells slots la ha hn hP hD hS hl hcs hss
  obtain ⟨hd, rfl⟩ := zf_ok hf
  have kk2 := kk p l e R s m args below meth cd C A hA hE hK ad0 n0 ad H locs cells slots la ha hn hP hD hS hl hcs hss
  rw [List.map_cons, zc_D] at kk2
  refine lv_i2d (x := Int32.ofInt x) C.1 C.2.1 hd ?_
  exact kk2
theorem Ev.i2f {G : zG} {M : zM} {pc pc9 : Nat} {ls st : List zSV} {sh : List (Nat × Nat)} {rf : Nat → Nat → Option Nat} {ia : Nat → Int → Int} {O : zO} {w : (Nat → Int → Int) × (Nat → Int → Int)} {x : Int}
    (hf : zf M pc = some (.i2f, 1, pc9))  (kk : Ev G M pc9 ls ((6, zS (FP.i2f (Int32.ofInt x))) :: st) (sh, rf, ia, w) O) : Ev G M pc ls ((0, x) :: st) (sh, rf, ia, w) O := by
  intro p l e R s m args below meth cd C A hA hE hK ad0 n0 ad H locs cells slots la ha hn hP hD hS hl hcs hss
  obtain ⟨hd, rfl⟩ := zf_ok hf
  have kk2 := kk p l e R s m args below meth cd C A hA hE hK ad0 n0 ad H locs cells slots la ha hn hP hD hS hl hcs hss
  rw [List.map_cons, zc_S] at kk2
  refine lv_i2f (x := Int32.ofInt x) C.1 C.2.1 hd ?_
  exact kk2
theorem Ev.ddiv {G : zG} {M : zM} {pc pc9 : Nat} {ls st : List zSV} {sh : List (Nat × Nat)} {rf : Nat → Nat → Option Nat} {ia : Nat → Int → Int} {O : zO} {w : (Nat → Int → Int) × (Nat → Int → Int)} {a b : UInt64}
    (hf : zf M pc = some (.ddiv, 1, pc9)) (hne : vf_n64 (FP.ddiv a b)) (kk : Ev G M pc9 ls ((5, zD (FP.ddiv a b)) :: st) (sh, rf, ia, w) O) : Ev G M pc ls ((5, zD b) :: (5, zD a) :: st) (sh, rf, ia, w) O := by
  intro p l e R s m args below meth cd C A hA hE hK ad0 n0 ad H locs cells slots la ha hn hP hD hS hl hcs hss
  obtain ⟨hd, rfl⟩ := zf_ok hf
  have kk2 := kk p l e R s m args below meth cd C A hA hE hK ad0 n0 ad H locs cells slots la ha hn hP hD hS hl hcs hss
  rw [List.map_cons, zc_D] at kk2
  rw [List.map_cons, List.map_cons, zc_D, zc_D]
  refine lv_ddiv C.1 C.2.1 hd hne ?_
  exact kk2
theorem Ev.fdiv {G : zG} {M : zM} {pc pc9 : Nat} {ls st : List zSV} {sh : List (Nat × Nat)} {rf : Nat → Nat → Option Nat} {ia : Nat → Int → Int} {O : zO} {w : (Nat → Int → Int) × (Nat → Int → Int)} {a b : UInt32}
    (hf : zf M pc = some (.fdiv, 1, pc9)) (hne : vf_n32 (FP.fdiv a b)) (kk : Ev G M pc9 ls ((6, zS (FP.fdiv a b)) :: st) (sh, rf, ia, w) O) : Ev G M pc ls ((6, zS b) :: (6, zS a) :: st) (sh, rf, ia, w) O := by
  intro p l e R s m args below meth cd C A hA hE hK ad0 n0 ad H locs cells slots la ha hn hP hD hS hl hcs hss
  obtain ⟨hd, rfl⟩ := zf_ok hf
  have kk2 := kk p l e R s m args below meth cd C A hA hE hK ad0 n0 ad H locs cells slots la ha hn hP hD hS hl hcs hss
  rw [List.map_cons, zc_S] at kk2
  rw [List.map_cons, List.map_cons, zc_S, zc_S]
  refine lv_fdiv C.1 C.2.1 hd hne ?_
  exact kk2
theorem Ev.f2d {G : zG} {M : zM} {pc pc9 : Nat} {ls st : List zSV} {sh : List (Nat × Nat)} {rf : Nat → Nat → Option Nat} {ia : Nat → Int → Int} {O : zO} {w : (Nat → Int → Int) × (Nat → Int → Int)} {a : UInt32}
    (hf : zf M pc = some (.f2d, 1, pc9)) (hne : vf_n64 (FP.f2d a)) (kk : Ev G M pc9 ls ((5, zD (FP.f2d a)) :: st) (sh, rf, ia, w) O) : Ev G M pc ls ((6, zS a) :: st) (sh, rf, ia, w) O := by
  intro p l e R s m args below meth cd C A hA hE hK ad0 n0 ad H locs cells slots la ha hn hP hD hS hl hcs hss
  obtain ⟨hd, rfl⟩ := zf_ok hf
  have kk2 := kk p l e R s m args below meth cd C A hA hE hK ad0 n0 ad H locs cells slots la ha hn hP hD hS hl hcs hss
  rw [List.map_cons, zc_D] at kk2
  rw [List.map_cons, zc_S]
  refine lv_f2d C.1 C.2.1 hd hne ?_
  exact kk2
theorem Ev.dconst0 {G : zG} {M : zM} {pc pc9 : Nat} {ls st : List zSV} {sh : List (Nat × Nat)} {rf : Nat → Nat → Option Nat} {ia : Nat → Int → Int} {O : zO} {w : (Nat → Int → Int) × (Nat → Int → Int)} 
    (hf : zf M pc = some (.dconst 0, 1, pc9)) (kk : Ev G M pc9 ls ((5, zD FP.dconst0) :: st) (sh, rf, ia, w) O) : Ev G M pc ls st (sh, rf, ia, w) O := by
  intro p l e R s m args below meth cd C A hA hE hK ad0 n0 ad H locs cells slots la ha hn hP hD hS hl hcs hss
  obtain ⟨hd, rfl⟩ := zf_ok hf
  have kk2 := kk p l e R s m args below meth cd C A hA hE hK ad0 n0 ad H locs cells slots la ha hn hP hD hS hl hcs hss
  rw [List.map_cons, zc_D] at kk2
  refine lv_dconst0 C.1 C.2.1 hd ?_
  exact kk2
theorem Ev.dcmp {G : zG} {M : zM} {pc pc9 : Nat} {ls st : List zSV} {sh : List (Nat × Nat)} {rf : Nat → Nat → Option Nat} {ia : Nat → Int → Int} {O : zO} {w : (Nat → Int → Int) × (Nat → Int → Int)} {a b : UInt64} {op : CmpOp}
    (hf : zf M pc = some (.dcmp op, 1, pc9)) (kk : Ev G M pc9 ls ((0, (Op.cmpValue (FP.dcmp a b) op).toInt) :: st) (sh, rf, ia, w) O) : Ev G M pc ls ((5, zD b) :: (5, zD a) :: st) (sh, rf, ia, w) O := by
  intro p l e R s m args below meth cd C A hA hE hK ad0 n0 ad H locs cells slots la ha hn hP hD hS hl hcs hss
  obtain ⟨hd, rfl⟩ := zf_ok hf
  have kk2 := kk p l e R s m args below meth cd C A hA hE hK ad0 n0 ad H locs cells slots la ha hn hP hD hS hl hcs hss
  rw [List.map_cons, show zc G ad (0, (Op.cmpValue (FP.dcmp a b) op).toInt) = .int (Op.cmpValue (FP.dcmp a b) op) from congrArg Value.int (Int32.ofInt_toInt _)] at kk2
  rw [List.map_cons, List.map_cons, zc_D, zc_D]
  refine lv_dcmp C.1 C.2.1 hd ?_
  exact kk2
end
section
/-! THE THROW OF A CLASS WHOSE OWN CONSTRUCTOR CALLS ITS SUPERCLASS BY A PLACE OF ITS OWN (the rows follow the library's chainS and ctorThrowS and the kit's vx_throwS) -/
def zChX (X : String) (ix : Nat) (rx : ByteArray) : List String → List Cond
  | [] => Bundle.passSAtoms X Bundle.tN ix rx
  | Y :: r => Bundle.passSAtoms X Y ix rx ++ Bundle.chainSAtoms Y r
theorem zChainX {args : Array Value} {s : State} {pl : Platform} (hpl : pl.magicAccessors = ({} : Platform).magicAccessors) {top : MethodId} (htop : s.methodNamed? (Bundle.initS Bundle.tN) = some top)
    {ix : Nat} {rx : ByteArray} (x0 : decode rx 0 = .ok (.aload_n 0, 1)) (x1 : decode rx 1 = .ok (.aload_n 1, 1)) (x2 : decode rx 2 = .ok (.invokespecial ix, 3)) (x5 : decode rx 5 = .ok (.return_, 1)) :
    ∀ (names : List String) (X : String), Bundle.fit X = true → (∀ n ∈ names, Bundle.fit n = true) → (∀ c ∈ zChX X ix rx names, c.before args s = true) →
      ∃ (P1 : PassC) (Ps : List PassC), Ps.length = names.length ∧ P1.LinksS pl s ∧ (∀ P, P ∈ Ps → P.LinksS pl s) ∧ s.methodNamed? (Bundle.initS X) = some P1.m ∧
        P1.sup = firstOf top (Ps.map (·.toPassT)) ∧ PassesOn top (Ps.map (·.toPassT)) := by
  intro names
  cases names with
  | nil =>
    intro X hX _ h
    obtain ⟨P, L, hm, hs⟩ := PassC.ofS_atoms (args := args) (s := s) hpl (X := X) (Y := Bundle.tN) (Bundle.fit_spec hX).1 (by decide) x0 x1 x2 x5 h
    exact ⟨P, [], rfl, L, (fun _ hP => by cases hP), hm, Option.some.inj (hs.symm.trans htop), trivial⟩
  | cons Y r =>
    intro X hX hn h
    obtain ⟨P, L, hm, hs⟩ := PassC.ofS_atoms (args := args) (s := s) hpl (X := X) (Y := Y) (Bundle.fit_spec hX).1 (Bundle.fit_spec (hn Y List.mem_cons_self)).2 x0 x1 x2 x5
      (fun c hc => h c (by simp only [zChX, List.mem_append]; exact Or.inl hc))
    obtain ⟨P', Ps, hlen, L', hL, hm', hsup, hpass⟩ := Bundle.chainS (args := args) hpl htop r Y (hn Y List.mem_cons_self) (fun n hn' => hn n (List.mem_cons_of_mem _ hn')) (fun c hc => h c (by simp only [zChX, List.mem_append]; exact Or.inr hc))
    refine ⟨P, P' :: Ps, by simp [hlen], L, ?_, hm, Option.some.inj (hs.symm.trans hm'), hsup, hpass⟩
    intro Q hQ
    rcases List.mem_cons.mp hQ with rfl | hQ
    · exact L'
    · exact hL Q hQ
def zAtX (own : String) (ic : Nat) (X : String) (ix : Nat) (rx : ByteArray) (names : List String) : List Cond :=
  Bundle.throwableAtoms ++ Bundle.throwableSAtoms ++ zChX X ix rx names ++
  [.methodLink own ic (Bundle.initS X), .instantiable X 6, .castable X X, .selects X Bundle.tFill0 Bundle.tFill0, .selects X Bundle.tFill Bundle.tFill,
   .lays X Bundle.tN "cause" "Ljava/lang/Throwable;", .lays X Bundle.tN "stackTrace" Bundle.steD, .lays X Bundle.tN "suppressedExceptions" Bundle.listD, .lays X Bundle.tN "detailMessage" "Ljava/lang/String;",
   .isRef (.static Bundle.tN "UNASSIGNED_STACK" Bundle.steD), .isRef (.static Bundle.tN "SUPPRESSED_SENTINEL" Bundle.listD),
   .fieldLink Bundle.tN 198 Bundle.tN "backtrace" "Ljava/lang/Object;", .lays Bundle.tN Bundle.tN "backtrace" "Ljava/lang/Object;", .lays X Bundle.tN "backtrace" "Ljava/lang/Object;"]
section ZCX
variable {p : Program} {l : Launch} {e : Env} {R : Room} {s : State} {m₀ : MethodId} {args : Array Value} {below : List Frame} {meth : Method} {c : Code} {W : State} {locs : List Loc} {cells slots : Nat}
set_option maxHeartbeats 4000000 in
theorem zCtorX (X : Stand p l e R s m₀ args below meth c W locs cells slots) (hexec : p.tables.exec = Jvm.exec) (htr : e.platform.stackTraces = false) {own cls : String} {names : List String} {ic ix : Nat} {rx : ByteArray}
    (x0 : decode rx 0 = .ok (.aload_n 0, 1)) (x1 : decode rx 1 = .ok (.aload_n 1, 1)) (x2 : decode rx 2 = .ok (.invokespecial ix, 3)) (x5 : decode rx 5 = .ok (.return_, 1))
    (hown : s.vm.findClass own = some m₀.cls) (hcls : Bundle.fit cls = true) (hnames : ∀ n ∈ names, Bundle.fit n = true)
    (h : ∀ a ∈ zAtX own ic cls ix rx names, a.before args s = true)
    (hlocs : ∀ x ∈ locs, ∀ cell, s.heap[x.base]? = some cell → cell.vm.isStatics = false)
    {a : Addr} {cX : ClassId} {kX : Class} (hfoundX : s.vm.findClass cls = some cX) (hkX : s.vm.classes[cX]? = some kX) (hcell : W.heap[a]? = some (freshCell cX kX)) (hnew : s.heap.size ≤ a)
    {msg : Value} (hmsg : msg.isRef = true)
    {g : JFrame} (hg : g.method = m₀) (hsize : g.locals.size = c.maxLocals) (hlocked : g.locked = none) (hentered : g.entered = []) {rest : List Value} (hstack : g.stack = msg :: .ref a :: .ref a :: rest)
    (hd6 : decode c.code g.pc = .ok (.invokespecial ic, 3)) (hd9 : decode c.code (g.pc + 3) = .ok (.athrow, 1)) (hout : ∀ x ∈ c.exceptionTable.toList, covers x (g.pc + 3) = false)
    (hRframes : names.length + 3 < R.frames) (hRlocals : 2 * g.monitorRoom + ((Value.ref a :: rest).map fun v => v.category).sum + (13 * (names.length + 1) + 42) ≤ R.locals) (hlocks : meth.locks = false := by first | assumption | exact BodyLoose.notSynchronized (by assumption) | exact Body.notSynchronized (by assumption)) :
    ∃ U : State, Steps p.tables e below (W.setTop g) U ∧ U.status = .running ∧ Ended U below (.threw a) ∧ s.WarmedH U.vm ∧ s.sameButNew ({ U with vm := s.vm } : State) locs cells slots ∧
      ∃ ce, U.heap[a]? = some ce ∧ Bundle.OwnCell args s cls a msg ce := by
  have howns : e.platform.frameOwnsMonitors = true := by rw [X.admits.platform]
  have hfin : e.platform.finalization = false := by rw [X.admits.platform]
  have hpl : e.platform.magicAccessors = ({} : Platform).magicAccessors := by rw [X.admits.platform]
  have a' : ∀ x, x ∈ zAtX own ic cls ix rx names → x.holds args s none s [] = true := fun x hx => h x hx
  obtain ⟨T, Z0, L, -, Y⟩ := ThrowableC.of_atoms (args := args) howns hfin hpl (fun x hx => h x (by simp [zAtX, hx]))
  obtain ⟨Z, M, LZ, LM, hnZ⟩ := Init0T.ofS_atoms (args := args) hpl L Y (fun x hx => h x (by simp [zAtX, hx]))
  obtain ⟨P1, Ps, hlen, L1, hL, hP1m, hlink1, hlink⟩ := zChainX (args := args) hpl hnZ x0 x1 x2 x5 names cls hcls hnames (fun x hx => h x (by simp [zAtX, hx]))
  have hfound : s.vm.findClass cls = some P1.m.cls := findClass_of_methodNamed hP1m
  cases Option.some.inj (hfoundX.symm.trans hfound)
  obtain ⟨c1, kX', hc1, hk, hord, -, -, hn6⟩ := Cond.instantiable_spec (a' (.instantiable cls 6) (by simp [zAtX]))
  cases Option.some.inj (hc1.symm.trans hfound)
  cases Option.some.inj (hkX.symm.trans hk)
  have hsel0 : selectMethod e.platform s.vm P1.m.cls T.fill0 = .method T.fill0 := by
    obtain ⟨c2, r2, m2, q1, q2, q3, q4, -⟩ := Cond.selects_spec (a' (.selects cls Bundle.tFill0 Bundle.tFill0) (by simp [zAtX]))
    cases Option.some.inj (q1.symm.trans hfound)
    cases Option.some.inj (q2.symm.trans (State.methodFound?_of_named Y.fill0 (by decide)))
    cases Option.some.inj (q3.symm.trans Y.fill0)
    rw [Launch.admits_selectMethod X.admits]; exact q4
  have hselF : selectMethod e.platform s.vm P1.m.cls T.fill = .method T.fill := by
    obtain ⟨c2, r2, m2, q1, q2, q3, q4, -⟩ := Cond.selects_spec (a' (.selects cls Bundle.tFill Bundle.tFill) (by simp [zAtX]))
    cases Option.some.inj (q1.symm.trans hfound)
    cases Option.some.inj (q2.symm.trans (State.methodFound?_of_named Y.fill (by decide)))
    cases Option.some.inj (q3.symm.trans Y.fill)
    rw [Launch.admits_selectMethod X.admits]; exact q4
  obtain ⟨cellS0, hcS0, hiss⟩ := Y.statics
  obtain ⟨u0, hu0⟩ := Cond.staticRefV Y.unassigned L.unassignedStatic L.statics hcS0 hiss (a' (.isRef (.static Bundle.tN "UNASSIGNED_STACK" Bundle.steD)) (by simp [zAtX]))
  obtain ⟨sen, hsen⟩ := Cond.staticRefV Y.sentinel L.sentinelStatic L.statics hcS0 hiss (a' (.isRef (.static Bundle.tN "SUPPRESSED_SENTINEL" Bundle.listD)) (by simp [zAtX]))
  obtain ⟨ci198, i198, fB, hk198, hg198, ha198, hsB, -, hnB, htB, hffB⟩ := Cond.ownField (t := .object "java/lang/Object") Y.found L.cls (by decide +kernel) (a' (.fieldLink Bundle.tN 198 Bundle.tN "backtrace" "Ljava/lang/Object;") (by simp [zAtX])) (a' (.lays Bundle.tN Bundle.tN "backtrace" "Ljava/lang/Object;") (by simp [zAtX])) e.platform hpl
  obtain ⟨cellS, hcS', heS, -, hkeep⟩ := X.same.2.2.2.2.2 T.aS cellS0 hcS0
  have hcellS : W.heap[T.aS]? = some cellS := hcS'
  have hout' : ∀ i, (⟨T.aS, i⟩ : Loc) ∉ locs := fun i hmem => by
    have := hlocs _ hmem cellS0 hcS0
    rw [hiss] at this; cases this
  have hknownS : cellS.vm ≠ .unknown := by
    rw [heS]; intro hu
    rw [show cellS0.vm = .unknown from hu] at hiss
    cases hiss
  have hneS : T.aS ≠ a := Nat.ne_of_lt (Nat.lt_of_lt_of_le (Array.getElem?_eq_some_iff.mp hcS0).1 hnew)
  obtain ⟨iM, hffM⟩ := Y.msg
  obtain ⟨tyC, dC, hdC, hdnC⟩ := Cond.laysAt hfound hk Y.cause (a' (.lays cls Bundle.tN "cause" "Ljava/lang/Throwable;") (by simp [zAtX]))
  obtain ⟨tyS, dS, hdS, hdnS⟩ := Cond.laysAt hfound hk Y.stack (a' (.lays cls Bundle.tN "stackTrace" Bundle.steD) (by simp [zAtX]))
  obtain ⟨tyP, dP, hdP, hdnP⟩ := Cond.laysAt hfound hk Y.supp (a' (.lays cls Bundle.tN "suppressedExceptions" Bundle.listD) (by simp [zAtX]))
  obtain ⟨tyM, dM, hdM, hdnM⟩ := Cond.laysAt hfound hk hffM (a' (.lays cls Bundle.tN "detailMessage" "Ljava/lang/String;") (by simp [zAtX]))
  obtain ⟨tyB, dB, hdB, hdnB⟩ := Cond.laysAt hfound hk hffB (a' (.lays cls Bundle.tN "backtrace" "Ljava/lang/Object;") (by simp [zAtX]))
  have bC := Cond.laysApart hdB hdC hdnB hdnC (by rw [hnB, Y.causeName]; decide)
  have bS := Cond.laysApart hdB hdS hdnB hdnS (by rw [hnB, Y.stackName]; decide)
  have bP := Cond.laysApart hdB hdP hdnB hdnP (by rw [hnB, Y.suppName]; decide)
  have hskip : SkipFacts T e.platform s (fun u => u) u0 ((preparedCellV T.toThrowableT (freshCell P1.m.cls kX) a u0 sen).withEntry W.cur) :=
    ⟨{ ci198 := ci198, i198 := i198, fBack := fB }, ⟨hk198, hg198, ha198, hsB⟩, by
      have := fresh_default (c := P1.m.cls) tyB
      rw [htB] at this
      simpa [preparedCellV, Cell.setSlot, Cell.withEntry, Array.getElem?_setIfInBounds, bC, bS, bP, bC.symm, bS.symm, bP.symm, defaultValue] using this, fun _ _ => rfl⟩
  obtain ⟨tm, methC, cdC, kC, vm₁, hnC, -, -, -, -, -, -, -, hW₁, st1⟩ := Steps.initColdS (tb := p.tables) (e := e) (below := below) (s := s) (U := W) X.here hexec X.warmed hpl hown (t := Bundle.initS cls) rfl rfl (Bundle.fit_spec hcls).2
    (a' (.methodLink own ic (Bundle.initS cls)) (by simp [zAtX])) (h (.instanceMethod (Bundle.initS cls)) (by cases names <;> simp [zAtX, zChX, Bundle.passSAtoms])) (bytes := rx) (maxL := 2) (h (.code (Bundle.initS cls) rx 2 none) (by cases names <;> simp [zAtX, zChX, Bundle.passSAtoms]))
    (f := g) hg (a := a) (msg := msg) (rest := .ref a :: rest) hstack hd6
  cases Option.some.inj (hnC.symm.trans hP1m)
  have X₁ := X.noted hW₁
  obtain ⟨vm₂, X₂, st2⟩ := X₁.ctorMessageOffV hexec (g := { g with stack := .ref a :: rest }) hg hsize T L Z LZ M LM (P1 :: Ps)
    (fun P hP => by rcases List.mem_cons.mp hP with rfl | hP; exact L1; exact hL P hP) ⟨hlink1, hlink⟩ (u0 := u0) (sen := sen) (self := a) hmsg (cell := freshCell P1.m.cls kX) (cellS := cellS)
    hcell (fun _ => by simp) (by simp) rfl rfl hsel0 hselF hcellS hneS hknownS (by rw [hkeep _ (hout' _)]; exact hu0) (by rw [hkeep _ (hout' _)]; exact hsen)
    (Takes.of_laid hk hord tyC (by rw [Y.causeType]; rfl)) (Takes.of_laid hk hord tyS (by rw [Y.stackType]; exact fits_refV_array _ u0)) (Takes.of_laid hk hord tyP (by rw [Y.suppType]; exact fits_refV_object _ sen))
    (Takes.of_laid hk hord tyM (by rw [Y.msgType]; exact fits_refV_object _ ⟨msg, hmsg⟩)) Y.objLocals hskip htr [] hd6
    (by simp only [List.length_cons, hlen]; omega) (by simp only [List.length_cons, hlen]; exact hRlocals)
  obtain ⟨hwalk, hrun, hended, hWU, hsame⟩ := X₂.athrowLeaves hexec (g := { g with stack := .ref a :: rest, pc := g.pc + 3 }) hg hlocked hentered hout (a := a) (rest := rest) rfl hd9
  obtain ⟨c3, c4, hc3, hc4, hasg⟩ := Cond.castable_spec (a' (.castable cls cls) (by simp [zAtX]))
  cases Option.some.inj (hc3.symm.trans hfound)
  cases Option.some.inj (hc4.symm.trans hfound)
  have hlt : a < ((W.setVm vm₁).setVm vm₂).heap.size := (Array.getElem?_eq_some_iff.mp hcell).1
  have hU := heapAt_setCell_self (s := (W.setVm vm₁).setVm vm₂) (plainBareV T.toThrowableT (freshCell P1.m.cls kX) a u0 sen msg) hlt
  have hnM : T.fMsg.name = "detailMessage" := (State.fieldFound?_type hffM (t := .object "java/lang/String") (by decide +kernel)).1
  have nCS := Cond.laysApart hdC hdS hdnC hdnS (by rw [Y.causeName, Y.stackName]; decide)
  have nCP := Cond.laysApart hdC hdP hdnC hdnP (by rw [Y.causeName, Y.suppName]; decide)
  have nCM := Cond.laysApart hdC hdM hdnC hdnM (by rw [Y.causeName, hnM]; decide)
  have nSP := Cond.laysApart hdS hdP hdnS hdnP (by rw [Y.stackName, Y.suppName]; decide)
  have nSM := Cond.laysApart hdS hdM hdnS hdnM (by rw [Y.stackName, hnM]; decide)
  have nPM := Cond.laysApart hdP hdM hdnP hdnM (by rw [Y.suppName, hnM]; decide)
  have lC : T.fCause.slot < kX.instanceTypes.size := (Array.getElem?_eq_some_iff.mp tyC).1
  have lS : T.fStack.slot < kX.instanceTypes.size := (Array.getElem?_eq_some_iff.mp tyS).1
  have lP : T.fSupp.slot < kX.instanceTypes.size := (Array.getElem?_eq_some_iff.mp tyP).1
  have lM : T.fMsg.slot < kX.instanceTypes.size := (Array.getElem?_eq_some_iff.mp tyM).1
  have evU : ∀ o, (Term.static Bundle.tN "UNASSIGNED_STACK" Bundle.steD).eval args s o [] s = some u0.v := by
    intro o
    simp [Term.eval, State.fieldNamed?, Y.unassigned, L.unassignedStatic, L.statics, hcS0, hiss, hu0]
  have evS : ∀ o, (Term.static Bundle.tN "SUPPRESSED_SENTINEL" Bundle.listD).eval args s o [] s = some sen.v := by
    intro o
    simp [Term.eval, State.fieldNamed?, Y.sentinel, L.sentinelStatic, L.statics, hcS0, hiss, hsen]
  refine ⟨_, st1 _ (fun acts => ?_), hrun, hended, hWU, hsame.weaken (fun y hy hlt' => ?_) (Nat.le_refl _) (Nat.le_refl _), _, hU, ?_⟩
  · rw [doInvoke_state]
    exact st2 _ hwalk
  · rcases List.mem_append.mp hy with h1 | h1
    · exact h1
    · exfalso
      have hb : y.base = a := by
        simp only [List.mem_cons, List.not_mem_nil, or_false] at h1
        rcases h1 with rfl | rfl | rfl | rfl | rfl <;> rfl
      rw [hb] at hlt'
      exact Nat.not_lt.mpr hnew hlt'
  · exact { cls := hfound, self := hasg, monitor := rfl, hash := rfl, vm := rfl, size := by simp [plainBareV, preparedCellV, Cell.setSlot, hn6]
            cause := ⟨_, _, _, _, Y.cause, by simp [plainBareV, preparedCellV, Cell.setSlot, nCS.symm, nCP.symm, nCM.symm, lC]⟩
            stack := ⟨_, _, _, _, u0, Y.stack, by simp [plainBareV, preparedCellV, Cell.setSlot, nSM.symm, lS], evU⟩
            supp := ⟨_, _, _, _, sen, Y.supp, by simp [plainBareV, preparedCellV, Cell.setSlot, nSP, nPM.symm, lP], evS⟩
            msg := ⟨_, _, _, _, hffM, by simp [plainBareV, preparedCellV, Cell.setSlot, lM]⟩
            other := fun O f d c k i fd hf hy n1 n2 n3 n4 => by
              obtain ⟨ty, dd, hdd, hddn⟩ := Cond.laysAt hfound hk hf hy
              have m1 := Cond.laysApart hdd hdC hddn hdnC (by rw [Y.causeName]; exact n1)
              have m2 := Cond.laysApart hdd hdS hddn hdnS (by rw [Y.stackName]; exact n2)
              have m3 := Cond.laysApart hdd hdP hddn hdnP (by rw [Y.suppName]; exact n3)
              have m4 := Cond.laysApart hdd hdM hddn hdnM (by rw [hnM]; exact n4)
              have := fresh_default (c := P1.m.cls) ty
              simpa [plainBareV, preparedCellV, Cell.setSlot, Array.getElem?_setIfInBounds, m1, m2, m3, m4, m1.symm, m2.symm, m3.symm, m4.symm] using this }
end ZCX
section ZTX
variable {p : Program} {l : Launch} {e : Env} {R : Room} {s : State} {m : MethodId} {args : Array Value} {below : List Frame} {meth : Method} {c : Code} {H : Heap} {locs : List Loc} {cells slots : Nat} {Q : State → Prop}
variable {mc ms : Nat} {free : Addr → Prop} {A0 A1 : Nat → Prop} {H0 : Heap} {a : Array Value} {ls : Array Slot} {st0 rest : List Value}
variable {Qc : Array Value → State → Outcome → State → Prop} {XC : String → State → State → Prop}
set_option maxHeartbeats 4000000 in
theorem zThrowX {cc : ByteArray} {pc : Nat} (hexec : p.tables.exec = Jvm.exec) (hb : c.code = cc) (hl : l.stackTraces = false) {own cls text : String} {names : List String} {ik is ic ix mc ms sa : Nat} {rx : ByteArray} (x0 : decode rx 0 = .ok (.aload_n 0, 1)) (x1 : decode rx 1 = .ok (.aload_n 1, 1)) (x2 : decode rx 2 = .ok (.invokespecial ix, 3)) (x5 : decode rx 5 = .ok (.return_, 1)) {A : Nat → Prop}
    (hown : s.vm.findClass own = some m.cls) (hcls : Bundle.fit cls = true) (hnames : ∀ n ∈ names, Bundle.fit n = true)
    (hk : (Cond.classLink own ik cls).before args s = true) (hini : (Cond.initialized cls).before args s = true) (hstr : vk_R own is text sa s) (hat : ∀ w ∈ (zAtX own ic cls ix rx names).filter vx_no, w.before args s = true)
    (hgood : ∀ w ∈ Cond.classLink own ik cls :: Cond.initialized cls :: (zAtX own ic cls ix rx names).filter vx_no, vx_ot w = true)
    (hU : vx_Zq Bundle.tN "UNASSIGNED_STACK" Bundle.steD A s s.heap) (hN : vx_Zq Bundle.tN "SUPPRESSED_SENTINEL" Bundle.listD A s s.heap) (hS : va_S A s.heap H locs) (hsize : ls.size = c.maxLocals)
    (d0 : decode cc pc = .ok (.new ik, 3)) (d3 : decode cc (pc + 3) = .ok (.dup, 1)) (d4 : decode cc (pc + 4) = .ok (.ldc is, 2)) (d6 : decode cc (pc + 6) = .ok (.invokespecial ic, 3)) (d9 : decode cc (pc + 9) = .ok (.athrow, 1))
    (hout : ∀ x ∈ c.exceptionTable.toList, covers x (pc + 9) = false)
    (hRframes : names.length + 3 < R.frames) (hRlocals : (rest.map fun v => v.category).sum + (13 * (names.length + 1) + 43) ≤ R.locals) (hRcells : cells + 1 ≤ R.cells) (hRslots : slots + 6 ≤ R.slots) (hlocks : meth.locks = false)
    (hx : ∀ t : State, s.vm.Alike t.vm → H.size ≤ t.heap.size → (∀ q : Nat, q < H.size → t.heap[q]? = H[q]?) → XC cls s t)
    (hf : ∀ z ∈ locs, free z.base) (hc : cells + 1 ≤ mc) (hs : slots + 6 ≤ ms) :
    W p l e R s m args below meth c H locs cells slots (vx_MQ below Qc XC args s mc ms free) (F0 m pc ls rest) := by
  intro T hT X
  have htr : e.platform.stackTraces = false := (show e.platform.stackTraces = l.stackTraces by rw [X.admits.platform]).trans hl
  have Y := vx_rebase X (R' := { frames := R.frames, locals := R.locals, cells := 1, slots := 6 }) (Nat.le_refl _) (Nat.le_refl _) hRcells hRslots
  obtain ⟨s', hA⟩ : ∃ z, z = (T.setVm s.vm).setFrames (.invoking m args :: below) := ⟨_, rfl⟩
  rw [← hA] at Y
  have hvm : s'.vm = s.vm := by rw [hA]; rfl
  have hhp : s'.heap = H := by rw [hA]; exact hT
  have hW0 : s.WarmedH s'.vm := by rw [hvm]; exact State.WarmedH.refl s
  have hat' : ∀ w ∈ (zAtX own ic cls ix rx names).filter vx_no, w.before args s' = true := fun w hw => vx_ot_at hW0 hvm.symm (hgood w (List.mem_cons_of_mem _ (List.mem_cons_of_mem _ hw))) (hat w hw)
  have hk' : (Cond.classLink own ik cls).before args s' = true := vx_ot_at hW0 hvm.symm (hgood _ List.mem_cons_self) hk
  have hini' : (Cond.initialized cls).before args s' = true := vx_ot_at hW0 hvm.symm (hgood _ (List.mem_cons_of_mem _ List.mem_cons_self)) hini
  have hU' : vx_Zq Bundle.tN "UNASSIGNED_STACK" Bundle.steD A s' s'.heap := by rw [hhp]; exact vx_Zq.moved hW0.alike (hU.kept hS.2.1)
  have hN' : vx_Zq Bundle.tN "SUPPRESSED_SENTINEL" Bundle.listD A s' s'.heap := by rw [hhp]; exact vx_Zq.moved hW0.alike (hN.kept hS.2.1)
  have h : ∀ w ∈ zAtX own ic cls ix rx names, w.before args s' = true := vx_own hat' (vx_isRefq hU'.1) (vx_isRefq hN'.1) hU'.2.word hN'.2.word
  have hown' : s'.vm.findClass own = some m.cls := by rw [hvm]; exact hown
  have hins : (Cond.instantiable cls 6).before args s' = true := h _ (by simp [zAtX])
  obtain ⟨vm₁, cX, kX, hfX, hkX, -, -, X₁, st1⟩ := Y.newCold hexec (own := own) (C := cls) (index := ik) (n := 6) hown' hk' hins hini'
    (g := F0 m pc ls rest) rfl (by rw [hb]; exact d0) (Nat.le_refl _) (Nat.le_refl _)
  generalize hT1 : (T.setVm vm₁).pushCell { cls := cX, slots := kX.instanceTypes.map defaultValue, vm := .none } = T1 at X₁ st1
  have hcat : (Value.ref T.heap.size).category = 1 := rfl
  have hcellA : T1.heap[T.heap.size]? = some (freshCell cX kX) := by rw [← hT1]; exact State.heap_pushCell_size _ _
  have d3' : decode c.code (pc + 3) = .ok (.dup, 1) := by rw [hb]; exact d3
  have d4' : decode c.code (pc + 4) = .ok (.ldc is, 2) := by rw [hb]; exact d4
  have hstr' : vk_R own is text sa s' := vk_R.warm hW0 hstr
  obtain ⟨U, hsteps, hrun, hend, hW, hsame, ce, hce, hO⟩ := zCtorX X₁ hexec htr x0 x1 x2 x5 (own := own) (cls := cls) (names := names) (ic := ic) hown' hcls hnames h (fun x hx => nomatch hx) hfX hkX hcellA (by rw [hhp, hT]; exact Nat.le_refl _) (msg := .ref sa) rfl
    (g := { method := m, pc := pc + 6, locals := ls, stack := .ref sa :: .ref T.heap.size :: .ref T.heap.size :: rest, locked := none }) rfl hsize rfl rfl (rest := rest) rfl
    (by rw [hb]; exact d6) (by rw [hb]; exact d9) hout hRframes (by simp only [List.map_cons, List.sum_cons, hcat]; omega) hlocks
  obtain ⟨f1, f2⟩ := vx_frame hsame
  rw [hhp] at f1 f2
  have hWs : s.WarmedH U.vm := State.WarmedH.trans hW0 hW
  have hcl : s.vm.findClass cls = some ce.cls := by
    have h9 := hO.cls
    rw [hvm] at h9
    exact h9
  have hall : s.sameButNew ({ U with vm := s.vm } : State) locs mc ms := by
    subst hA
    obtain ⟨e1, e2⟩ := hsame
    rw [State.setFrames_setFrames] at e1
    have h2 : (T.setVm s.vm).sameButNew ({ U with vm := s.vm } : State) [] (0 + 1) (0 + 6) := ⟨e1, e2⟩
    have h3 := X.same.trans h2
    rw [List.append_nil] at h3
    exact h3.mono hc hs
  refine ⟨U, ?_, .threw T.heap.size, hrun, hend, Or.inr ⟨T.heap.size, rfl, cls, ce, locs, hx U hWs.alike f1 (fun q hq => f2 q hq (fun z hz => nomatch hz)), hce, hO.vm, hcl, hWs, hall, hf⟩⟩
  refine st1 _ ?_
  show Steps p.tables e below (T1.setTop { method := m, pc := pc + 3, locals := ls, stack := .ref T.heap.size :: rest, locked := none }) _
  jvm_step X₁.here [X₁.here.top, hexec, d3', Value.category]
  exact X₁.ldcString hexec (own := own) (text := text) (index := is) (a := sa) hown' hstr'.1 hstr'.2
    (g := { method := m, pc := pc + 4, locals := ls, stack := .ref T.heap.size :: .ref T.heap.size :: rest, locked := none }) rfl d4' _ hsteps
end ZTX
/-- 'new NoSuchElementException("..")' in the code of M -/
def zThX (M : zM) (ik ic ix : Nat) (rx : ByteArray) (cls : String) : Prop := Bundle.fit cls = true ∧ Cond.classLink M.1.cls ik cls ∈ zT ∧ Cond.initialized cls ∈ zT ∧ (∀ w ∈ ((zAtX M.1.cls ic cls ix rx zEx).filter vx_no).filter goodWord, w ∈ zT) ∧ (∀ w ∈ ((zAtX M.1.cls ic cls ix rx zEx).filter vx_no).filter (fun w => !goodWord w), w ∈ zNw) ∧ (∀ w ∈ Cond.classLink M.1.cls ik cls :: Cond.initialized cls :: (zAtX M.1.cls ic cls ix rx zEx).filter vx_no, vx_ot w = true) ∧ decode rx 0 = .ok (.aload_n 0, 1) ∧ decode rx 1 = .ok (.aload_n 1, 1) ∧ decode rx 2 = .ok (.invokespecial ix, 3) ∧ decode rx 5 = .ok (.return_, 1)
theorem Ev.throwX {G : zG} {M : zM} {pc pc9 : Nat} {ls st : List zSV} {sh : List (Nat × Nat)} {rf : Nat → Nat → Option Nat} {ia : Nat → Int → Int} {w : (Nat → Int → Int) × (Nat → Int → Int)} {p1 p2 p3 p4 p5 ik ic is ix : Nat} {rx : ByteArray} {cls tx : String} (i : Nat) (hl9 : zThX M ik ic ix rx cls) (f0 : zf M pc = some (.new ik, 3, p1)) (f1 : zf M p1 = some (.dup, 1, p2)) (f2 : zf M p2 = some (.ldc is, 2, p3)) (f3 : zf M p3 = some (.invokespecial ic, 3, p4)) (f4 : zf M p4 = some (.athrow, 1, p5)) (hs9 : zSK[i]? = some (M.1.cls, is, tx)) (hh : M.2.2.2.2.1 = []) (hfr : 6 ≤ M.2.2.2.2.2.1) (hlo : (st.map zcat).sum + 82 ≤ M.2.2.2.2.2.2) :
    Ev G M pc ls st (sh, rf, ia, w) (.inr cls, (sh, rf, ia, w), 1, 6) := by
  intro p l e R s m args below meth cd C A hA hE hK ad0 n0 ad H locs cells slots la ha hn hP hD hS hl hcs hss
  obtain ⟨d0, rfl⟩ := zf_ok f0
  obtain ⟨d1, rfl⟩ := zf_ok f1
  obtain ⟨d2, rfl⟩ := zf_ok f2
  obtain ⟨d3, rfl⟩ := zf_ok f3
  obtain ⟨d4, rfl⟩ := zf_ok f4
  obtain ⟨hfit, hk, hini, hg1, hg2, hgood, x0, x1, x2, x5⟩ := hl9
  have hts := C.2.2.2.2.2.2.1
  have hat : ∀ w ∈ (zAtX M.1.cls ic cls ix rx zEx).filter vx_no, w.before args s = true := vx_hat (B := zNw) (fun w hw => hts w (hg1 w hw)) hg2 (fun w hw => va_Nw.use (zNw_ot hw) (hE.1 w hw))
  refine zThrowX (names := zEx) (A := A) (own := M.1.cls) (cls := cls) (text := tx) (sa := G.2.2.1 i) C.1 C.2.1 C.2.2.2.2.2.2.2.2.1 x0 x1 x2 x5 C.2.2.2.2.1 hfit zEx_fit (hts _ hk) (hts _ hini) (hE.2.2.1 i _ hs9) hat hgood hE.2.2.2.1 hE.2.2.2.2.1 hS (hl.1.trans C.2.2.1.symm) d0 d1 d2 d3 d4 (fun x hx => ?_) (Nat.lt_of_lt_of_le hfr C.2.2.2.2.2.2.2.2.2.1) (by rw [zcats]; exact Nat.le_trans hlo C.2.2.2.2.2.2.2.2.2.2.1) hcs hss C.2.2.2.2.2.1 (fun t hal hsz hq => ?_) hS.2.2 hcs hss
  · rw [C.2.2.2.2.2.2.2.1, hh] at hx
    cases hx
  · exact ⟨⟨ad, rfl, hP.kept (fun k q hk => hq _ (vx_lt hP hk)), hD, ha⟩, Nat.le_trans hS.1 hsz, fun q h1 h2 => (hq q (Nat.lt_of_lt_of_le h1 hS.1)).trans (hS.2.1 q h1 h2)⟩
end
section
/-! METHODS AND LINKS (printed by wip/whole/gen/tabs.py) -/
def mX0_init : zM := (yX0_init, cX0_init, 1, none, [], 2, 32)
def mX0_copyFrom : zM := (yX0_copyFrom, cX0_copyFrom, 2, none, [], 2, 39)
def mX0_noteIn : zM := (yX0_noteIn, cX0_noteIn, 3, none, [], 1, 20)
def mX0_returnTo : zM := (yX0_returnTo, cX0_returnTo, 3, none, [], 1, 21)
def mX0_ledgerOf : zM := (yX0_ledgerOf, cX0_ledgerOf, 2, (some .int), [], 1, 20)
def mX0_giveLedger : zM := (yX0_giveLedger, cX0_giveLedger, 3, none, [], 1, 21)
def mX0_housesWith : zM := (yX0_housesWith, cX0_housesWith, 4, (some .int), [], 2, 41)
def mX0_versionsOfHouses : zM := (yX0_versionsOfHouses, cX0_versionsOfHouses, 3, (some .int), [], 3, 64)
def mX1_init : zM := (yX1_init, cX1_init, 1, none, [], 3, 52)
def mX1_carryOut : zM := (yX1_carryOut, cX1_carryOut, 3, (some .int), [], 5, 118)
def mX1_enter : zM := (yX1_enter, cX1_enter, 5, (some .int), [], 4, 92)
def mX1_copyLines : zM := (yX1_copyLines, cX1_copyLines, 6, (some .int), [], 4, 93)
def mX1_takeOver : zM := (yX1_takeOver, cX1_takeOver, 4, (some .int), [], 2, 43)
def mX1_goBack : zM := (yX1_goBack, cX1_goBack, 5, (some .int), [], 3, 66)
def mX1_letGoBy : zM := (yX1_letGoBy, cX1_letGoBy, 2, (some .int), [], 1, 22)
def mX2_init : zM := (yX2_init, cX2_init, 1, none, [], 1, 12)
def mX2_size : zM := (yX2_size, cX2_size, 1, (some .int), [], 0, 0)
def mX2_isFull : zM := (yX2_isFull, cX2_isFull, 1, (some .boolean), [], 0, 0)
def mX2_put : zM := (yX2_put, cX2_put, 2, none, [], 1, 20)
def mX2_clear : zM := (yX2_clear, cX2_clear, 1, none, [], 0, 0)
def mX2_rewind : zM := (yX2_rewind, cX2_rewind, 1, none, [], 0, 0)
def mX2_kind : zM := (yX2_kind, cX2_kind, 1, (some .char), [], 0, 0)
def mX2_number : zM := (yX2_number, cX2_number, 2, (some .int), [], 0, 0)
def mX2_findFault : zM := (yX2_findFault, cX2_findFault, 2, (some .int), [], 5, 110)
def mX2_readCommand : zM := (yX2_readCommand, cX2_readCommand, 6, (some .boolean), [], 4, 85)
def mX2_readSign : zM := (yX2_readSign, cX2_readSign, 2, (some .boolean), [], 1, 20)
def mX2_readNumber : zM := (yX2_readNumber, cX2_readNumber, 5, (some .boolean), [], 1, 20)
def mX2_signAhead : zM := (yX2_signAhead, cX2_signAhead, 1, (some .char), [], 0, 0)
def mX2_formOf : zM := (yX2_formOf, cX2_formOf, 1, (some (.object "java/lang/String")), [], 0, 0)
def mX3_init : zM := (yX3_init, cX3_init, 1, none, [], 1, 12)
def mX3_size : zM := (yX3_size, cX3_size, 1, (some .int), [], 0, 0)
def mX3_note : zM := (yX3_note, cX3_note, 2, none, [], 2, 42)
def mX3_takeBack : zM := (yX3_takeBack, cX3_takeBack, 2, none, [], 2, 43)
def mX3_keep : zM := (yX3_keep, cX3_keep, 1, none, [], 1, 18)
def mX3_dropLatest : zM := (yX3_dropLatest, cX3_dropLatest, 1, none, [], 0, 0)
def mX3_forget : zM := (yX3_forget, cX3_forget, 1, none, [], 0, 0)
def mX4_init : zM := (yX4_init, cX4_init, 1, none, [], 1, 12)
def mX4_refuse : zM := (yX4_refuse, cX4_refuse, 3, (some .int), [], 0, 0)
def mX5_init : zM := (yX5_init, cX5_init, 1, none, [], 1, 12)
def mX5_size : zM := (yX5_size, cX5_size, 1, (some .int), [], 0, 0)
def mX5_signAt : zM := (yX5_signAt, cX5_signAt, 2, (some .char), [], 0, 0)
def mX5_clear : zM := (yX5_clear, cX5_clear, 1, none, [], 0, 0)
def mX5_put : zM := (yX5_put, cX5_put, 2, none, [], 0, 0)
def mX5_separate : zM := (yX5_separate, cX5_separate, 2, none, [], 1, 21)
def mX5_putNumber : zM := (yX5_putNumber, cX5_putNumber, 2, none, [], 1, 21)
def mX6_init : zM := (yX6_init, cX6_init, 1, none, [], 1, 12)
def mX6_copyFrom : zM := (yX6_copyFrom, cX6_copyFrom, 2, none, [], 1, 18)
def mX6_size : zM := (yX6_size, cX6_size, 1, (some .int), [], 0, 0)
def mX6_forgetFrom : zM := (yX6_forgetFrom, cX6_forgetFrom, 2, none, [], 0, 0)
def mX6_has : zM := (yX6_has, cX6_has, 2, (some .boolean), [], 0, 0)
def mX6_isFull : zM := (yX6_isFull, cX6_isFull, 1, (some .boolean), [], 0, 0)
def mX6_parentOf : zM := (yX6_parentOf, cX6_parentOf, 2, (some .int), [], 1, 21)
def mX6_yearOf : zM := (yX6_yearOf, cX6_yearOf, 2, (some .int), [], 1, 21)
def mX6_makerOf : zM := (yX6_makerOf, cX6_makerOf, 3, (some .int), [], 1, 21)
def mX6_totalOf : zM := (yX6_totalOf, cX6_totalOf, 4, (some .int), [], 1, 21)
def mX6_amountOn : zM := (yX6_amountOn, cX6_amountOn, 3, (some .int), [], 2, 44)
def mX6_addWritten : zM := (yX6_addWritten, cX6_addWritten, 7, (some .int), [], 3, 66)
def mX6_addGrafted : zM := (yX6_addGrafted, cX6_addGrafted, 8, (some .int), [], 3, 66)
def mX6_addChild : zM := (yX6_addChild, cX6_addChild, 4, (some .int), [], 1, 21)
def mX6_makePage : zM := (yX6_makePage, cX6_makePage, 4, none, [], 1, 21)
def mX6_takePage : zM := (yX6_takePage, cX6_takePage, 4, none, [], 1, 21)
def mX6_totalOfHalves : zM := (yX6_totalOfHalves, cX6_totalOfHalves, 3, (some .int), [], 2, 44)
def mX6_sumByPages : zM := (yX6_sumByPages, cX6_sumByPages, 7, (some .int), [], 2, 44)
def mX6_sumByLines : zM := (yX6_sumByLines, cX6_sumByLines, 6, (some .int), [], 3, 66)
def mX6_lineWithMost : zM := (yX6_lineWithMost, cX6_lineWithMost, 6, (some .int), [], 3, 66)
def mX6_lineReaching : zM := (yX6_lineReaching, cX6_lineReaching, 5, (some .int), [], 3, 66)
def mX6_earlier : zM := (yX6_earlier, cX6_earlier, 5, (some .int), [], 2, 42)
def mX6_ancestorsOf : zM := (yX6_ancestorsOf, cX6_ancestorsOf, 4, (some .int), [], 2, 42)
def mX6_childrenOf : zM := (yX6_childrenOf, cX6_childrenOf, 4, (some .int), [], 2, 42)
def mX6_withoutChildren : zM := (yX6_withoutChildren, cX6_withoutChildren, 3, (some .int), [], 3, 65)
def mX6_pagesMadeBy : zM := (yX6_pagesMadeBy, cX6_pagesMadeBy, 4, (some .int), [], 2, 43)
def mX6_pagesMade : zM := (yX6_pagesMade, cX6_pagesMade, 3, (some .int), [], 3, 66)
def mX6_linesNewIn : zM := (yX6_linesNewIn, cX6_linesNewIn, 3, (some .int), [], 4, 92)
def mX6_linesApart : zM := (yX6_linesApart, cX6_linesApart, 7, (some .int), [], 3, 66)
def mX6_othersAlike : zM := (yX6_othersAlike, cX6_othersAlike, 4, (some .int), [], 4, 92)
def mX6_latestByYear : zM := (yX6_latestByYear, cX6_latestByYear, 5, (some .int), [], 2, 42)
def mX6_earliestWithAmountOf : zM := (yX6_earliestWithAmountOf, cX6_earliestWithAmountOf, 7, (some .int), [], 3, 66)
def mX6_latestCommon : zM := (yX6_latestCommon, cX6_latestCommon, 6, (some .int), [], 2, 42)
def mX6_pagesInBoth : zM := (yX6_pagesInBoth, cX6_pagesInBoth, 5, (some .int), [], 2, 43)
def mX6_usersOf : zM := (yX6_usersOf, cX6_usersOf, 5, (some .int), [], 2, 43)
def mX6_atPlace : zM := (yX6_atPlace, cX6_atPlace, 3, (some .int), [], 3, 69)
def mX6_versionsAheadOf : zM := (yX6_versionsAheadOf, cX6_versionsAheadOf, 6, (some .int), [], 2, 44)
def mX6_withMostPagesOfOthers : zM := (yX6_withMostPagesOfOthers, cX6_withMostPagesOfOthers, 5, (some .int), [], 4, 90)
def mX6_pagesOfOthersMadeBy : zM := (yX6_pagesOfOthersMadeBy, cX6_pagesOfOthersMadeBy, 4, (some .int), [], 3, 67)
def mX7_init : zM := (yX7_init, cX7_init, 1, none, [], 4, 72)
def mX7_write : zM := (yX7_write, cX7_write, 4, (some .int), [], 7, 116)
def mX7_graft : zM := (yX7_graft, cX7_graft, 5, (some .int), [], 7, 118)
def mX7_fork : zM := (yX7_fork, cX7_fork, 3, (some .int), [], 7, 103)
def mX7_back : zM := (yX7_back, cX7_back, 3, (some .int), [], 7, 103)
def mX7_pass : zM := (yX7_pass, cX7_pass, 2, (some .int), [], 7, 103)
def mX7_ledger : zM := (yX7_ledger, cX7_ledger, 2, (some .int), [], 7, 102)
def mX7_amount : zM := (yX7_amount, cX7_amount, 3, (some .int), [], 7, 103)
def mX7_sum : zM := (yX7_sum, cX7_sum, 4, (some .int), [], 7, 103)
def mX7_sumAgain : zM := (yX7_sumAgain, cX7_sumAgain, 4, (some .int), [], 7, 103)
def mX7_most : zM := (yX7_most, cX7_most, 4, (some .int), [], 7, 103)
def mX7_reached : zM := (yX7_reached, cX7_reached, 4, (some .int), [], 7, 103)
def mX7_versionOf : zM := (yX7_versionOf, cX7_versionOf, 3, (some .int), [], 7, 114)
def mX7_maker : zM := (yX7_maker, cX7_maker, 3, (some .int), [], 7, 103)
def mX7_had : zM := (yX7_had, cX7_had, 3, (some .int), [], 7, 102)
def mX7_since : zM := (yX7_since, cX7_since, 3, (some .int), [], 7, 103)
def mX7_common : zM := (yX7_common, cX7_common, 3, (some .int), [], 7, 103)
def mX7_apart : zM := (yX7_apart, cX7_apart, 3, (some .int), [], 7, 103)
def mX7_shared : zM := (yX7_shared, cX7_shared, 3, (some .int), [], 7, 103)
def mX7_isOf : zM := (yX7_isOf, cX7_isOf, 3, (some .boolean), [], 7, 103)
def mX7_users : zM := (yX7_users, cX7_users, 3, (some .int), [], 7, 103)
def mX7_wouldMake : zM := (yX7_wouldMake, cX7_wouldMake, 5, (some .int), [], 7, 103)
def mX7_alike : zM := (yX7_alike, cX7_alike, 2, (some .int), [], 7, 115)
def mX7_richest : zM := (yX7_richest, cX7_richest, 3, (some .int), [], 6, 91)
def mX7_busiest : zM := (yX7_busiest, cX7_busiest, 1, (some .int), [], 6, 114)
def mX7_append : zM := (yX7_append, cX7_append, 2, (some .int), [], 6, 82)
def mX7_commands : zM := (yX7_commands, cX7_commands, 3, (some .int), [], 7, 140)
def mX7_faultPosition : zM := (yX7_faultPosition, cX7_faultPosition, 1, (some .int), [], 0, 0)
def mX7_reason : zM := (yX7_reason, cX7_reason, 2, (some .int), [], 6, 82)
def mX7_line : zM := (yX7_line, cX7_line, 4, (some .int), [], 7, 103)
def mX7_lineage : zM := (yX7_lineage, cX7_lineage, 4, (some .int), [], 7, 103)
def mX7_character : zM := (yX7_character, cX7_character, 2, (some .char), [], 6, 82)
def mX7_mean : zM := (yX7_mean, cX7_mean, 2, (some .double), [], 7, 103)
def mX7_spared : zM := (yX7_spared, cX7_spared, 2, (some .float), [], 4, 88)
def mX7_account : zM := (yX7_account, cX7_account, 2, (some .int), [], 6, 88)
def mX7_undo : zM := (yX7_undo, cX7_undo, 1, (some .int), [], 6, 82)
def mX7_save : zM := (yX7_save, cX7_save, 1, (some .int), [], 3, 60)
def mX7_restore : zM := (yX7_restore, cX7_restore, 1, (some .int), [], 6, 82)
def mX7_settled : zM := (yX7_settled, cX7_settled, 2, (some .int), [], 6, 82)
def mX7_checkVersion : zM := (yX7_checkVersion, cX7_checkVersion, 2, none, [], 6, 82)
def mX7_checkHouse : zM := (yX7_checkHouse, cX7_checkHouse, 1, none, [], 6, 82)
def mX7_checkLines : zM := (yX7_checkLines, cX7_checkLines, 2, none, [], 6, 82)
def mX7_checkSpan : zM := (yX7_checkSpan, cX7_checkSpan, 1, none, [], 6, 82)
def mX7_isHouse : zM := (yX7_isHouse, cX7_isHouse, 1, (some .boolean), [], 0, 0)
def mX7_isLine : zM := (yX7_isLine, cX7_isLine, 1, (some .boolean), [], 0, 0)
def mX7_isSpan : zM := (yX7_isSpan, cX7_isSpan, 1, (some .boolean), [], 0, 0)
def mX7_isInside : zM := (yX7_isInside, cX7_isInside, 3, (some .boolean), [], 1, 20)
def mX7_isCut : zM := (yX7_isCut, cX7_isCut, 3, (some .boolean), [], 1, 20)
def mX7_isDigit : zM := (yX7_isDigit, cX7_isDigit, 1, (some .boolean), [], 0, 0)
def mX8_init : zM := (yX8_init, cX8_init, 3, none, [], 1, 12)
def mX8_thrown : zM := (yX8_thrown, cX8_thrown, 1, (some .int), [], 0, 0)
def mX8_fails : zM := (yX8_fails, cX8_fails, 2, (some .boolean), [], 0, 0)
def mX8_refuses : zM := (yX8_refuses, cX8_refuses, 3, (some .int), [], 0, 0)
def mX8_in : zM := (yX8_in, cX8_in, 3, (some .boolean), [], 0, 0)
def mX8_copies : zM := (yX8_copies, cX8_copies, 5, none, [], 0, 0)
def mX8_keeps : zM := (yX8_keeps, cX8_keeps, 3, none, [], 1, 24)
def mX8_of : zM := (yX8_of, cX8_of, 3, (some .int), [], 0, 0)
def mX8_lays : zM := (yX8_lays, cX8_lays, 4, none, [], 0, 0)
def mX8_isVersion : zM := (yX8_isVersion, cX8_isVersion, 2, (some .boolean), [], 1, 22)
def mX8_isHouse : zM := (yX8_isHouse, cX8_isHouse, 1, (some .boolean), [], 1, 22)
def mX8_isLine : zM := (yX8_isLine, cX8_isLine, 1, (some .boolean), [], 1, 22)
def mX8_amountOf : zM := (yX8_amountOf, cX8_amountOf, 3, (some .int), [], 1, 22)
def mX8_has : zM := (yX8_has, cX8_has, 4, (some .boolean), [], 0, 0)
def mX8_isWithin0 : zM := (yX8_isWithin0, cX8_isWithin0, 4, (some .boolean), [], 0, 0)
def mX8_comes : zM := (yX8_comes, cX8_comes, 5, (some .int), [], 1, 23)
def mX8_write : zM := (yX8_write, cX8_write, 6, (some .int), [], 2, 47)
def mX8_areLike : zM := (yX8_areLike, cX8_areLike, 6, (some .boolean), [], 2, 44)
def mX8_graft : zM := (yX8_graft, cX8_graft, 7, (some .int), [], 3, 69)
def mX8_fork : zM := (yX8_fork, cX8_fork, 3, (some .int), [], 2, 46)
def mX8_ancestors : zM := (yX8_ancestors, cX8_ancestors, 4, (some .int), [], 1, 22)
def mX8_back : zM := (yX8_back, cX8_back, 5, (some .int), [], 2, 46)
def mX8_pass : zM := (yX8_pass, cX8_pass, 2, (some .int), [], 2, 46)
def mX8_ledger : zM := (yX8_ledger, cX8_ledger, 2, (some .int), [], 2, 42)
def mX8_amount : zM := (yX8_amount, cX8_amount, 3, (some .int), [], 2, 44)
def mX8_sumOf : zM := (yX8_sumOf, cX8_sumOf, 6, (some .int), [], 2, 44)
def mX8_areLines : zM := (yX8_areLines, cX8_areLines, 2, (some .boolean), [], 2, 42)
def mX8_sum : zM := (yX8_sum, cX8_sum, 4, (some .int), [], 3, 69)
def mX8_sumAgain : zM := (yX8_sumAgain, cX8_sumAgain, 4, (some .int), [], 4, 92)
def mX8_most : zM := (yX8_most, cX8_most, 6, (some .int), [], 3, 63)
def mX8_reached : zM := (yX8_reached, cX8_reached, 4, (some .int), [], 3, 69)
def mX8_children : zM := (yX8_children, cX8_children, 4, (some .int), [], 1, 22)
def mX8_made : zM := (yX8_made, cX8_made, 4, (some .int), [], 1, 22)
def mX8_apart0 : zM := (yX8_apart0, cX8_apart0, 5, (some .int), [], 2, 44)
def mX8_houses : zM := (yX8_houses, cX8_houses, 4, (some .int), [], 0, 0)
def mX8_versionOf : zM := (yX8_versionOf, cX8_versionOf, 3, (some .int), [], 3, 68)
def mX8_maker : zM := (yX8_maker, cX8_maker, 3, (some .int), [], 2, 43)
def mX8_had : zM := (yX8_had, cX8_had, 4, (some .int), [], 2, 42)
def mX8_since : zM := (yX8_since, cX8_since, 4, (some .int), [], 2, 44)
def mX8_areVersions : zM := (yX8_areVersions, cX8_areVersions, 3, (some .boolean), [], 2, 43)
def mX8_common : zM := (yX8_common, cX8_common, 5, (some .int), [], 3, 65)
def mX8_apart : zM := (yX8_apart, cX8_apart, 3, (some .int), [], 3, 68)
def mX8_shared : zM := (yX8_shared, cX8_shared, 5, (some .int), [], 3, 65)
def mX8_isOf : zM := (yX8_isOf, cX8_isOf, 4, (some .boolean), [], 3, 65)
def mX8_usersOf : zM := (yX8_usersOf, cX8_usersOf, 5, (some .int), [], 1, 22)
def mX8_users : zM := (yX8_users, cX8_users, 3, (some .int), [], 2, 46)
def mX8_wouldMake : zM := (yX8_wouldMake, cX8_wouldMake, 5, (some .int), [], 3, 63)
def mX8_alike : zM := (yX8_alike, cX8_alike, 4, (some .int), [], 3, 68)
def mX8_richest : zM := (yX8_richest, cX8_richest, 7, (some .int), [], 3, 69)
def mX8_lent : zM := (yX8_lent, cX8_lent, 4, (some .int), [], 2, 46)
def mX8_busiest : zM := (yX8_busiest, cX8_busiest, 3, (some .int), [], 3, 69)
def mX8_append : zM := (yX8_append, cX8_append, 2, (some .int), [], 1, 21)
def mX8_here : zM := (yX8_here, cX8_here, 1, (some .int), [], 0, 0)
def mX8_skips : zM := (yX8_skips, cX8_skips, 2, (some .boolean), [], 1, 20)
def mX8_figures : zM := (yX8_figures, cX8_figures, 4, (some .boolean), [], 1, 22)
def mX8_commandHere : zM := (yX8_commandHere, cX8_commandHere, 2, (some .boolean), [], 2, 45)
def mX8_isText : zM := (yX8_isText, cX8_isText, 1, (some .boolean), [], 3, 66)
def mX8_carries : zM := (yX8_carries, cX8_carries, 2, (some .int), [], 4, 95)
def mX8_commands : zM := (yX8_commands, cX8_commands, 3, (some .int), [], 5, 116)
def mX8_faultPosition : zM := (yX8_faultPosition, cX8_faultPosition, 1, (some .int), [], 0, 0)
def mX8_reason : zM := (yX8_reason, cX8_reason, 2, (some .int), [], 1, 22)
def mX8_writes : zM := (yX8_writes, cX8_writes, 2, none, [], 0, 0)
def mX8_writesNumber : zM := (yX8_writesNumber, cX8_writesNumber, 2, none, [], 1, 21)
def mX8_line : zM := (yX8_line, cX8_line, 3, (some .int), [], 2, 44)
def mX8_lineage : zM := (yX8_lineage, cX8_lineage, 3, (some .int), [], 2, 43)
def mX8_character : zM := (yX8_character, cX8_character, 2, (some .char), [], 1, 22)
def mX8_mean : zM := (yX8_mean, cX8_mean, 2, (some .double), [], 3, 69)
def mX8_allMade : zM := (yX8_allMade, cX8_allMade, 3, (some .int), [], 2, 45)
def mX8_spared : zM := (yX8_spared, cX8_spared, 1, (some .float), [], 3, 67)
def mX8_versionsThat : zM := (yX8_versionsThat, cX8_versionsThat, 4, (some .int), [], 2, 45)
def mX8_account : zM := (yX8_account, cX8_account, 2, (some .int), [], 3, 68)
def mX8_undo : zM := (yX8_undo, cX8_undo, 1, (some .int), [], 1, 24)
def mX8_save : zM := (yX8_save, cX8_save, 1, (some .int), [], 1, 24)
def mX8_restore : zM := (yX8_restore, cX8_restore, 1, (some .int), [], 1, 24)
def mJ0_length_8abf5 : zM := (yJ0_length_8abf5, cJ0_length_8abf5, 1, (some .int), [], 1, 20)
def mJ0_isEmpty_aae02 : zM := (yJ0_isEmpty_aae02, cJ0_isEmpty_aae02, 1, (some .boolean), [], 0, 0)
def mJ0_charAt_5068e : zM := (yJ0_charAt_5068e, cJ0_charAt_5068e, 2, (some .char), [], 3, 64)
def mJ0_coder_7d493 : zM := (yJ0_coder_7d493, cJ0_coder_7d493, 1, (some .byte), [], 0, 0)
def mJ0_isLatin1_aae02 : zM := (yJ0_isLatin1_aae02, cJ0_isLatin1_aae02, 1, (some .boolean), [], 0, 0)
def mJ0_checkIndex_df160 : zM := (yJ0_checkIndex_df160, cJ0_checkIndex_df160, 2, none, [], 1, 22)
def mJ1_charAt_3b067 : zM := (yJ1_charAt_3b067, cJ1_charAt_3b067, 2, (some .char), [], 2, 43)
def mJ3_checkIndex_8e157 : zM := (yJ3_checkIndex_8e157, cJ3_checkIndex_8e157, 3, (some .int), [], 0, 0)
def mL_write : zM := (yL_write, cL_write, 6, (some .int), [(0, 12, 15, 13)], 8, 139)
def mL_graft : zM := (yL_graft, cL_graft, 7, (some .int), [(0, 14, 17, 13)], 8, 142)
def mL_fork : zM := (yL_fork, cL_fork, 5, (some .int), [(0, 10, 13, 13)], 8, 125)
def mL_back : zM := (yL_back, cL_back, 5, (some .int), [(0, 10, 13, 13)], 8, 125)
def mL_pass : zM := (yL_pass, cL_pass, 4, (some .int), [(0, 9, 12, 13)], 8, 124)
def mL_ledger : zM := (yL_ledger, cL_ledger, 4, (some .int), [(0, 9, 12, 33)], 8, 123)
def mL_amount : zM := (yL_amount, cL_amount, 5, (some .int), [(0, 10, 13, 33), (0, 10, 17, 38)], 8, 125)
def mL_sum : zM := (yL_sum, cL_sum, 6, (some .int), [(0, 12, 15, 33), (0, 12, 19, 38)], 8, 126)
def mL_sumAgain : zM := (yL_sumAgain, cL_sumAgain, 6, (some .int), [(0, 12, 15, 33), (0, 12, 19, 38)], 8, 126)
def mL_most : zM := (yL_most, cL_most, 6, (some .int), [(0, 12, 15, 33), (0, 12, 19, 38)], 8, 126)
def mL_reached : zM := (yL_reached, cL_reached, 5, (some .int), [(0, 10, 13, 33), (0, 10, 17, 52)], 8, 126)
def mL_versionOf : zM := (yL_versionOf, cL_versionOf, 5, (some .int), [(0, 10, 13, 33), (0, 10, 17, 38)], 8, 136)
def mL_maker : zM := (yL_maker, cL_maker, 5, (some .int), [(0, 10, 13, 33), (0, 10, 17, 38)], 8, 125)
def mL_had : zM := (yL_had, cL_had, 5, (some .int), [(0, 10, 13, 33), (0, 10, 17, 38)], 8, 124)
def mL_since : zM := (yL_since, cL_since, 5, (some .int), [(0, 10, 13, 33), (0, 10, 17, 38)], 8, 125)
def mL_common : zM := (yL_common, cL_common, 5, (some .int), [(0, 10, 13, 33)], 8, 125)
def mL_apart : zM := (yL_apart, cL_apart, 5, (some .int), [(0, 10, 13, 33)], 8, 125)
def mL_shared : zM := (yL_shared, cL_shared, 5, (some .int), [(0, 10, 13, 33)], 8, 125)
def mL_isOf : zM := (yL_isOf, cL_isOf, 5, (some .int), [(0, 17, 20, 33)], 8, 125)
def mL_users : zM := (yL_users, cL_users, 5, (some .int), [(0, 10, 13, 33), (0, 10, 17, 38)], 8, 125)
def mL_wouldMake : zM := (yL_wouldMake, cL_wouldMake, 5, (some .int), [(0, 10, 13, 38)], 8, 127)
def mL_alike : zM := (yL_alike, cL_alike, 4, (some .int), [(0, 9, 12, 33)], 8, 136)
def mL_richest : zM := (yL_richest, cL_richest, 4, (some .int), [(0, 9, 12, 52)], 7, 113)
def mL_busiest : zM := (yL_busiest, cL_busiest, 3, (some .int), [(0, 8, 11, 52)], 7, 134)
def mL_append : zM := (yL_append, cL_append, 4, (some .int), [(0, 9, 12, 99)], 7, 103)
def mL_commands : zM := (yL_commands, cL_commands, 3, (some .int), [(0, 8, 11, 38), (0, 8, 14, 13)], 8, 162)
def mL_reason : zM := (yL_reason, cL_reason, 4, (some .int), [(0, 9, 12, 38), (0, 9, 15, 52)], 7, 103)
def mL_line : zM := (yL_line, cL_line, 4, (some .int), [(0, 9, 12, 33)], 8, 126)
def mL_lineage : zM := (yL_lineage, cL_lineage, 4, (some .int), [(0, 9, 12, 33)], 8, 126)
def mL_character : zM := (yL_character, cL_character, 4, (some .int), [(0, 9, 12, 33)], 7, 103)
def mL_mean : zM := (yL_mean, cL_mean, 4, (some .int), [(0, 8, 11, 33)], 8, 124)
def mL_account : zM := (yL_account, cL_account, 4, (some .int), [(0, 9, 12, 38)], 7, 109)
def mL_undo : zM := (yL_undo, cL_undo, 3, (some .int), [(0, 8, 11, 99)], 7, 102)
def mL_restore : zM := (yL_restore, cL_restore, 3, (some .int), [(0, 8, 11, 99)], 7, 102)
def mL_law : zM := (yL_law, cL_law, 10, (some .boolean), [], 9, 184)
theorem zt_objInit : Cond.instanceMethod Lib.objectInit ∈ zT ∧ Cond.code Lib.objectInit ⟨#[0xb1]⟩ 1 none ∈ zT := ⟨zT_in 70 (by decide +kernel) rfl, zT_in 71 (by decide +kernel) rfl⟩
theorem zt_copy : Cond.native arraycopyName ∈ zT ∧ Cond.static arraycopyName ∈ zT ∧ Cond.initialized "java/lang/System" ∈ zT := ⟨zT_in 289 (by decide +kernel) rfl, zT_in 288 (by decide +kernel) rfl, zT_in 51 (by decide +kernel) rfl⟩
theorem zt_arr_int : Cond.arrayClass .int ∈ zT := zT_in 106 (by decide +kernel) rfl
theorem zt_arr_char : Cond.arrayClass .char ∈ zT := zT_in 199 (by decide +kernel) rfl
theorem zt_arr_long : Cond.arrayClass .long ∈ zT := zT_in 1459 (by decide +kernel) rfl
theorem zt_arr_double : Cond.arrayClass .double ∈ zT := zT_in 1460 (by decide +kernel) rfl
theorem zcw0 : ∀ w ∈ u_ws RX0 TX0 5, w ∈ zT := fun w hw => List.mem_filter.mpr ⟨(goodIn_r (big := lw_tbl) (u_ws RX0 TX0 5) [120, 122, 124, 126, 128] (by decide +kernel) (by decide +kernel) w hw).1, List.all_eq_true.mp (by decide +kernel : (u_ws RX0 TX0 5).all goodWord = true) w hw⟩
theorem zcl0 : zClOk 0 RX0 TX0 tyX0 := ⟨rfl, zcw0, tyX0_ok, nmX0, by decide +kernel, by decide +kernel⟩
theorem zcw1 : ∀ w ∈ u_ws RX1 TX1 3, w ∈ zT := fun w hw => List.mem_filter.mpr ⟨(goodIn_r (big := lw_tbl) (u_ws RX1 TX1 3) [155, 157, 159] (by decide +kernel) (by decide +kernel) w hw).1, List.all_eq_true.mp (by decide +kernel : (u_ws RX1 TX1 3).all goodWord = true) w hw⟩
theorem zcl1 : zClOk 1 RX1 TX1 tyX1 := ⟨rfl, zcw1, tyX1_ok, nmX1, by decide +kernel, by decide +kernel⟩
theorem zcw2 : ∀ w ∈ u_ws RX2 TX2 5, w ∈ zT := fun w hw => List.mem_filter.mpr ⟨(goodIn_r (big := lw_tbl) (u_ws RX2 TX2 5) [188, 190, 192, 194, 196] (by decide +kernel) (by decide +kernel) w hw).1, List.all_eq_true.mp (by decide +kernel : (u_ws RX2 TX2 5).all goodWord = true) w hw⟩
theorem zcl2 : zClOk 2 RX2 TX2 tyX2 := ⟨rfl, zcw2, tyX2_ok, nmX2, by decide +kernel, by decide +kernel⟩
theorem zcw3 : ∀ w ∈ u_ws RX3 TX3 2, w ∈ zT := fun w hw => List.mem_filter.mpr ⟨(goodIn_r (big := lw_tbl) (u_ws RX3 TX3 2) [172, 174] (by decide +kernel) (by decide +kernel) w hw).1, List.all_eq_true.mp (by decide +kernel : (u_ws RX3 TX3 2).all goodWord = true) w hw⟩
theorem zcl3 : zClOk 3 RX3 TX3 tyX3 := ⟨rfl, zcw3, tyX3_ok, nmX3, by decide +kernel, by decide +kernel⟩
theorem zcw4 : ∀ w ∈ u_ws RX4 TX4 3, w ∈ zT := fun w hw => List.mem_filter.mpr ⟨(goodIn_r (big := lw_tbl) (u_ws RX4 TX4 3) [143, 145, 147] (by decide +kernel) (by decide +kernel) w hw).1, List.all_eq_true.mp (by decide +kernel : (u_ws RX4 TX4 3).all goodWord = true) w hw⟩
theorem zcl4 : zClOk 4 RX4 TX4 tyX4 := ⟨rfl, zcw4, tyX4_ok, nmX4, by decide +kernel, by decide +kernel⟩
theorem zcw5 : ∀ w ∈ u_ws RX5 TX5 2, w ∈ zT := fun w hw => List.mem_filter.mpr ⟨(goodIn_r (big := lw_tbl) (u_ws RX5 TX5 2) [208, 210] (by decide +kernel) (by decide +kernel) w hw).1, List.all_eq_true.mp (by decide +kernel : (u_ws RX5 TX5 2).all goodWord = true) w hw⟩
theorem zcl5 : zClOk 5 RX5 TX5 tyX5 := ⟨rfl, zcw5, tyX5_ok, nmX5, by decide +kernel, by decide +kernel⟩
theorem zcw6 : ∀ w ∈ u_ws RX6 TX6 5, w ∈ zT := fun w hw => List.mem_filter.mpr ⟨(goodIn_r (big := lw_tbl) (u_ws RX6 TX6 5) [95, 97, 99, 101, 103] (by decide +kernel) (by decide +kernel) w hw).1, List.all_eq_true.mp (by decide +kernel : (u_ws RX6 TX6 5).all goodWord = true) w hw⟩
theorem zcl6 : zClOk 6 RX6 TX6 tyX6 := ⟨rfl, zcw6, tyX6_ok, nmX6, by decide +kernel, by decide +kernel⟩
theorem zcw7 : ∀ w ∈ u_ws RX7 TX7 10, w ∈ zT := fun w hw => List.mem_filter.mpr ⟨(goodIn_r (big := lw_tbl) (u_ws RX7 TX7 10) [223, 225, 227, 229, 231, 233, 235, 237, 239, 241] (by decide +kernel) (by decide +kernel) w hw).1, List.all_eq_true.mp (by decide +kernel : (u_ws RX7 TX7 10).all goodWord = true) w hw⟩
theorem zcl7 : zClOk 7 RX7 TX7 tyX7 := ⟨rfl, zcw7, tyX7_ok, nmX7, by decide +kernel, by decide +kernel⟩
theorem zcw8 : ∀ w ∈ u_ws RX8 TX8 22, w ∈ zT := fun w hw => List.mem_filter.mpr ⟨(goodIn_r (big := lw_tbl) (u_ws RX8 TX8 22) [1120, 1122, 1124, 1126, 1128, 1130, 1132, 1134, 1136, 1138, 1140, 1142, 1144, 1146, 1148, 1150, 1152, 1154, 1156, 1158, 1160, 1162] (by decide +kernel) (by decide +kernel) w hw).1, List.all_eq_true.mp (by decide +kernel : (u_ws RX8 TX8 22).all goodWord = true) w hw⟩
theorem zcl8 : zClOk 8 RX8 TX8 tyX8 := ⟨rfl, zcw8, tyX8_ok, nmX8, by decide +kernel, by decide +kernel⟩
theorem gsJ0_9 {M : zM} (h : M.1.cls = RJ0) : Cond.fieldLink M.1.cls 9 "java/lang/String" "value" "[B" ∈ zT := by rw [h]; exact zT_in 1478 (by decide +kernel) rfl
theorem gsJ0_15 {M : zM} (h : M.1.cls = RJ0) : Cond.fieldLink M.1.cls 15 "java/lang/String" "coder" "B" ∈ zT := by rw [h]; exact zT_in 1479 (by decide +kernel) rfl
theorem gsJ0_38 {M : zM} (h : M.1.cls = RJ0) : Cond.fieldLink M.1.cls 38 "java/lang/String" "COMPACT_STRINGS" "Z" ∈ zT := by rw [h]; exact zT_in 905 (by decide +kernel) rfl
theorem gsJ0_1053 {M : zM} (h : M.1.cls = RJ0) : Cond.fieldLink M.1.cls 1053 "jdk/internal/util/Preconditions" "SIOOBE_FORMATTER" "Ljava/util/function/BiFunction;" ∈ zT := by rw [h]; exact zT_in 921 (by decide +kernel) rfl
theorem nlL_8 {M : zM} (h : M.1.cls = RL) : zNl M 8 7 := ⟨RX7, TX7, tyX7, zcl7, by rw [h]; exact zT_in 64 (by decide +kernel) rfl, zT_in 65 (by decide +kernel) rfl, zT_in 42 (by decide +kernel) rfl⟩
theorem nlL_131 {M : zM} (h : M.1.cls = RL) : zNl M 131 8 := ⟨RX8, TX8, tyX8, zcl8, by rw [h]; exact zT_in 1092 (by decide +kernel) rfl, zT_in 1093 (by decide +kernel) rfl, zT_in 50 (by decide +kernel) rfl⟩
theorem flX0_12 {M : zM} (h : M.1.cls = RX0) : zFl M 12 0 0 (tyX0 0) true := ⟨RX0, TX0, tyX0, zcl0, by decide, rfl, rfl, by rw [h]; exact Or.inl (zT_in 107 (by decide +kernel) rfl)⟩
theorem ffX0_12 {M : zM} (h : M.1.cls = RX0) (hi : M.1.name = "<init>") : zFf M 12 0 0 := ⟨RX0, TX0, tyX0, zcl0, by decide, Or.inl ⟨_, rfl⟩, rfl, by rw [h]; exact zT_in 107 (by decide +kernel) rfl, hi, h.symm⟩
theorem flX0_18 {M : zM} (h : M.1.cls = RX0) : zFl M 18 0 1 (tyX0 1) true := ⟨RX0, TX0, tyX0, zcl0, by decide, rfl, rfl, by rw [h]; exact Or.inl (zT_in 110 (by decide +kernel) rfl)⟩
theorem ffX0_18 {M : zM} (h : M.1.cls = RX0) (hi : M.1.name = "<init>") : zFf M 18 0 1 := ⟨RX0, TX0, tyX0, zcl0, by decide, Or.inr ⟨_, rfl⟩, rfl, by rw [h]; exact zT_in 110 (by decide +kernel) rfl, hi, h.symm⟩
theorem flX0_22 {M : zM} (h : M.1.cls = RX0) : zFl M 22 0 2 (.int) false := ⟨RX0, TX0, tyX0, zcl0, by decide, rfl, rfl, by rw [h]; exact Or.inl (zT_in 111 (by decide +kernel) rfl)⟩
theorem flX0_26 {M : zM} (h : M.1.cls = RX0) : zFl M 26 0 3 (.int) false := ⟨RX0, TX0, tyX0, zcl0, by decide, rfl, rfl, by rw [h]; exact Or.inl (zT_in 114 (by decide +kernel) rfl)⟩
theorem flX0_29 {M : zM} (h : M.1.cls = RX0) : zFl M 29 0 4 (.int) false := ⟨RX0, TX0, tyX0, zcl0, by decide, rfl, rfl, by rw [h]; exact Or.inl (zT_in 117 (by decide +kernel) rfl)⟩
theorem nlX0_9 {M : zM} (h : M.1.cls = RX0) : zNl M 9 6 := ⟨RX6, TX6, tyX6, zcl6, by rw [h]; exact zT_in 84 (by decide +kernel) rfl, zT_in 85 (by decide +kernel) rfl, zT_in 45 (by decide +kernel) rfl⟩
theorem flX1_12 {M : zM} (h : M.1.cls = RX1) : zFl M 12 1 0 (tyX1 0) true := ⟨RX1, TX1, tyX1, zcl1, by decide, rfl, rfl, by rw [h]; exact Or.inl (zT_in 150 (by decide +kernel) rfl)⟩
theorem ffX1_12 {M : zM} (h : M.1.cls = RX1) (hi : M.1.name = "<init>") : zFf M 12 1 0 := ⟨RX1, TX1, tyX1, zcl1, by decide, Or.inl ⟨_, rfl⟩, rfl, by rw [h]; exact zT_in 150 (by decide +kernel) rfl, hi, h.symm⟩
theorem flX1_21 {M : zM} (h : M.1.cls = RX1) : zFl M 21 1 1 (tyX1 1) true := ⟨RX1, TX1, tyX1, zcl1, by decide, rfl, rfl, by rw [h]; exact Or.inl (zT_in 153 (by decide +kernel) rfl)⟩
theorem ffX1_21 {M : zM} (h : M.1.cls = RX1) (hi : M.1.name = "<init>") : zFf M 21 1 1 := ⟨RX1, TX1, tyX1, zcl1, by decide, Or.inl ⟨_, rfl⟩, rfl, by rw [h]; exact zT_in 153 (by decide +kernel) rfl, hi, h.symm⟩
theorem flX1_25 {M : zM} (h : M.1.cls = RX1) : zFl M 25 0 0 (tyX0 0) true := ⟨RX0, TX0, tyX0, zcl0, by decide, rfl, rfl, by rw [h]; exact Or.inl (zT_in 108 (by decide +kernel) rfl)⟩
theorem flX1_29 {M : zM} (h : M.1.cls = RX1) : zFl M 29 1 2 (tyX1 2) true := ⟨RX1, TX1, tyX1, zcl1, by decide, rfl, rfl, by rw [h]; exact Or.inl (zT_in 154 (by decide +kernel) rfl)⟩
theorem ffX1_29 {M : zM} (h : M.1.cls = RX1) (hi : M.1.name = "<init>") : zFf M 29 1 2 := ⟨RX1, TX1, tyX1, zcl1, by decide, Or.inl ⟨_, rfl⟩, rfl, by rw [h]; exact zT_in 154 (by decide +kernel) rfl, hi, h.symm⟩
theorem flX1_80 {M : zM} (h : M.1.cls = RX1) : zFl M 80 0 2 (.int) false := ⟨RX0, TX0, tyX0, zcl0, by decide, rfl, rfl, by rw [h]; exact Or.inr ⟨"AbbeyLedgers", zNw_in 112 (by decide +kernel) rfl⟩⟩
theorem flX1_91 {M : zM} (h : M.1.cls = RX1) : zFl M 91 0 3 (.int) false := ⟨RX0, TX0, tyX0, zcl0, by decide, rfl, rfl, by rw [h]; exact Or.inr ⟨"AbbeyLedgers", zNw_in 115 (by decide +kernel) rfl⟩⟩
theorem flX1_108 {M : zM} (h : M.1.cls = RX1) : zFl M 108 0 4 (.int) false := ⟨RX0, TX0, tyX0, zcl0, by decide, rfl, rfl, by rw [h]; exact Or.inr ⟨"AbbeyLedgers", zNw_in 118 (by decide +kernel) rfl⟩⟩
theorem nlX1_9 {M : zM} (h : M.1.cls = RX1) : zNl M 9 0 := ⟨RX0, TX0, tyX0, zcl0, by rw [h]; exact zT_in 78 (by decide +kernel) rfl, zT_in 79 (by decide +kernel) rfl, zT_in 44 (by decide +kernel) rfl⟩
theorem nlX1_18 {M : zM} (h : M.1.cls = RX1) : zNl M 18 4 := ⟨RX4, TX4, tyX4, zcl4, by rw [h]; exact zT_in 131 (by decide +kernel) rfl, zT_in 132 (by decide +kernel) rfl, zT_in 46 (by decide +kernel) rfl⟩
theorem flX2_9 {M : zM} (h : M.1.cls = RX2) : zFl M 9 2 0 (tyX2 0) true := ⟨RX2, TX2, tyX2, zcl2, by decide, rfl, rfl, by rw [h]; exact Or.inl (zT_in 183 (by decide +kernel) rfl)⟩
theorem ffX2_9 {M : zM} (h : M.1.cls = RX2) (hi : M.1.name = "<init>") : zFf M 9 2 0 := ⟨RX2, TX2, tyX2, zcl2, by decide, Or.inr ⟨_, rfl⟩, rfl, by rw [h]; exact zT_in 183 (by decide +kernel) rfl, hi, h.symm⟩
theorem flX2_15 {M : zM} (h : M.1.cls = RX2) : zFl M 15 2 1 (.int) false := ⟨RX2, TX2, tyX2, zcl2, by decide, rfl, rfl, by rw [h]; exact Or.inl (zT_in 184 (by decide +kernel) rfl)⟩
theorem flX2_19 {M : zM} (h : M.1.cls = RX2) : zFl M 19 2 2 (.int) false := ⟨RX2, TX2, tyX2, zcl2, by decide, rfl, rfl, by rw [h]; exact Or.inl (zT_in 185 (by decide +kernel) rfl)⟩
theorem flX2_22 {M : zM} (h : M.1.cls = RX2) : zFl M 22 2 3 (.char) false := ⟨RX2, TX2, tyX2, zcl2, by decide, rfl, rfl, by rw [h]; exact Or.inl (zT_in 186 (by decide +kernel) rfl)⟩
theorem flX2_26 {M : zM} (h : M.1.cls = RX2) : zFl M 26 2 4 (tyX2 4) true := ⟨RX2, TX2, tyX2, zcl2, by decide, rfl, rfl, by rw [h]; exact Or.inl (zT_in 187 (by decide +kernel) rfl)⟩
theorem ffX2_26 {M : zM} (h : M.1.cls = RX2) (hi : M.1.name = "<init>") : zFf M 26 2 4 := ⟨RX2, TX2, tyX2, zcl2, by decide, Or.inr ⟨_, rfl⟩, rfl, by rw [h]; exact zT_in 187 (by decide +kernel) rfl, hi, h.symm⟩
theorem flX3_11 {M : zM} (h : M.1.cls = RX3) : zFl M 11 3 0 (tyX3 0) true := ⟨RX3, TX3, tyX3, zcl3, by decide, rfl, rfl, by rw [h]; exact Or.inl (zT_in 170 (by decide +kernel) rfl)⟩
theorem ffX3_11 {M : zM} (h : M.1.cls = RX3) (hi : M.1.name = "<init>") : zFf M 11 3 0 := ⟨RX3, TX3, tyX3, zcl3, by decide, Or.inr ⟨_, rfl⟩, rfl, by rw [h]; exact zT_in 170 (by decide +kernel) rfl, hi, h.symm⟩
theorem flX3_17 {M : zM} (h : M.1.cls = RX3) : zFl M 17 3 1 (.int) false := ⟨RX3, TX3, tyX3, zcl3, by decide, rfl, rfl, by rw [h]; exact Or.inl (zT_in 171 (by decide +kernel) rfl)⟩
theorem flX4_9 {M : zM} (h : M.1.cls = RX4) : zFl M 9 4 0 (.int) false := ⟨RX4, TX4, tyX4, zcl4, by decide, rfl, rfl, by rw [h]; exact Or.inl (zT_in 137 (by decide +kernel) rfl)⟩
theorem flX4_15 {M : zM} (h : M.1.cls = RX4) : zFl M 15 4 1 (.int) false := ⟨RX4, TX4, tyX4, zcl4, by decide, rfl, rfl, by rw [h]; exact Or.inl (zT_in 139 (by decide +kernel) rfl)⟩
theorem flX4_18 {M : zM} (h : M.1.cls = RX4) : zFl M 18 4 2 (.int) false := ⟨RX4, TX4, tyX4, zcl4, by decide, rfl, rfl, by rw [h]; exact Or.inl (zT_in 141 (by decide +kernel) rfl)⟩
theorem flX5_9 {M : zM} (h : M.1.cls = RX5) : zFl M 9 5 0 (tyX5 0) true := ⟨RX5, TX5, tyX5, zcl5, by decide, rfl, rfl, by rw [h]; exact Or.inl (zT_in 206 (by decide +kernel) rfl)⟩
theorem ffX5_9 {M : zM} (h : M.1.cls = RX5) (hi : M.1.name = "<init>") : zFf M 9 5 0 := ⟨RX5, TX5, tyX5, zcl5, by decide, Or.inr ⟨_, rfl⟩, rfl, by rw [h]; exact zT_in 206 (by decide +kernel) rfl, hi, h.symm⟩
theorem flX5_15 {M : zM} (h : M.1.cls = RX5) : zFl M 15 5 1 (.int) false := ⟨RX5, TX5, tyX5, zcl5, by decide, rfl, rfl, by rw [h]; exact Or.inl (zT_in 207 (by decide +kernel) rfl)⟩
theorem flX6_9 {M : zM} (h : M.1.cls = RX6) : zFl M 9 6 0 (.int) false := ⟨RX6, TX6, tyX6, zcl6, by decide, rfl, rfl, by rw [h]; exact Or.inl (zT_in 90 (by decide +kernel) rfl)⟩
theorem flX6_15 {M : zM} (h : M.1.cls = RX6) : zFl M 15 6 1 (tyX6 1) true := ⟨RX6, TX6, tyX6, zcl6, by decide, rfl, rfl, by rw [h]; exact Or.inl (zT_in 91 (by decide +kernel) rfl)⟩
theorem ffX6_15 {M : zM} (h : M.1.cls = RX6) (hi : M.1.name = "<init>") : zFf M 15 6 1 := ⟨RX6, TX6, tyX6, zcl6, by decide, Or.inr ⟨_, rfl⟩, rfl, by rw [h]; exact zT_in 91 (by decide +kernel) rfl, hi, h.symm⟩
theorem flX6_19 {M : zM} (h : M.1.cls = RX6) : zFl M 19 6 2 (tyX6 2) true := ⟨RX6, TX6, tyX6, zcl6, by decide, rfl, rfl, by rw [h]; exact Or.inl (zT_in 92 (by decide +kernel) rfl)⟩
theorem ffX6_19 {M : zM} (h : M.1.cls = RX6) (hi : M.1.name = "<init>") : zFf M 19 6 2 := ⟨RX6, TX6, tyX6, zcl6, by decide, Or.inr ⟨_, rfl⟩, rfl, by rw [h]; exact zT_in 92 (by decide +kernel) rfl, hi, h.symm⟩
theorem flX6_22 {M : zM} (h : M.1.cls = RX6) : zFl M 22 6 3 (tyX6 3) true := ⟨RX6, TX6, tyX6, zcl6, by decide, rfl, rfl, by rw [h]; exact Or.inl (zT_in 93 (by decide +kernel) rfl)⟩
theorem ffX6_22 {M : zM} (h : M.1.cls = RX6) (hi : M.1.name = "<init>") : zFf M 22 6 3 := ⟨RX6, TX6, tyX6, zcl6, by decide, Or.inr ⟨_, rfl⟩, rfl, by rw [h]; exact zT_in 93 (by decide +kernel) rfl, hi, h.symm⟩
theorem flX6_25 {M : zM} (h : M.1.cls = RX6) : zFl M 25 6 4 (tyX6 4) true := ⟨RX6, TX6, tyX6, zcl6, by decide, rfl, rfl, by rw [h]; exact Or.inl (zT_in 94 (by decide +kernel) rfl)⟩
theorem ffX6_25 {M : zM} (h : M.1.cls = RX6) (hi : M.1.name = "<init>") : zFf M 25 6 4 := ⟨RX6, TX6, tyX6, zcl6, by decide, Or.inr ⟨_, rfl⟩, rfl, by rw [h]; exact zT_in 94 (by decide +kernel) rfl, hi, h.symm⟩
theorem flX7_10 {M : zM} (h : M.1.cls = RX7) : zFl M 10 7 0 (tyX7 0) true := ⟨RX7, TX7, tyX7, zcl7, by decide, rfl, rfl, by rw [h]; exact Or.inl (zT_in 213 (by decide +kernel) rfl)⟩
theorem ffX7_10 {M : zM} (h : M.1.cls = RX7) (hi : M.1.name = "<init>") : zFf M 10 7 0 := ⟨RX7, TX7, tyX7, zcl7, by decide, Or.inl ⟨_, rfl⟩, rfl, by rw [h]; exact zT_in 213 (by decide +kernel) rfl, hi, h.symm⟩
theorem flX7_16 {M : zM} (h : M.1.cls = RX7) : zFl M 16 1 1 (tyX1 1) true := ⟨RX1, TX1, tyX1, zcl1, by decide, rfl, rfl, by rw [h]; exact Or.inl (zT_in 152 (by decide +kernel) rfl)⟩
theorem flX7_20 {M : zM} (h : M.1.cls = RX7) : zFl M 20 7 1 (tyX7 1) true := ⟨RX7, TX7, tyX7, zcl7, by decide, rfl, rfl, by rw [h]; exact Or.inl (zT_in 214 (by decide +kernel) rfl)⟩
theorem ffX7_20 {M : zM} (h : M.1.cls = RX7) (hi : M.1.name = "<init>") : zFf M 20 7 1 := ⟨RX7, TX7, tyX7, zcl7, by decide, Or.inl ⟨_, rfl⟩, rfl, by rw [h]; exact zT_in 214 (by decide +kernel) rfl, hi, h.symm⟩
theorem flX7_21 {M : zM} (h : M.1.cls = RX7) : zFl M 21 1 0 (tyX1 0) true := ⟨RX1, TX1, tyX1, zcl1, by decide, rfl, rfl, by rw [h]; exact Or.inl (zT_in 151 (by decide +kernel) rfl)⟩
theorem flX7_25 {M : zM} (h : M.1.cls = RX7) : zFl M 25 7 2 (tyX7 2) true := ⟨RX7, TX7, tyX7, zcl7, by decide, rfl, rfl, by rw [h]; exact Or.inl (zT_in 215 (by decide +kernel) rfl)⟩
theorem ffX7_25 {M : zM} (h : M.1.cls = RX7) (hi : M.1.name = "<init>") : zFf M 25 7 2 := ⟨RX7, TX7, tyX7, zcl7, by decide, Or.inl ⟨_, rfl⟩, rfl, by rw [h]; exact zT_in 215 (by decide +kernel) rfl, hi, h.symm⟩
theorem flX7_26 {M : zM} (h : M.1.cls = RX7) : zFl M 26 0 0 (tyX0 0) true := ⟨RX0, TX0, tyX0, zcl0, by decide, rfl, rfl, by rw [h]; exact Or.inl (zT_in 109 (by decide +kernel) rfl)⟩
theorem flX7_32 {M : zM} (h : M.1.cls = RX7) : zFl M 32 7 3 (tyX7 3) true := ⟨RX7, TX7, tyX7, zcl7, by decide, rfl, rfl, by rw [h]; exact Or.inl (zT_in 216 (by decide +kernel) rfl)⟩
theorem ffX7_32 {M : zM} (h : M.1.cls = RX7) (hi : M.1.name = "<init>") : zFf M 32 7 3 := ⟨RX7, TX7, tyX7, zcl7, by decide, Or.inl ⟨_, rfl⟩, rfl, by rw [h]; exact zT_in 216 (by decide +kernel) rfl, hi, h.symm⟩
theorem flX7_34 {M : zM} (h : M.1.cls = RX7) : zFl M 34 7 4 (tyX7 4) true := ⟨RX7, TX7, tyX7, zcl7, by decide, rfl, rfl, by rw [h]; exact Or.inl (zT_in 217 (by decide +kernel) rfl)⟩
theorem ffX7_34 {M : zM} (h : M.1.cls = RX7) (hi : M.1.name = "<init>") : zFf M 34 7 4 := ⟨RX7, TX7, tyX7, zcl7, by decide, Or.inl ⟨_, rfl⟩, rfl, by rw [h]; exact zT_in 217 (by decide +kernel) rfl, hi, h.symm⟩
theorem flX7_37 {M : zM} (h : M.1.cls = RX7) : zFl M 37 7 5 (.boolean) false := ⟨RX7, TX7, tyX7, zcl7, by decide, rfl, rfl, by rw [h]; exact Or.inl (zT_in 218 (by decide +kernel) rfl)⟩
theorem flX7_44 {M : zM} (h : M.1.cls = RX7) : zFl M 44 7 6 (tyX7 6) true := ⟨RX7, TX7, tyX7, zcl7, by decide, rfl, rfl, by rw [h]; exact Or.inl (zT_in 219 (by decide +kernel) rfl)⟩
theorem ffX7_44 {M : zM} (h : M.1.cls = RX7) (hi : M.1.name = "<init>") : zFf M 44 7 6 := ⟨RX7, TX7, tyX7, zcl7, by decide, Or.inl ⟨_, rfl⟩, rfl, by rw [h]; exact zT_in 219 (by decide +kernel) rfl, hi, h.symm⟩
theorem flX7_51 {M : zM} (h : M.1.cls = RX7) : zFl M 51 7 7 (tyX7 7) true := ⟨RX7, TX7, tyX7, zcl7, by decide, rfl, rfl, by rw [h]; exact Or.inl (zT_in 220 (by decide +kernel) rfl)⟩
theorem ffX7_51 {M : zM} (h : M.1.cls = RX7) (hi : M.1.name = "<init>") : zFf M 51 7 7 := ⟨RX7, TX7, tyX7, zcl7, by decide, Or.inl ⟨_, rfl⟩, rfl, by rw [h]; exact zT_in 220 (by decide +kernel) rfl, hi, h.symm⟩
theorem flX7_55 {M : zM} (h : M.1.cls = RX7) : zFl M 55 7 8 (.int) false := ⟨RX7, TX7, tyX7, zcl7, by decide, rfl, rfl, by rw [h]; exact Or.inl (zT_in 221 (by decide +kernel) rfl)⟩
theorem flX7_62 {M : zM} (h : M.1.cls = RX7) : zFl M 62 7 9 (tyX7 9) true := ⟨RX7, TX7, tyX7, zcl7, by decide, rfl, rfl, by rw [h]; exact Or.inl (zT_in 222 (by decide +kernel) rfl)⟩
theorem ffX7_62 {M : zM} (h : M.1.cls = RX7) (hi : M.1.name = "<init>") : zFf M 62 7 9 := ⟨RX7, TX7, tyX7, zcl7, by decide, Or.inl ⟨_, rfl⟩, rfl, by rw [h]; exact zT_in 222 (by decide +kernel) rfl, hi, h.symm⟩
theorem flX7_235 {M : zM} (h : M.1.cls = RX7) : zFl M 235 4 2 (.int) false := ⟨RX4, TX4, tyX4, zcl4, by decide, rfl, rfl, by rw [h]; exact Or.inr ⟨"AbbeyLedgers", zNw_in 142 (by decide +kernel) rfl⟩⟩
theorem flX7_246 {M : zM} (h : M.1.cls = RX7) : zFl M 246 4 0 (.int) false := ⟨RX4, TX4, tyX4, zcl4, by decide, rfl, rfl, by rw [h]; exact Or.inr ⟨"AbbeyLedgers", zNw_in 138 (by decide +kernel) rfl⟩⟩
theorem flX7_251 {M : zM} (h : M.1.cls = RX7) : zFl M 251 4 1 (.int) false := ⟨RX4, TX4, tyX4, zcl4, by decide, rfl, rfl, by rw [h]; exact Or.inr ⟨"AbbeyLedgers", zNw_in 140 (by decide +kernel) rfl⟩⟩
theorem flX7_280 {M : zM} (h : M.1.cls = RX7) : zFl M 280 0 2 (.int) false := ⟨RX0, TX0, tyX0, zcl0, by decide, rfl, rfl, by rw [h]; exact Or.inr ⟨"AbbeyLedgers", zNw_in 113 (by decide +kernel) rfl⟩⟩
theorem flX7_289 {M : zM} (h : M.1.cls = RX7) : zFl M 289 0 3 (.int) false := ⟨RX0, TX0, tyX0, zcl0, by decide, rfl, rfl, by rw [h]; exact Or.inr ⟨"AbbeyLedgers", zNw_in 116 (by decide +kernel) rfl⟩⟩
theorem flX7_292 {M : zM} (h : M.1.cls = RX7) : zFl M 292 0 4 (.int) false := ⟨RX0, TX0, tyX0, zcl0, by decide, rfl, rfl, by rw [h]; exact Or.inr ⟨"AbbeyLedgers", zNw_in 119 (by decide +kernel) rfl⟩⟩
theorem gsX7_343 {M : zM} (h : M.1.cls = RX7) : Cond.fieldLink M.1.cls 343 RX7 "LOWEST_LINE_OF_SPAN" "[I" ∈ zT := by rw [h]; exact zT_in 356 (by decide +kernel) rfl
theorem gsX7_347 {M : zM} (h : M.1.cls = RX7) : Cond.fieldLink M.1.cls 347 RX7 "HIGHEST_LINE_OF_SPAN" "[I" ∈ zT := by rw [h]; exact zT_in 358 (by decide +kernel) rfl
theorem cdX7_275 {M : zM} (h : M.1.cls = RX7) : Cond.constantDouble M.1.cls 275 (UInt64.ofNat 4625196817309499392) ∈ zT := by rw [h]; exact zT_in 1045 (by decide +kernel) rfl
theorem nlX7_7 {M : zM} (h : M.1.cls = RX7) : zNl M 7 1 := ⟨RX1, TX1, tyX1, zcl1, by rw [h]; exact zT_in 72 (by decide +kernel) rfl, zT_in 73 (by decide +kernel) rfl, zT_in 43 (by decide +kernel) rfl⟩
theorem nlX7_27 {M : zM} (h : M.1.cls = RX7) : zNl M 27 0 := ⟨RX0, TX0, tyX0, zcl0, by rw [h]; exact zT_in 162 (by decide +kernel) rfl, zT_in 79 (by decide +kernel) rfl, zT_in 44 (by decide +kernel) rfl⟩
theorem nlX7_41 {M : zM} (h : M.1.cls = RX7) : zNl M 41 3 := ⟨RX3, TX3, tyX3, zcl3, by rw [h]; exact zT_in 164 (by decide +kernel) rfl, zT_in 165 (by decide +kernel) rfl, zT_in 47 (by decide +kernel) rfl⟩
theorem nlX7_48 {M : zM} (h : M.1.cls = RX7) : zNl M 48 2 := ⟨RX2, TX2, tyX2, zcl2, by rw [h]; exact zT_in 177 (by decide +kernel) rfl, zT_in 178 (by decide +kernel) rfl, zT_in 48 (by decide +kernel) rfl⟩
theorem nlX7_59 {M : zM} (h : M.1.cls = RX7) : zNl M 59 5 := ⟨RX5, TX5, tyX5, zcl5, by rw [h]; exact zT_in 200 (by decide +kernel) rfl, zT_in 201 (by decide +kernel) rfl, zT_in 49 (by decide +kernel) rfl⟩
theorem flX8_7 {M : zM} (h : M.1.cls = RX8) : zFl M 7 8 0 (tyX8 0) true := ⟨RX8, TX8, tyX8, zcl8, by decide, rfl, rfl, by rw [h]; exact Or.inl (zT_in 1098 (by decide +kernel) rfl)⟩
theorem ffX8_7 {M : zM} (h : M.1.cls = RX8) (hi : M.1.name = "<init>") : zFf M 7 8 0 := ⟨RX8, TX8, tyX8, zcl8, by decide, Or.inr ⟨_, rfl⟩, rfl, by rw [h]; exact zT_in 1098 (by decide +kernel) rfl, hi, h.symm⟩
theorem flX8_13 {M : zM} (h : M.1.cls = RX8) : zFl M 13 8 1 (tyX8 1) true := ⟨RX8, TX8, tyX8, zcl8, by decide, rfl, rfl, by rw [h]; exact Or.inl (zT_in 1099 (by decide +kernel) rfl)⟩
theorem ffX8_13 {M : zM} (h : M.1.cls = RX8) (hi : M.1.name = "<init>") : zFf M 13 8 1 := ⟨RX8, TX8, tyX8, zcl8, by decide, Or.inr ⟨_, rfl⟩, rfl, by rw [h]; exact zT_in 1099 (by decide +kernel) rfl, hi, h.symm⟩
theorem flX8_16 {M : zM} (h : M.1.cls = RX8) : zFl M 16 8 2 (tyX8 2) true := ⟨RX8, TX8, tyX8, zcl8, by decide, rfl, rfl, by rw [h]; exact Or.inl (zT_in 1100 (by decide +kernel) rfl)⟩
theorem ffX8_16 {M : zM} (h : M.1.cls = RX8) (hi : M.1.name = "<init>") : zFf M 16 8 2 := ⟨RX8, TX8, tyX8, zcl8, by decide, Or.inr ⟨_, rfl⟩, rfl, by rw [h]; exact zT_in 1100 (by decide +kernel) rfl, hi, h.symm⟩
theorem flX8_19 {M : zM} (h : M.1.cls = RX8) : zFl M 19 8 3 (tyX8 3) true := ⟨RX8, TX8, tyX8, zcl8, by decide, rfl, rfl, by rw [h]; exact Or.inl (zT_in 1101 (by decide +kernel) rfl)⟩
theorem ffX8_19 {M : zM} (h : M.1.cls = RX8) (hi : M.1.name = "<init>") : zFf M 19 8 3 := ⟨RX8, TX8, tyX8, zcl8, by decide, Or.inr ⟨_, rfl⟩, rfl, by rw [h]; exact zT_in 1101 (by decide +kernel) rfl, hi, h.symm⟩
theorem flX8_22 {M : zM} (h : M.1.cls = RX8) : zFl M 22 8 12 (tyX8 12) true := ⟨RX8, TX8, tyX8, zcl8, by decide, rfl, rfl, by rw [h]; exact Or.inl (zT_in 1110 (by decide +kernel) rfl)⟩
theorem ffX8_22 {M : zM} (h : M.1.cls = RX8) (hi : M.1.name = "<init>") : zFf M 22 8 12 := ⟨RX8, TX8, tyX8, zcl8, by decide, Or.inr ⟨_, rfl⟩, rfl, by rw [h]; exact zT_in 1110 (by decide +kernel) rfl, hi, h.symm⟩
theorem flX8_25 {M : zM} (h : M.1.cls = RX8) : zFl M 25 8 14 (.int) false := ⟨RX8, TX8, tyX8, zcl8, by decide, rfl, rfl, by rw [h]; exact Or.inl (zT_in 1112 (by decide +kernel) rfl)⟩
theorem flX8_29 {M : zM} (h : M.1.cls = RX8) : zFl M 29 8 15 (tyX8 15) true := ⟨RX8, TX8, tyX8, zcl8, by decide, rfl, rfl, by rw [h]; exact Or.inl (zT_in 1113 (by decide +kernel) rfl)⟩
theorem ffX8_29 {M : zM} (h : M.1.cls = RX8) (hi : M.1.name = "<init>") : zFf M 29 8 15 := ⟨RX8, TX8, tyX8, zcl8, by decide, Or.inr ⟨_, rfl⟩, rfl, by rw [h]; exact zT_in 1113 (by decide +kernel) rfl, hi, h.symm⟩
theorem flX8_33 {M : zM} (h : M.1.cls = RX8) : zFl M 33 8 17 (tyX8 17) true := ⟨RX8, TX8, tyX8, zcl8, by decide, rfl, rfl, by rw [h]; exact Or.inl (zT_in 1115 (by decide +kernel) rfl)⟩
theorem ffX8_33 {M : zM} (h : M.1.cls = RX8) (hi : M.1.name = "<init>") : zFf M 33 8 17 := ⟨RX8, TX8, tyX8, zcl8, by decide, Or.inr ⟨_, rfl⟩, rfl, by rw [h]; exact zT_in 1115 (by decide +kernel) rfl, hi, h.symm⟩
theorem flX8_36 {M : zM} (h : M.1.cls = RX8) : zFl M 36 8 18 (tyX8 18) true := ⟨RX8, TX8, tyX8, zcl8, by decide, rfl, rfl, by rw [h]; exact Or.inl (zT_in 1116 (by decide +kernel) rfl)⟩
theorem ffX8_36 {M : zM} (h : M.1.cls = RX8) (hi : M.1.name = "<init>") : zFf M 36 8 18 := ⟨RX8, TX8, tyX8, zcl8, by decide, Or.inr ⟨_, rfl⟩, rfl, by rw [h]; exact zT_in 1116 (by decide +kernel) rfl, hi, h.symm⟩
theorem flX8_39 {M : zM} (h : M.1.cls = RX8) : zFl M 39 8 20 (tyX8 20) true := ⟨RX8, TX8, tyX8, zcl8, by decide, rfl, rfl, by rw [h]; exact Or.inl (zT_in 1118 (by decide +kernel) rfl)⟩
theorem ffX8_39 {M : zM} (h : M.1.cls = RX8) (hi : M.1.name = "<init>") : zFf M 39 8 20 := ⟨RX8, TX8, tyX8, zcl8, by decide, Or.inr ⟨_, rfl⟩, rfl, by rw [h]; exact zT_in 1118 (by decide +kernel) rfl, hi, h.symm⟩
theorem flX8_42 {M : zM} (h : M.1.cls = RX8) : zFl M 42 8 8 (.int) false := ⟨RX8, TX8, tyX8, zcl8, by decide, rfl, rfl, by rw [h]; exact Or.inl (zT_in 1106 (by decide +kernel) rfl)⟩
theorem flX8_45 {M : zM} (h : M.1.cls = RX8) : zFl M 45 8 9 (.int) false := ⟨RX8, TX8, tyX8, zcl8, by decide, rfl, rfl, by rw [h]; exact Or.inl (zT_in 1107 (by decide +kernel) rfl)⟩
theorem flX8_48 {M : zM} (h : M.1.cls = RX8) : zFl M 48 8 10 (.int) false := ⟨RX8, TX8, tyX8, zcl8, by decide, rfl, rfl, by rw [h]; exact Or.inl (zT_in 1108 (by decide +kernel) rfl)⟩
theorem flX8_51 {M : zM} (h : M.1.cls = RX8) : zFl M 51 8 6 (.boolean) false := ⟨RX8, TX8, tyX8, zcl8, by decide, rfl, rfl, by rw [h]; exact Or.inl (zT_in 1104 (by decide +kernel) rfl)⟩
theorem flX8_55 {M : zM} (h : M.1.cls = RX8) : zFl M 55 8 7 (.int) false := ⟨RX8, TX8, tyX8, zcl8, by decide, rfl, rfl, by rw [h]; exact Or.inl (zT_in 1105 (by decide +kernel) rfl)⟩
theorem flX8_58 {M : zM} (h : M.1.cls = RX8) : zFl M 58 8 11 (.int) false := ⟨RX8, TX8, tyX8, zcl8, by decide, rfl, rfl, by rw [h]; exact Or.inl (zT_in 1109 (by decide +kernel) rfl)⟩
theorem flX8_61 {M : zM} (h : M.1.cls = RX8) : zFl M 61 8 5 (.int) false := ⟨RX8, TX8, tyX8, zcl8, by decide, rfl, rfl, by rw [h]; exact Or.inl (zT_in 1103 (by decide +kernel) rfl)⟩
theorem flX8_152 {M : zM} (h : M.1.cls = RX8) : zFl M 152 8 13 (.int) false := ⟨RX8, TX8, tyX8, zcl8, by decide, rfl, rfl, by rw [h]; exact Or.inl (zT_in 1111 (by decide +kernel) rfl)⟩
theorem flX8_155 {M : zM} (h : M.1.cls = RX8) : zFl M 155 8 19 (.int) false := ⟨RX8, TX8, tyX8, zcl8, by decide, rfl, rfl, by rw [h]; exact Or.inl (zT_in 1117 (by decide +kernel) rfl)⟩
theorem flX8_162 {M : zM} (h : M.1.cls = RX8) : zFl M 162 8 21 (.int) false := ⟨RX8, TX8, tyX8, zcl8, by decide, rfl, rfl, by rw [h]; exact Or.inl (zT_in 1119 (by decide +kernel) rfl)⟩
theorem flX8_197 {M : zM} (h : M.1.cls = RX8) : zFl M 197 8 16 (.int) false := ⟨RX8, TX8, tyX8, zcl8, by decide, rfl, rfl, by rw [h]; exact Or.inl (zT_in 1114 (by decide +kernel) rfl)⟩
theorem flX8_216 {M : zM} (h : M.1.cls = RX8) : zFl M 216 8 4 (.boolean) false := ⟨RX8, TX8, tyX8, zcl8, by decide, rfl, rfl, by rw [h]; exact Or.inl (zT_in 1102 (by decide +kernel) rfl)⟩
theorem cdX8_207 {M : zM} (h : M.1.cls = RX8) : Cond.constantDouble M.1.cls 207 (UInt64.ofNat 4625196817309499392) ∈ zT := by rw [h]; exact zT_in 1430 (by decide +kernel) rfl
theorem thX7_123_127 {M : zM} (h : M.1.cls = RX7) : zThX M 123 127 13 prog_27_method_4_code "java/util/NoSuchElementException" := by
  unfold zThX
  rw [h]
  exact ⟨by decide +kernel, zT_in 643 (by decide +kernel) rfl, zT_in 58 (by decide +kernel) rfl, fun w hw => List.mem_filter.mpr ⟨(by decide +kernel : ∀ w ∈ ((zAtX RX7 127 "java/util/NoSuchElementException" 13 prog_27_method_4_code zEx).filter vx_no).filter goodWord, w ∈ lw_tbl) w hw, (List.mem_filter.mp hw).2⟩, fun w hw => List.mem_filter.mpr ⟨(by decide +kernel : ∀ w ∈ ((zAtX RX7 127 "java/util/NoSuchElementException" 13 prog_27_method_4_code zEx).filter vx_no).filter (fun w => !goodWord w), w ∈ lw_tbl) w hw, (by decide +kernel : ∀ w ∈ ((zAtX RX7 127 "java/util/NoSuchElementException" 13 prog_27_method_4_code zEx).filter vx_no).filter (fun w => !goodWord w), zNwOk w = true) w hw⟩, by decide +kernel, by decide +kernel, by decide +kernel, by decide +kernel, by decide +kernel⟩
theorem thX7_151_155 {M : zM} (h : M.1.cls = RX7) : zTh M 151 155 "java/lang/IllegalArgumentException" := by
  unfold zTh
  rw [h]
  exact ⟨by decide +kernel, zT_in 581 (by decide +kernel) rfl, zT_in 57 (by decide +kernel) rfl, fun w hw => List.mem_filter.mpr ⟨(by decide +kernel : ∀ w ∈ (vx_atS RX7 155 "java/lang/IllegalArgumentException" zEx).filter goodWord, w ∈ lw_tbl) w hw, (List.mem_filter.mp hw).2⟩, fun w hw => List.mem_filter.mpr ⟨(by decide +kernel : ∀ w ∈ (vx_atS RX7 155 "java/lang/IllegalArgumentException" zEx).filter (fun w => !goodWord w), w ∈ lw_tbl) w hw, (by decide +kernel : ∀ w ∈ (vx_atS RX7 155 "java/lang/IllegalArgumentException" zEx).filter (fun w => !goodWord w), zNwOk w = true) w hw⟩, by decide +kernel⟩
theorem thX7_207_211 {M : zM} (h : M.1.cls = RX7) : zTh M 207 211 "java/lang/IllegalStateException" := by
  unfold zTh
  rw [h]
  exact ⟨by decide +kernel, zT_in 836 (by decide +kernel) rfl, zT_in 59 (by decide +kernel) rfl, fun w hw => List.mem_filter.mpr ⟨(by decide +kernel : ∀ w ∈ (vx_atS RX7 211 "java/lang/IllegalStateException" zEx).filter goodWord, w ∈ lw_tbl) w hw, (List.mem_filter.mp hw).2⟩, fun w hw => List.mem_filter.mpr ⟨(by decide +kernel : ∀ w ∈ (vx_atS RX7 211 "java/lang/IllegalStateException" zEx).filter (fun w => !goodWord w), w ∈ lw_tbl) w hw, (by decide +kernel : ∀ w ∈ (vx_atS RX7 211 "java/lang/IllegalStateException" zEx).filter (fun w => !goodWord w), zNwOk w = true) w hw⟩, by decide +kernel⟩
theorem thX7_263_267 {M : zM} (h : M.1.cls = RX7) : zTh M 263 267 "java/lang/IndexOutOfBoundsException" := by
  unfold zTh
  rw [h]
  exact ⟨by decide +kernel, zT_in 546 (by decide +kernel) rfl, zT_in 56 (by decide +kernel) rfl, fun w hw => List.mem_filter.mpr ⟨(by decide +kernel : ∀ w ∈ (vx_atS RX7 267 "java/lang/IndexOutOfBoundsException" zEx).filter goodWord, w ∈ lw_tbl) w hw, (List.mem_filter.mp hw).2⟩, fun w hw => List.mem_filter.mpr ⟨(by decide +kernel : ∀ w ∈ (vx_atS RX7 267 "java/lang/IndexOutOfBoundsException" zEx).filter (fun w => !goodWord w), w ∈ lw_tbl) w hw, (by decide +kernel : ∀ w ∈ (vx_atS RX7 267 "java/lang/IndexOutOfBoundsException" zEx).filter (fun w => !goodWord w), zNwOk w = true) w hw⟩, by decide +kernel⟩
theorem thX7_314_318 {M : zM} (h : M.1.cls = RX7) : zTh M 314 318 "java/lang/UnsupportedOperationException" := by
  unfold zTh
  rw [h]
  exact ⟨by decide +kernel, zT_in 385 (by decide +kernel) rfl, zT_in 55 (by decide +kernel) rfl, fun w hw => List.mem_filter.mpr ⟨(by decide +kernel : ∀ w ∈ (vx_atS RX7 318 "java/lang/UnsupportedOperationException" zEx).filter goodWord, w ∈ lw_tbl) w hw, (List.mem_filter.mp hw).2⟩, fun w hw => List.mem_filter.mpr ⟨(by decide +kernel : ∀ w ∈ (vx_atS RX7 318 "java/lang/UnsupportedOperationException" zEx).filter (fun w => !goodWord w), w ∈ lw_tbl) w hw, (by decide +kernel : ∀ w ∈ (vx_atS RX7 318 "java/lang/UnsupportedOperationException" zEx).filter (fun w => !goodWord w), zNwOk w = true) w hw⟩, by decide +kernel⟩
theorem yiX0_init : Cond.initialized mX0_init.1.cls ∈ zT ∧ plainName mX0_init.1.cls = true ∧ (mX0_init.1.cls ≠ "java/lang/invoke/MethodHandle" ∧ mX0_init.1.cls ≠ "java/lang/invoke/VarHandle") ∧ (parseMethodDescriptor mX0_init.1.desc).map (fun d => d.parameters.length) = some 0 := ⟨zT_in 44 (by decide +kernel) rfl, by decide +kernel, by decide +kernel, by decide +kernel⟩
theorem ycX0_init : zLkC mX0_init := ⟨rfl, zT_in 82 (by decide +kernel) rfl⟩
theorem yvX0_init : Cond.instanceMethod mX0_init.1 ∈ zT := zT_in 81 (by decide +kernel) rfl
theorem yiX0_copyFrom : Cond.initialized mX0_copyFrom.1.cls ∈ zT ∧ plainName mX0_copyFrom.1.cls = true ∧ (mX0_copyFrom.1.cls ≠ "java/lang/invoke/MethodHandle" ∧ mX0_copyFrom.1.cls ≠ "java/lang/invoke/VarHandle") ∧ (parseMethodDescriptor mX0_copyFrom.1.desc).map (fun d => d.parameters.length) = some 1 := ⟨zT_in 44 (by decide +kernel) rfl, by decide +kernel, by decide +kernel, by decide +kernel⟩
theorem ycX0_copyFrom : zLkC mX0_copyFrom := ⟨rfl, zT_in 282 (by decide +kernel) rfl⟩
theorem yvX0_copyFrom : Cond.instanceMethod mX0_copyFrom.1 ∈ zT := zT_in 280 (by decide +kernel) rfl
theorem ywX0_copyFrom : Cond.selects mX0_copyFrom.1.cls mX0_copyFrom.1 mX0_copyFrom.1 ∈ zT := zT_in 281 (by decide +kernel) rfl
theorem yiX0_noteIn : Cond.initialized mX0_noteIn.1.cls ∈ zT ∧ plainName mX0_noteIn.1.cls = true ∧ (mX0_noteIn.1.cls ≠ "java/lang/invoke/MethodHandle" ∧ mX0_noteIn.1.cls ≠ "java/lang/invoke/VarHandle") ∧ (parseMethodDescriptor mX0_noteIn.1.desc).map (fun d => d.parameters.length) = some 2 := ⟨zT_in 44 (by decide +kernel) rfl, by decide +kernel, by decide +kernel, by decide +kernel⟩
theorem ycX0_noteIn : zLkC mX0_noteIn := ⟨rfl, zT_in 306 (by decide +kernel) rfl⟩
theorem yvX0_noteIn : Cond.instanceMethod mX0_noteIn.1 ∈ zT := zT_in 304 (by decide +kernel) rfl
theorem ywX0_noteIn : Cond.selects mX0_noteIn.1.cls mX0_noteIn.1 mX0_noteIn.1 ∈ zT := zT_in 305 (by decide +kernel) rfl
theorem yiX0_returnTo : Cond.initialized mX0_returnTo.1.cls ∈ zT ∧ plainName mX0_returnTo.1.cls = true ∧ (mX0_returnTo.1.cls ≠ "java/lang/invoke/MethodHandle" ∧ mX0_returnTo.1.cls ≠ "java/lang/invoke/VarHandle") ∧ (parseMethodDescriptor mX0_returnTo.1.desc).map (fun d => d.parameters.length) = some 2 := ⟨zT_in 44 (by decide +kernel) rfl, by decide +kernel, by decide +kernel, by decide +kernel⟩
theorem ycX0_returnTo : zLkC mX0_returnTo := ⟨rfl, zT_in 380 (by decide +kernel) rfl⟩
theorem yvX0_returnTo : Cond.instanceMethod mX0_returnTo.1 ∈ zT := zT_in 378 (by decide +kernel) rfl
theorem ywX0_returnTo : Cond.selects mX0_returnTo.1.cls mX0_returnTo.1 mX0_returnTo.1 ∈ zT := zT_in 379 (by decide +kernel) rfl
theorem yiX0_ledgerOf : Cond.initialized mX0_ledgerOf.1.cls ∈ zT ∧ plainName mX0_ledgerOf.1.cls = true ∧ (mX0_ledgerOf.1.cls ≠ "java/lang/invoke/MethodHandle" ∧ mX0_ledgerOf.1.cls ≠ "java/lang/invoke/VarHandle") ∧ (parseMethodDescriptor mX0_ledgerOf.1.desc).map (fun d => d.parameters.length) = some 1 := ⟨zT_in 44 (by decide +kernel) rfl, by decide +kernel, by decide +kernel, by decide +kernel⟩
theorem ycX0_ledgerOf : zLkC mX0_ledgerOf := ⟨rfl, zT_in 325 (by decide +kernel) rfl⟩
theorem yvX0_ledgerOf : Cond.instanceMethod mX0_ledgerOf.1 ∈ zT := zT_in 323 (by decide +kernel) rfl
theorem ywX0_ledgerOf : Cond.selects mX0_ledgerOf.1.cls mX0_ledgerOf.1 mX0_ledgerOf.1 ∈ zT := zT_in 324 (by decide +kernel) rfl
theorem yiX0_giveLedger : Cond.initialized mX0_giveLedger.1.cls ∈ zT ∧ plainName mX0_giveLedger.1.cls = true ∧ (mX0_giveLedger.1.cls ≠ "java/lang/invoke/MethodHandle" ∧ mX0_giveLedger.1.cls ≠ "java/lang/invoke/VarHandle") ∧ (parseMethodDescriptor mX0_giveLedger.1.desc).map (fun d => d.parameters.length) = some 2 := ⟨zT_in 44 (by decide +kernel) rfl, by decide +kernel, by decide +kernel, by decide +kernel⟩
theorem ycX0_giveLedger : zLkC mX0_giveLedger := ⟨rfl, zT_in 367 (by decide +kernel) rfl⟩
theorem yvX0_giveLedger : Cond.instanceMethod mX0_giveLedger.1 ∈ zT := zT_in 365 (by decide +kernel) rfl
theorem ywX0_giveLedger : Cond.selects mX0_giveLedger.1.cls mX0_giveLedger.1 mX0_giveLedger.1 ∈ zT := zT_in 366 (by decide +kernel) rfl
theorem yiX0_housesWith : Cond.initialized mX0_housesWith.1.cls ∈ zT ∧ plainName mX0_housesWith.1.cls = true ∧ (mX0_housesWith.1.cls ≠ "java/lang/invoke/MethodHandle" ∧ mX0_housesWith.1.cls ≠ "java/lang/invoke/VarHandle") ∧ (parseMethodDescriptor mX0_housesWith.1.desc).map (fun d => d.parameters.length) = some 1 := ⟨zT_in 44 (by decide +kernel) rfl, by decide +kernel, by decide +kernel, by decide +kernel⟩
theorem ycX0_housesWith : zLkC mX0_housesWith := ⟨rfl, zT_in 685 (by decide +kernel) rfl⟩
theorem yvX0_housesWith : Cond.instanceMethod mX0_housesWith.1 ∈ zT := zT_in 683 (by decide +kernel) rfl
theorem ywX0_housesWith : Cond.selects mX0_housesWith.1.cls mX0_housesWith.1 mX0_housesWith.1 ∈ zT := zT_in 684 (by decide +kernel) rfl
theorem yiX0_versionsOfHouses : Cond.initialized mX0_versionsOfHouses.1.cls ∈ zT ∧ plainName mX0_versionsOfHouses.1.cls = true ∧ (mX0_versionsOfHouses.1.cls ≠ "java/lang/invoke/MethodHandle" ∧ mX0_versionsOfHouses.1.cls ≠ "java/lang/invoke/VarHandle") ∧ (parseMethodDescriptor mX0_versionsOfHouses.1.desc).map (fun d => d.parameters.length) = some 0 := ⟨zT_in 44 (by decide +kernel) rfl, by decide +kernel, by decide +kernel, by decide +kernel⟩
theorem ycX0_versionsOfHouses : zLkC mX0_versionsOfHouses := ⟨rfl, zT_in 1056 (by decide +kernel) rfl⟩
theorem yvX0_versionsOfHouses : Cond.instanceMethod mX0_versionsOfHouses.1 ∈ zT := zT_in 1054 (by decide +kernel) rfl
theorem ywX0_versionsOfHouses : Cond.selects mX0_versionsOfHouses.1.cls mX0_versionsOfHouses.1 mX0_versionsOfHouses.1 ∈ zT := zT_in 1055 (by decide +kernel) rfl
theorem yiX1_init : Cond.initialized mX1_init.1.cls ∈ zT ∧ plainName mX1_init.1.cls = true ∧ (mX1_init.1.cls ≠ "java/lang/invoke/MethodHandle" ∧ mX1_init.1.cls ≠ "java/lang/invoke/VarHandle") ∧ (parseMethodDescriptor mX1_init.1.desc).map (fun d => d.parameters.length) = some 0 := ⟨zT_in 43 (by decide +kernel) rfl, by decide +kernel, by decide +kernel, by decide +kernel⟩
theorem ycX1_init : zLkC mX1_init := ⟨rfl, zT_in 76 (by decide +kernel) rfl⟩
theorem yvX1_init : Cond.instanceMethod mX1_init.1 ∈ zT := zT_in 75 (by decide +kernel) rfl
theorem yiX1_carryOut : Cond.initialized mX1_carryOut.1.cls ∈ zT ∧ plainName mX1_carryOut.1.cls = true ∧ (mX1_carryOut.1.cls ≠ "java/lang/invoke/MethodHandle" ∧ mX1_carryOut.1.cls ≠ "java/lang/invoke/VarHandle") ∧ (parseMethodDescriptor mX1_carryOut.1.desc).map (fun d => d.parameters.length) = some 1 := ⟨zT_in 43 (by decide +kernel) rfl, by decide +kernel, by decide +kernel, by decide +kernel⟩
theorem ycX1_carryOut : zLkC mX1_carryOut := ⟨rfl, zT_in 966 (by decide +kernel) rfl⟩
theorem yvX1_carryOut : Cond.instanceMethod mX1_carryOut.1 ∈ zT := zT_in 964 (by decide +kernel) rfl
theorem ywX1_carryOut : Cond.selects mX1_carryOut.1.cls mX1_carryOut.1 mX1_carryOut.1 ∈ zT := zT_in 965 (by decide +kernel) rfl
theorem yiX1_enter : Cond.initialized mX1_enter.1.cls ∈ zT ∧ plainName mX1_enter.1.cls = true ∧ (mX1_enter.1.cls ≠ "java/lang/invoke/MethodHandle" ∧ mX1_enter.1.cls ≠ "java/lang/invoke/VarHandle") ∧ (parseMethodDescriptor mX1_enter.1.desc).map (fun d => d.parameters.length) = some 3 := ⟨zT_in 43 (by decide +kernel) rfl, by decide +kernel, by decide +kernel, by decide +kernel⟩
theorem ycX1_enter : zLkC mX1_enter := ⟨rfl, zT_in 311 (by decide +kernel) rfl⟩
theorem yvX1_enter : Cond.instanceMethod mX1_enter.1 ∈ zT := zT_in 309 (by decide +kernel) rfl
theorem ywX1_enter : Cond.selects mX1_enter.1.cls mX1_enter.1 mX1_enter.1 ∈ zT := zT_in 310 (by decide +kernel) rfl
theorem yiX1_copyLines : Cond.initialized mX1_copyLines.1.cls ∈ zT ∧ plainName mX1_copyLines.1.cls = true ∧ (mX1_copyLines.1.cls ≠ "java/lang/invoke/MethodHandle" ∧ mX1_copyLines.1.cls ≠ "java/lang/invoke/VarHandle") ∧ (parseMethodDescriptor mX1_copyLines.1.desc).map (fun d => d.parameters.length) = some 4 := ⟨zT_in 43 (by decide +kernel) rfl, by decide +kernel, by decide +kernel, by decide +kernel⟩
theorem ycX1_copyLines : zLkC mX1_copyLines := ⟨rfl, zT_in 470 (by decide +kernel) rfl⟩
theorem yvX1_copyLines : Cond.instanceMethod mX1_copyLines.1 ∈ zT := zT_in 468 (by decide +kernel) rfl
theorem ywX1_copyLines : Cond.selects mX1_copyLines.1.cls mX1_copyLines.1 mX1_copyLines.1 ∈ zT := zT_in 469 (by decide +kernel) rfl
theorem yiX1_takeOver : Cond.initialized mX1_takeOver.1.cls ∈ zT ∧ plainName mX1_takeOver.1.cls = true ∧ (mX1_takeOver.1.cls ≠ "java/lang/invoke/MethodHandle" ∧ mX1_takeOver.1.cls ≠ "java/lang/invoke/VarHandle") ∧ (parseMethodDescriptor mX1_takeOver.1.desc).map (fun d => d.parameters.length) = some 2 := ⟨zT_in 43 (by decide +kernel) rfl, by decide +kernel, by decide +kernel, by decide +kernel⟩
theorem ycX1_takeOver : zLkC mX1_takeOver := ⟨rfl, zT_in 499 (by decide +kernel) rfl⟩
theorem yvX1_takeOver : Cond.instanceMethod mX1_takeOver.1 ∈ zT := zT_in 497 (by decide +kernel) rfl
theorem ywX1_takeOver : Cond.selects mX1_takeOver.1.cls mX1_takeOver.1 mX1_takeOver.1 ∈ zT := zT_in 498 (by decide +kernel) rfl
theorem yiX1_goBack : Cond.initialized mX1_goBack.1.cls ∈ zT ∧ plainName mX1_goBack.1.cls = true ∧ (mX1_goBack.1.cls ≠ "java/lang/invoke/MethodHandle" ∧ mX1_goBack.1.cls ≠ "java/lang/invoke/VarHandle") ∧ (parseMethodDescriptor mX1_goBack.1.desc).map (fun d => d.parameters.length) = some 2 := ⟨zT_in 43 (by decide +kernel) rfl, by decide +kernel, by decide +kernel, by decide +kernel⟩
theorem ycX1_goBack : zLkC mX1_goBack := ⟨rfl, zT_in 510 (by decide +kernel) rfl⟩
theorem yvX1_goBack : Cond.instanceMethod mX1_goBack.1 ∈ zT := zT_in 508 (by decide +kernel) rfl
theorem ywX1_goBack : Cond.selects mX1_goBack.1.cls mX1_goBack.1 mX1_goBack.1 ∈ zT := zT_in 509 (by decide +kernel) rfl
theorem yiX1_letGoBy : Cond.initialized mX1_letGoBy.1.cls ∈ zT ∧ plainName mX1_letGoBy.1.cls = true ∧ (mX1_letGoBy.1.cls ≠ "java/lang/invoke/MethodHandle" ∧ mX1_letGoBy.1.cls ≠ "java/lang/invoke/VarHandle") ∧ (parseMethodDescriptor mX1_letGoBy.1.desc).map (fun d => d.parameters.length) = some 1 := ⟨zT_in 43 (by decide +kernel) rfl, by decide +kernel, by decide +kernel, by decide +kernel⟩
theorem ycX1_letGoBy : zLkC mX1_letGoBy := ⟨rfl, zT_in 533 (by decide +kernel) rfl⟩
theorem yvX1_letGoBy : Cond.instanceMethod mX1_letGoBy.1 ∈ zT := zT_in 531 (by decide +kernel) rfl
theorem ywX1_letGoBy : Cond.selects mX1_letGoBy.1.cls mX1_letGoBy.1 mX1_letGoBy.1 ∈ zT := zT_in 532 (by decide +kernel) rfl
theorem yiX2_init : Cond.initialized mX2_init.1.cls ∈ zT ∧ plainName mX2_init.1.cls = true ∧ (mX2_init.1.cls ≠ "java/lang/invoke/MethodHandle" ∧ mX2_init.1.cls ≠ "java/lang/invoke/VarHandle") ∧ (parseMethodDescriptor mX2_init.1.desc).map (fun d => d.parameters.length) = some 0 := ⟨zT_in 48 (by decide +kernel) rfl, by decide +kernel, by decide +kernel, by decide +kernel⟩
theorem ycX2_init : zLkC mX2_init := ⟨rfl, zT_in 181 (by decide +kernel) rfl⟩
theorem yvX2_init : Cond.instanceMethod mX2_init.1 ∈ zT := zT_in 180 (by decide +kernel) rfl
theorem yiX2_size : Cond.initialized mX2_size.1.cls ∈ zT ∧ plainName mX2_size.1.cls = true ∧ (mX2_size.1.cls ≠ "java/lang/invoke/MethodHandle" ∧ mX2_size.1.cls ≠ "java/lang/invoke/VarHandle") ∧ (parseMethodDescriptor mX2_size.1.desc).map (fun d => d.parameters.length) = some 0 := ⟨zT_in 48 (by decide +kernel) rfl, by decide +kernel, by decide +kernel, by decide +kernel⟩
theorem ycX2_size : zLkC mX2_size := ⟨rfl, zT_in 860 (by decide +kernel) rfl⟩
theorem yvX2_size : Cond.instanceMethod mX2_size.1 ∈ zT := zT_in 858 (by decide +kernel) rfl
theorem ywX2_size : Cond.selects mX2_size.1.cls mX2_size.1 mX2_size.1 ∈ zT := zT_in 859 (by decide +kernel) rfl
theorem yiX2_isFull : Cond.initialized mX2_isFull.1.cls ∈ zT ∧ plainName mX2_isFull.1.cls = true ∧ (mX2_isFull.1.cls ≠ "java/lang/invoke/MethodHandle" ∧ mX2_isFull.1.cls ≠ "java/lang/invoke/VarHandle") ∧ (parseMethodDescriptor mX2_isFull.1.desc).map (fun d => d.parameters.length) = some 0 := ⟨zT_in 48 (by decide +kernel) rfl, by decide +kernel, by decide +kernel, by decide +kernel⟩
theorem ycX2_isFull : zLkC mX2_isFull := ⟨rfl, zT_in 835 (by decide +kernel) rfl⟩
theorem yvX2_isFull : Cond.instanceMethod mX2_isFull.1 ∈ zT := zT_in 833 (by decide +kernel) rfl
theorem ywX2_isFull : Cond.selects mX2_isFull.1.cls mX2_isFull.1 mX2_isFull.1 ∈ zT := zT_in 834 (by decide +kernel) rfl
theorem yiX2_put : Cond.initialized mX2_put.1.cls ∈ zT ∧ plainName mX2_put.1.cls = true ∧ (mX2_put.1.cls ≠ "java/lang/invoke/MethodHandle" ∧ mX2_put.1.cls ≠ "java/lang/invoke/VarHandle") ∧ (parseMethodDescriptor mX2_put.1.desc).map (fun d => d.parameters.length) = some 1 := ⟨zT_in 48 (by decide +kernel) rfl, by decide +kernel, by decide +kernel, by decide +kernel⟩
theorem ycX2_put : zLkC mX2_put := ⟨rfl, zT_in 855 (by decide +kernel) rfl⟩
theorem yvX2_put : Cond.instanceMethod mX2_put.1 ∈ zT := zT_in 853 (by decide +kernel) rfl
theorem ywX2_put : Cond.selects mX2_put.1.cls mX2_put.1 mX2_put.1 ∈ zT := zT_in 854 (by decide +kernel) rfl
theorem yiX2_clear : Cond.initialized mX2_clear.1.cls ∈ zT ∧ plainName mX2_clear.1.cls = true ∧ (mX2_clear.1.cls ≠ "java/lang/invoke/MethodHandle" ∧ mX2_clear.1.cls ≠ "java/lang/invoke/VarHandle") ∧ (parseMethodDescriptor mX2_clear.1.desc).map (fun d => d.parameters.length) = some 0 := ⟨zT_in 48 (by decide +kernel) rfl, by decide +kernel, by decide +kernel, by decide +kernel⟩
theorem ycX2_clear : zLkC mX2_clear := ⟨rfl, zT_in 959 (by decide +kernel) rfl⟩
theorem yvX2_clear : Cond.instanceMethod mX2_clear.1 ∈ zT := zT_in 957 (by decide +kernel) rfl
theorem ywX2_clear : Cond.selects mX2_clear.1.cls mX2_clear.1 mX2_clear.1 ∈ zT := zT_in 958 (by decide +kernel) rfl
theorem yiX2_rewind : Cond.initialized mX2_rewind.1.cls ∈ zT ∧ plainName mX2_rewind.1.cls = true ∧ (mX2_rewind.1.cls ≠ "java/lang/invoke/MethodHandle" ∧ mX2_rewind.1.cls ≠ "java/lang/invoke/VarHandle") ∧ (parseMethodDescriptor mX2_rewind.1.desc).map (fun d => d.parameters.length) = some 0 := ⟨zT_in 48 (by decide +kernel) rfl, by decide +kernel, by decide +kernel, by decide +kernel⟩
theorem ycX2_rewind : zLkC mX2_rewind := ⟨rfl, zT_in 875 (by decide +kernel) rfl⟩
theorem yvX2_rewind : Cond.instanceMethod mX2_rewind.1 ∈ zT := zT_in 873 (by decide +kernel) rfl
theorem ywX2_rewind : Cond.selects mX2_rewind.1.cls mX2_rewind.1 mX2_rewind.1 ∈ zT := zT_in 874 (by decide +kernel) rfl
theorem yiX2_kind : Cond.initialized mX2_kind.1.cls ∈ zT ∧ plainName mX2_kind.1.cls = true ∧ (mX2_kind.1.cls ≠ "java/lang/invoke/MethodHandle" ∧ mX2_kind.1.cls ≠ "java/lang/invoke/VarHandle") ∧ (parseMethodDescriptor mX2_kind.1.desc).map (fun d => d.parameters.length) = some 0 := ⟨zT_in 48 (by decide +kernel) rfl, by decide +kernel, by decide +kernel, by decide +kernel⟩
theorem ycX2_kind : zLkC mX2_kind := ⟨rfl, zT_in 974 (by decide +kernel) rfl⟩
theorem yvX2_kind : Cond.instanceMethod mX2_kind.1 ∈ zT := zT_in 972 (by decide +kernel) rfl
theorem ywX2_kind : Cond.selects mX2_kind.1.cls mX2_kind.1 mX2_kind.1 ∈ zT := zT_in 973 (by decide +kernel) rfl
theorem yiX2_number : Cond.initialized mX2_number.1.cls ∈ zT ∧ plainName mX2_number.1.cls = true ∧ (mX2_number.1.cls ≠ "java/lang/invoke/MethodHandle" ∧ mX2_number.1.cls ≠ "java/lang/invoke/VarHandle") ∧ (parseMethodDescriptor mX2_number.1.desc).map (fun d => d.parameters.length) = some 1 := ⟨zT_in 48 (by decide +kernel) rfl, by decide +kernel, by decide +kernel, by decide +kernel⟩
theorem ycX2_number : zLkC mX2_number := ⟨rfl, zT_in 970 (by decide +kernel) rfl⟩
theorem yvX2_number : Cond.instanceMethod mX2_number.1 ∈ zT := zT_in 968 (by decide +kernel) rfl
theorem ywX2_number : Cond.selects mX2_number.1.cls mX2_number.1 mX2_number.1 ∈ zT := zT_in 969 (by decide +kernel) rfl
theorem yiX2_findFault : Cond.initialized mX2_findFault.1.cls ∈ zT ∧ plainName mX2_findFault.1.cls = true ∧ (mX2_findFault.1.cls ≠ "java/lang/invoke/MethodHandle" ∧ mX2_findFault.1.cls ≠ "java/lang/invoke/VarHandle") ∧ (parseMethodDescriptor mX2_findFault.1.desc).map (fun d => d.parameters.length) = some 0 := ⟨zT_in 48 (by decide +kernel) rfl, by decide +kernel, by decide +kernel, by decide +kernel⟩
theorem ycX2_findFault : zLkC mX2_findFault := ⟨rfl, zT_in 871 (by decide +kernel) rfl⟩
theorem yvX2_findFault : Cond.instanceMethod mX2_findFault.1 ∈ zT := zT_in 869 (by decide +kernel) rfl
theorem ywX2_findFault : Cond.selects mX2_findFault.1.cls mX2_findFault.1 mX2_findFault.1 ∈ zT := zT_in 870 (by decide +kernel) rfl
theorem yiX2_readCommand : Cond.initialized mX2_readCommand.1.cls ∈ zT ∧ plainName mX2_readCommand.1.cls = true ∧ (mX2_readCommand.1.cls ≠ "java/lang/invoke/MethodHandle" ∧ mX2_readCommand.1.cls ≠ "java/lang/invoke/VarHandle") ∧ (parseMethodDescriptor mX2_readCommand.1.desc).map (fun d => d.parameters.length) = some 0 := ⟨zT_in 48 (by decide +kernel) rfl, by decide +kernel, by decide +kernel, by decide +kernel⟩
theorem ycX2_readCommand : zLkC mX2_readCommand := ⟨rfl, zT_in 879 (by decide +kernel) rfl⟩
theorem yvX2_readCommand : Cond.instanceMethod mX2_readCommand.1 ∈ zT := zT_in 877 (by decide +kernel) rfl
theorem ywX2_readCommand : Cond.selects mX2_readCommand.1.cls mX2_readCommand.1 mX2_readCommand.1 ∈ zT := zT_in 878 (by decide +kernel) rfl
theorem yiX2_readSign : Cond.initialized mX2_readSign.1.cls ∈ zT ∧ plainName mX2_readSign.1.cls = true ∧ (mX2_readSign.1.cls ≠ "java/lang/invoke/MethodHandle" ∧ mX2_readSign.1.cls ≠ "java/lang/invoke/VarHandle") ∧ (parseMethodDescriptor mX2_readSign.1.desc).map (fun d => d.parameters.length) = some 1 := ⟨zT_in 48 (by decide +kernel) rfl, by decide +kernel, by decide +kernel, by decide +kernel⟩
theorem ycX2_readSign : zLkC mX2_readSign := ⟨rfl, zT_in 955 (by decide +kernel) rfl⟩
theorem yvX2_readSign : Cond.instanceMethod mX2_readSign.1 ∈ zT := zT_in 953 (by decide +kernel) rfl
theorem ywX2_readSign : Cond.selects mX2_readSign.1.cls mX2_readSign.1 mX2_readSign.1 ∈ zT := zT_in 954 (by decide +kernel) rfl
theorem yiX2_readNumber : Cond.initialized mX2_readNumber.1.cls ∈ zT ∧ plainName mX2_readNumber.1.cls = true ∧ (mX2_readNumber.1.cls ≠ "java/lang/invoke/MethodHandle" ∧ mX2_readNumber.1.cls ≠ "java/lang/invoke/VarHandle") ∧ (parseMethodDescriptor mX2_readNumber.1.desc).map (fun d => d.parameters.length) = some 2 := ⟨zT_in 48 (by decide +kernel) rfl, by decide +kernel, by decide +kernel, by decide +kernel⟩
theorem ycX2_readNumber : zLkC mX2_readNumber := ⟨rfl, zT_in 951 (by decide +kernel) rfl⟩
theorem yvX2_readNumber : Cond.instanceMethod mX2_readNumber.1 ∈ zT := zT_in 950 (by decide +kernel) rfl
theorem ywX2_readNumber : Cond.selects mX2_readNumber.1.cls mX2_readNumber.1 mX2_readNumber.1 ∈ zT := zT_in 10 (by decide +kernel) rfl
theorem yiX2_signAhead : Cond.initialized mX2_signAhead.1.cls ∈ zT ∧ plainName mX2_signAhead.1.cls = true ∧ (mX2_signAhead.1.cls ≠ "java/lang/invoke/MethodHandle" ∧ mX2_signAhead.1.cls ≠ "java/lang/invoke/VarHandle") ∧ (parseMethodDescriptor mX2_signAhead.1.desc).map (fun d => d.parameters.length) = some 0 := ⟨zT_in 48 (by decide +kernel) rfl, by decide +kernel, by decide +kernel, by decide +kernel⟩
theorem ycX2_signAhead : zLkC mX2_signAhead := ⟨rfl, zT_in 883 (by decide +kernel) rfl⟩
theorem yvX2_signAhead : Cond.instanceMethod mX2_signAhead.1 ∈ zT := zT_in 882 (by decide +kernel) rfl
theorem ywX2_signAhead : Cond.selects mX2_signAhead.1.cls mX2_signAhead.1 mX2_signAhead.1 ∈ zT := zT_in 9 (by decide +kernel) rfl
theorem yiX2_formOf : Cond.initialized mX2_formOf.1.cls ∈ zT ∧ plainName mX2_formOf.1.cls = true ∧ (mX2_formOf.1.cls ≠ "java/lang/invoke/MethodHandle" ∧ mX2_formOf.1.cls ≠ "java/lang/invoke/VarHandle") ∧ (parseMethodDescriptor mX2_formOf.1.desc).map (fun d => d.parameters.length) = some 1 := ⟨zT_in 48 (by decide +kernel) rfl, by decide +kernel, by decide +kernel, by decide +kernel⟩
theorem ycX2_formOf : zLkC mX2_formOf := ⟨rfl, zT_in 886 (by decide +kernel) rfl⟩
theorem ysX2_formOf : Cond.static mX2_formOf.1 ∈ zT := zT_in 885 (by decide +kernel) rfl
theorem yiX3_init : Cond.initialized mX3_init.1.cls ∈ zT ∧ plainName mX3_init.1.cls = true ∧ (mX3_init.1.cls ≠ "java/lang/invoke/MethodHandle" ∧ mX3_init.1.cls ≠ "java/lang/invoke/VarHandle") ∧ (parseMethodDescriptor mX3_init.1.desc).map (fun d => d.parameters.length) = some 0 := ⟨zT_in 47 (by decide +kernel) rfl, by decide +kernel, by decide +kernel, by decide +kernel⟩
theorem ycX3_init : zLkC mX3_init := ⟨rfl, zT_in 168 (by decide +kernel) rfl⟩
theorem yvX3_init : Cond.instanceMethod mX3_init.1 ∈ zT := zT_in 167 (by decide +kernel) rfl
theorem yiX3_size : Cond.initialized mX3_size.1.cls ∈ zT ∧ plainName mX3_size.1.cls = true ∧ (mX3_size.1.cls ≠ "java/lang/invoke/MethodHandle" ∧ mX3_size.1.cls ≠ "java/lang/invoke/VarHandle") ∧ (parseMethodDescriptor mX3_size.1.desc).map (fun d => d.parameters.length) = some 0 := ⟨zT_in 47 (by decide +kernel) rfl, by decide +kernel, by decide +kernel, by decide +kernel⟩
theorem ycX3_size : zLkC mX3_size := ⟨rfl, zT_in 1066 (by decide +kernel) rfl⟩
theorem yvX3_size : Cond.instanceMethod mX3_size.1 ∈ zT := zT_in 1064 (by decide +kernel) rfl
theorem ywX3_size : Cond.selects mX3_size.1.cls mX3_size.1 mX3_size.1 ∈ zT := zT_in 1065 (by decide +kernel) rfl
theorem yiX3_note : Cond.initialized mX3_note.1.cls ∈ zT ∧ plainName mX3_note.1.cls = true ∧ (mX3_note.1.cls ≠ "java/lang/invoke/MethodHandle" ∧ mX3_note.1.cls ≠ "java/lang/invoke/VarHandle") ∧ (parseMethodDescriptor mX3_note.1.desc).map (fun d => d.parameters.length) = some 1 := ⟨zT_in 47 (by decide +kernel) rfl, by decide +kernel, by decide +kernel, by decide +kernel⟩
theorem ycX3_note : zLkC mX3_note := ⟨rfl, zT_in 302 (by decide +kernel) rfl⟩
theorem yvX3_note : Cond.instanceMethod mX3_note.1 ∈ zT := zT_in 300 (by decide +kernel) rfl
theorem ywX3_note : Cond.selects mX3_note.1.cls mX3_note.1 mX3_note.1 ∈ zT := zT_in 301 (by decide +kernel) rfl
theorem yiX3_takeBack : Cond.initialized mX3_takeBack.1.cls ∈ zT ∧ plainName mX3_takeBack.1.cls = true ∧ (mX3_takeBack.1.cls ≠ "java/lang/invoke/MethodHandle" ∧ mX3_takeBack.1.cls ≠ "java/lang/invoke/VarHandle") ∧ (parseMethodDescriptor mX3_takeBack.1.desc).map (fun d => d.parameters.length) = some 1 := ⟨zT_in 47 (by decide +kernel) rfl, by decide +kernel, by decide +kernel, by decide +kernel⟩
theorem ycX3_takeBack : zLkC mX3_takeBack := ⟨rfl, zT_in 376 (by decide +kernel) rfl⟩
theorem yvX3_takeBack : Cond.instanceMethod mX3_takeBack.1 ∈ zT := zT_in 374 (by decide +kernel) rfl
theorem ywX3_takeBack : Cond.selects mX3_takeBack.1.cls mX3_takeBack.1 mX3_takeBack.1 ∈ zT := zT_in 375 (by decide +kernel) rfl
theorem yiX3_keep : Cond.initialized mX3_keep.1.cls ∈ zT ∧ plainName mX3_keep.1.cls = true ∧ (mX3_keep.1.cls ≠ "java/lang/invoke/MethodHandle" ∧ mX3_keep.1.cls ≠ "java/lang/invoke/VarHandle") ∧ (parseMethodDescriptor mX3_keep.1.desc).map (fun d => d.parameters.length) = some 0 := ⟨zT_in 47 (by decide +kernel) rfl, by decide +kernel, by decide +kernel, by decide +kernel⟩
theorem ycX3_keep : zLkC mX3_keep := ⟨rfl, zT_in 458 (by decide +kernel) rfl⟩
theorem yvX3_keep : Cond.instanceMethod mX3_keep.1 ∈ zT := zT_in 456 (by decide +kernel) rfl
theorem ywX3_keep : Cond.selects mX3_keep.1.cls mX3_keep.1 mX3_keep.1 ∈ zT := zT_in 457 (by decide +kernel) rfl
theorem yiX3_dropLatest : Cond.initialized mX3_dropLatest.1.cls ∈ zT ∧ plainName mX3_dropLatest.1.cls = true ∧ (mX3_dropLatest.1.cls ≠ "java/lang/invoke/MethodHandle" ∧ mX3_dropLatest.1.cls ≠ "java/lang/invoke/VarHandle") ∧ (parseMethodDescriptor mX3_dropLatest.1.desc).map (fun d => d.parameters.length) = some 0 := ⟨zT_in 47 (by decide +kernel) rfl, by decide +kernel, by decide +kernel, by decide +kernel⟩
theorem ycX3_dropLatest : zLkC mX3_dropLatest := ⟨rfl, zT_in 1079 (by decide +kernel) rfl⟩
theorem yvX3_dropLatest : Cond.instanceMethod mX3_dropLatest.1 ∈ zT := zT_in 1077 (by decide +kernel) rfl
theorem ywX3_dropLatest : Cond.selects mX3_dropLatest.1.cls mX3_dropLatest.1 mX3_dropLatest.1 ∈ zT := zT_in 1078 (by decide +kernel) rfl
theorem yiX3_forget : Cond.initialized mX3_forget.1.cls ∈ zT ∧ plainName mX3_forget.1.cls = true ∧ (mX3_forget.1.cls ≠ "java/lang/invoke/MethodHandle" ∧ mX3_forget.1.cls ≠ "java/lang/invoke/VarHandle") ∧ (parseMethodDescriptor mX3_forget.1.desc).map (fun d => d.parameters.length) = some 0 := ⟨zT_in 47 (by decide +kernel) rfl, by decide +kernel, by decide +kernel, by decide +kernel⟩
theorem ycX3_forget : zLkC mX3_forget := ⟨rfl, zT_in 1091 (by decide +kernel) rfl⟩
theorem yvX3_forget : Cond.instanceMethod mX3_forget.1 ∈ zT := zT_in 1089 (by decide +kernel) rfl
theorem ywX3_forget : Cond.selects mX3_forget.1.cls mX3_forget.1 mX3_forget.1 ∈ zT := zT_in 1090 (by decide +kernel) rfl
theorem yiX4_init : Cond.initialized mX4_init.1.cls ∈ zT ∧ plainName mX4_init.1.cls = true ∧ (mX4_init.1.cls ≠ "java/lang/invoke/MethodHandle" ∧ mX4_init.1.cls ≠ "java/lang/invoke/VarHandle") ∧ (parseMethodDescriptor mX4_init.1.desc).map (fun d => d.parameters.length) = some 0 := ⟨zT_in 46 (by decide +kernel) rfl, by decide +kernel, by decide +kernel, by decide +kernel⟩
theorem ycX4_init : zLkC mX4_init := ⟨rfl, zT_in 135 (by decide +kernel) rfl⟩
theorem yvX4_init : Cond.instanceMethod mX4_init.1 ∈ zT := zT_in 134 (by decide +kernel) rfl
theorem yiX4_refuse : Cond.initialized mX4_refuse.1.cls ∈ zT ∧ plainName mX4_refuse.1.cls = true ∧ (mX4_refuse.1.cls ≠ "java/lang/invoke/MethodHandle" ∧ mX4_refuse.1.cls ≠ "java/lang/invoke/VarHandle") ∧ (parseMethodDescriptor mX4_refuse.1.desc).map (fun d => d.parameters.length) = some 2 := ⟨zT_in 46 (by decide +kernel) rfl, by decide +kernel, by decide +kernel, by decide +kernel⟩
theorem ycX4_refuse : zLkC mX4_refuse := ⟨rfl, zT_in 321 (by decide +kernel) rfl⟩
theorem yvX4_refuse : Cond.instanceMethod mX4_refuse.1 ∈ zT := zT_in 319 (by decide +kernel) rfl
theorem ywX4_refuse : Cond.selects mX4_refuse.1.cls mX4_refuse.1 mX4_refuse.1 ∈ zT := zT_in 320 (by decide +kernel) rfl
theorem yiX5_init : Cond.initialized mX5_init.1.cls ∈ zT ∧ plainName mX5_init.1.cls = true ∧ (mX5_init.1.cls ≠ "java/lang/invoke/MethodHandle" ∧ mX5_init.1.cls ≠ "java/lang/invoke/VarHandle") ∧ (parseMethodDescriptor mX5_init.1.desc).map (fun d => d.parameters.length) = some 0 := ⟨zT_in 49 (by decide +kernel) rfl, by decide +kernel, by decide +kernel, by decide +kernel⟩
theorem ycX5_init : zLkC mX5_init := ⟨rfl, zT_in 204 (by decide +kernel) rfl⟩
theorem yvX5_init : Cond.instanceMethod mX5_init.1 ∈ zT := zT_in 203 (by decide +kernel) rfl
theorem yiX5_size : Cond.initialized mX5_size.1.cls ∈ zT ∧ plainName mX5_size.1.cls = true ∧ (mX5_size.1.cls ≠ "java/lang/invoke/MethodHandle" ∧ mX5_size.1.cls ≠ "java/lang/invoke/VarHandle") ∧ (parseMethodDescriptor mX5_size.1.desc).map (fun d => d.parameters.length) = some 0 := ⟨zT_in 49 (by decide +kernel) rfl, by decide +kernel, by decide +kernel, by decide +kernel⟩
theorem ycX5_size : zLkC mX5_size := ⟨rfl, zT_in 1017 (by decide +kernel) rfl⟩
theorem yvX5_size : Cond.instanceMethod mX5_size.1 ∈ zT := zT_in 1015 (by decide +kernel) rfl
theorem ywX5_size : Cond.selects mX5_size.1.cls mX5_size.1 mX5_size.1 ∈ zT := zT_in 1016 (by decide +kernel) rfl
theorem yiX5_signAt : Cond.initialized mX5_signAt.1.cls ∈ zT ∧ plainName mX5_signAt.1.cls = true ∧ (mX5_signAt.1.cls ≠ "java/lang/invoke/MethodHandle" ∧ mX5_signAt.1.cls ≠ "java/lang/invoke/VarHandle") ∧ (parseMethodDescriptor mX5_signAt.1.desc).map (fun d => d.parameters.length) = some 1 := ⟨zT_in 49 (by decide +kernel) rfl, by decide +kernel, by decide +kernel, by decide +kernel⟩
theorem ycX5_signAt : zLkC mX5_signAt := ⟨rfl, zT_in 1036 (by decide +kernel) rfl⟩
theorem yvX5_signAt : Cond.instanceMethod mX5_signAt.1 ∈ zT := zT_in 1034 (by decide +kernel) rfl
theorem ywX5_signAt : Cond.selects mX5_signAt.1.cls mX5_signAt.1 mX5_signAt.1 ∈ zT := zT_in 1035 (by decide +kernel) rfl
theorem yiX5_clear : Cond.initialized mX5_clear.1.cls ∈ zT ∧ plainName mX5_clear.1.cls = true ∧ (mX5_clear.1.cls ≠ "java/lang/invoke/MethodHandle" ∧ mX5_clear.1.cls ≠ "java/lang/invoke/VarHandle") ∧ (parseMethodDescriptor mX5_clear.1.desc).map (fun d => d.parameters.length) = some 0 := ⟨zT_in 49 (by decide +kernel) rfl, by decide +kernel, by decide +kernel, by decide +kernel⟩
theorem ycX5_clear : zLkC mX5_clear := ⟨rfl, zT_in 1000 (by decide +kernel) rfl⟩
theorem yvX5_clear : Cond.instanceMethod mX5_clear.1 ∈ zT := zT_in 998 (by decide +kernel) rfl
theorem ywX5_clear : Cond.selects mX5_clear.1.cls mX5_clear.1 mX5_clear.1 ∈ zT := zT_in 999 (by decide +kernel) rfl
theorem yiX5_put : Cond.initialized mX5_put.1.cls ∈ zT ∧ plainName mX5_put.1.cls = true ∧ (mX5_put.1.cls ≠ "java/lang/invoke/MethodHandle" ∧ mX5_put.1.cls ≠ "java/lang/invoke/VarHandle") ∧ (parseMethodDescriptor mX5_put.1.desc).map (fun d => d.parameters.length) = some 1 := ⟨zT_in 49 (by decide +kernel) rfl, by decide +kernel, by decide +kernel, by decide +kernel⟩
theorem ycX5_put : zLkC mX5_put := ⟨rfl, zT_in 1008 (by decide +kernel) rfl⟩
theorem yvX5_put : Cond.instanceMethod mX5_put.1 ∈ zT := zT_in 1006 (by decide +kernel) rfl
theorem ywX5_put : Cond.selects mX5_put.1.cls mX5_put.1 mX5_put.1 ∈ zT := zT_in 1007 (by decide +kernel) rfl
theorem yiX5_separate : Cond.initialized mX5_separate.1.cls ∈ zT ∧ plainName mX5_separate.1.cls = true ∧ (mX5_separate.1.cls ≠ "java/lang/invoke/MethodHandle" ∧ mX5_separate.1.cls ≠ "java/lang/invoke/VarHandle") ∧ (parseMethodDescriptor mX5_separate.1.desc).map (fun d => d.parameters.length) = some 1 := ⟨zT_in 49 (by decide +kernel) rfl, by decide +kernel, by decide +kernel, by decide +kernel⟩
theorem ycX5_separate : zLkC mX5_separate := ⟨rfl, zT_in 1004 (by decide +kernel) rfl⟩
theorem yvX5_separate : Cond.instanceMethod mX5_separate.1 ∈ zT := zT_in 1002 (by decide +kernel) rfl
theorem ywX5_separate : Cond.selects mX5_separate.1.cls mX5_separate.1 mX5_separate.1 ∈ zT := zT_in 1003 (by decide +kernel) rfl
theorem yiX5_putNumber : Cond.initialized mX5_putNumber.1.cls ∈ zT ∧ plainName mX5_putNumber.1.cls = true ∧ (mX5_putNumber.1.cls ≠ "java/lang/invoke/MethodHandle" ∧ mX5_putNumber.1.cls ≠ "java/lang/invoke/VarHandle") ∧ (parseMethodDescriptor mX5_putNumber.1.desc).map (fun d => d.parameters.length) = some 1 := ⟨zT_in 49 (by decide +kernel) rfl, by decide +kernel, by decide +kernel, by decide +kernel⟩
theorem ycX5_putNumber : zLkC mX5_putNumber := ⟨rfl, zT_in 1012 (by decide +kernel) rfl⟩
theorem yvX5_putNumber : Cond.instanceMethod mX5_putNumber.1 ∈ zT := zT_in 1010 (by decide +kernel) rfl
theorem ywX5_putNumber : Cond.selects mX5_putNumber.1.cls mX5_putNumber.1 mX5_putNumber.1 ∈ zT := zT_in 1011 (by decide +kernel) rfl
theorem yiX6_init : Cond.initialized mX6_init.1.cls ∈ zT ∧ plainName mX6_init.1.cls = true ∧ (mX6_init.1.cls ≠ "java/lang/invoke/MethodHandle" ∧ mX6_init.1.cls ≠ "java/lang/invoke/VarHandle") ∧ (parseMethodDescriptor mX6_init.1.desc).map (fun d => d.parameters.length) = some 0 := ⟨zT_in 45 (by decide +kernel) rfl, by decide +kernel, by decide +kernel, by decide +kernel⟩
theorem ycX6_init : zLkC mX6_init := ⟨rfl, zT_in 88 (by decide +kernel) rfl⟩
theorem yvX6_init : Cond.instanceMethod mX6_init.1 ∈ zT := zT_in 87 (by decide +kernel) rfl
theorem yiX6_copyFrom : Cond.initialized mX6_copyFrom.1.cls ∈ zT ∧ plainName mX6_copyFrom.1.cls = true ∧ (mX6_copyFrom.1.cls ≠ "java/lang/invoke/MethodHandle" ∧ mX6_copyFrom.1.cls ≠ "java/lang/invoke/VarHandle") ∧ (parseMethodDescriptor mX6_copyFrom.1.desc).map (fun d => d.parameters.length) = some 1 := ⟨zT_in 45 (by decide +kernel) rfl, by decide +kernel, by decide +kernel, by decide +kernel⟩
theorem ycX6_copyFrom : zLkC mX6_copyFrom := ⟨rfl, zT_in 286 (by decide +kernel) rfl⟩
theorem yvX6_copyFrom : Cond.instanceMethod mX6_copyFrom.1 ∈ zT := zT_in 284 (by decide +kernel) rfl
theorem ywX6_copyFrom : Cond.selects mX6_copyFrom.1.cls mX6_copyFrom.1 mX6_copyFrom.1 ∈ zT := zT_in 285 (by decide +kernel) rfl
theorem yiX6_size : Cond.initialized mX6_size.1.cls ∈ zT ∧ plainName mX6_size.1.cls = true ∧ (mX6_size.1.cls ≠ "java/lang/invoke/MethodHandle" ∧ mX6_size.1.cls ≠ "java/lang/invoke/VarHandle") ∧ (parseMethodDescriptor mX6_size.1.desc).map (fun d => d.parameters.length) = some 0 := ⟨zT_in 45 (by decide +kernel) rfl, by decide +kernel, by decide +kernel, by decide +kernel⟩
theorem ycX6_size : zLkC mX6_size := ⟨rfl, zT_in 255 (by decide +kernel) rfl⟩
theorem yvX6_size : Cond.instanceMethod mX6_size.1 ∈ zT := zT_in 253 (by decide +kernel) rfl
theorem ywX6_size : Cond.selects mX6_size.1.cls mX6_size.1 mX6_size.1 ∈ zT := zT_in 254 (by decide +kernel) rfl
theorem yiX6_forgetFrom : Cond.initialized mX6_forgetFrom.1.cls ∈ zT ∧ plainName mX6_forgetFrom.1.cls = true ∧ (mX6_forgetFrom.1.cls ≠ "java/lang/invoke/MethodHandle" ∧ mX6_forgetFrom.1.cls ≠ "java/lang/invoke/VarHandle") ∧ (parseMethodDescriptor mX6_forgetFrom.1.desc).map (fun d => d.parameters.length) = some 1 := ⟨zT_in 45 (by decide +kernel) rfl, by decide +kernel, by decide +kernel, by decide +kernel⟩
theorem ycX6_forgetFrom : zLkC mX6_forgetFrom := ⟨rfl, zT_in 384 (by decide +kernel) rfl⟩
theorem yvX6_forgetFrom : Cond.instanceMethod mX6_forgetFrom.1 ∈ zT := zT_in 382 (by decide +kernel) rfl
theorem ywX6_forgetFrom : Cond.selects mX6_forgetFrom.1.cls mX6_forgetFrom.1 mX6_forgetFrom.1 ∈ zT := zT_in 383 (by decide +kernel) rfl
theorem yiX6_has : Cond.initialized mX6_has.1.cls ∈ zT ∧ plainName mX6_has.1.cls = true ∧ (mX6_has.1.cls ≠ "java/lang/invoke/MethodHandle" ∧ mX6_has.1.cls ≠ "java/lang/invoke/VarHandle") ∧ (parseMethodDescriptor mX6_has.1.desc).map (fun d => d.parameters.length) = some 1 := ⟨zT_in 45 (by decide +kernel) rfl, by decide +kernel, by decide +kernel, by decide +kernel⟩
theorem ycX6_has : zLkC mX6_has := ⟨rfl, zT_in 271 (by decide +kernel) rfl⟩
theorem yvX6_has : Cond.instanceMethod mX6_has.1 ∈ zT := zT_in 269 (by decide +kernel) rfl
theorem ywX6_has : Cond.selects mX6_has.1.cls mX6_has.1 mX6_has.1 ∈ zT := zT_in 270 (by decide +kernel) rfl
theorem yiX6_isFull : Cond.initialized mX6_isFull.1.cls ∈ zT ∧ plainName mX6_isFull.1.cls = true ∧ (mX6_isFull.1.cls ≠ "java/lang/invoke/MethodHandle" ∧ mX6_isFull.1.cls ≠ "java/lang/invoke/VarHandle") ∧ (parseMethodDescriptor mX6_isFull.1.desc).map (fun d => d.parameters.length) = some 0 := ⟨zT_in 45 (by decide +kernel) rfl, by decide +kernel, by decide +kernel, by decide +kernel⟩
theorem ycX6_isFull : zLkC mX6_isFull := ⟨rfl, zT_in 338 (by decide +kernel) rfl⟩
theorem yvX6_isFull : Cond.instanceMethod mX6_isFull.1 ∈ zT := zT_in 336 (by decide +kernel) rfl
theorem ywX6_isFull : Cond.selects mX6_isFull.1.cls mX6_isFull.1 mX6_isFull.1 ∈ zT := zT_in 337 (by decide +kernel) rfl
theorem yiX6_parentOf : Cond.initialized mX6_parentOf.1.cls ∈ zT ∧ plainName mX6_parentOf.1.cls = true ∧ (mX6_parentOf.1.cls ≠ "java/lang/invoke/MethodHandle" ∧ mX6_parentOf.1.cls ≠ "java/lang/invoke/VarHandle") ∧ (parseMethodDescriptor mX6_parentOf.1.desc).map (fun d => d.parameters.length) = some 1 := ⟨zT_in 45 (by decide +kernel) rfl, by decide +kernel, by decide +kernel, by decide +kernel⟩
theorem ycX6_parentOf : zLkC mX6_parentOf := ⟨rfl, zT_in 518 (by decide +kernel) rfl⟩
theorem yvX6_parentOf : Cond.instanceMethod mX6_parentOf.1 ∈ zT := zT_in 516 (by decide +kernel) rfl
theorem ywX6_parentOf : Cond.selects mX6_parentOf.1.cls mX6_parentOf.1 mX6_parentOf.1 ∈ zT := zT_in 517 (by decide +kernel) rfl
theorem yiX6_yearOf : Cond.initialized mX6_yearOf.1.cls ∈ zT ∧ plainName mX6_yearOf.1.cls = true ∧ (mX6_yearOf.1.cls ≠ "java/lang/invoke/MethodHandle" ∧ mX6_yearOf.1.cls ≠ "java/lang/invoke/VarHandle") ∧ (parseMethodDescriptor mX6_yearOf.1.desc).map (fun d => d.parameters.length) = some 1 := ⟨zT_in 45 (by decide +kernel) rfl, by decide +kernel, by decide +kernel, by decide +kernel⟩
theorem ycX6_yearOf : zLkC mX6_yearOf := ⟨rfl, zT_in 670 (by decide +kernel) rfl⟩
theorem yvX6_yearOf : Cond.instanceMethod mX6_yearOf.1 ∈ zT := zT_in 668 (by decide +kernel) rfl
theorem ywX6_yearOf : Cond.selects mX6_yearOf.1.cls mX6_yearOf.1 mX6_yearOf.1 ∈ zT := zT_in 669 (by decide +kernel) rfl
theorem yiX6_makerOf : Cond.initialized mX6_makerOf.1.cls ∈ zT ∧ plainName mX6_makerOf.1.cls = true ∧ (mX6_makerOf.1.cls ≠ "java/lang/invoke/MethodHandle" ∧ mX6_makerOf.1.cls ≠ "java/lang/invoke/VarHandle") ∧ (parseMethodDescriptor mX6_makerOf.1.desc).map (fun d => d.parameters.length) = some 2 := ⟨zT_in 45 (by decide +kernel) rfl, by decide +kernel, by decide +kernel, by decide +kernel⟩
theorem ycX6_makerOf : zLkC mX6_makerOf := ⟨rfl, zT_in 267 (by decide +kernel) rfl⟩
theorem yvX6_makerOf : Cond.instanceMethod mX6_makerOf.1 ∈ zT := zT_in 265 (by decide +kernel) rfl
theorem ywX6_makerOf : Cond.selects mX6_makerOf.1.cls mX6_makerOf.1 mX6_makerOf.1 ∈ zT := zT_in 266 (by decide +kernel) rfl
theorem yiX6_totalOf : Cond.initialized mX6_totalOf.1.cls ∈ zT ∧ plainName mX6_totalOf.1.cls = true ∧ (mX6_totalOf.1.cls ≠ "java/lang/invoke/MethodHandle" ∧ mX6_totalOf.1.cls ≠ "java/lang/invoke/VarHandle") ∧ (parseMethodDescriptor mX6_totalOf.1.desc).map (fun d => d.parameters.length) = some 2 := ⟨zT_in 45 (by decide +kernel) rfl, by decide +kernel, by decide +kernel, by decide +kernel⟩
theorem ycX6_totalOf : zLkC mX6_totalOf := ⟨rfl, zT_in 334 (by decide +kernel) rfl⟩
theorem yvX6_totalOf : Cond.instanceMethod mX6_totalOf.1 ∈ zT := zT_in 332 (by decide +kernel) rfl
theorem ywX6_totalOf : Cond.selects mX6_totalOf.1.cls mX6_totalOf.1 mX6_totalOf.1 ∈ zT := zT_in 333 (by decide +kernel) rfl
theorem yiX6_amountOn : Cond.initialized mX6_amountOn.1.cls ∈ zT ∧ plainName mX6_amountOn.1.cls = true ∧ (mX6_amountOn.1.cls ≠ "java/lang/invoke/MethodHandle" ∧ mX6_amountOn.1.cls ≠ "java/lang/invoke/VarHandle") ∧ (parseMethodDescriptor mX6_amountOn.1.desc).map (fun d => d.parameters.length) = some 2 := ⟨zT_in 45 (by decide +kernel) rfl, by decide +kernel, by decide +kernel, by decide +kernel⟩
theorem ycX6_amountOn : zLkC mX6_amountOn := ⟨rfl, zT_in 330 (by decide +kernel) rfl⟩
theorem yvX6_amountOn : Cond.instanceMethod mX6_amountOn.1 ∈ zT := zT_in 328 (by decide +kernel) rfl
theorem ywX6_amountOn : Cond.selects mX6_amountOn.1.cls mX6_amountOn.1 mX6_amountOn.1 ∈ zT := zT_in 329 (by decide +kernel) rfl
theorem yiX6_addWritten : Cond.initialized mX6_addWritten.1.cls ∈ zT ∧ plainName mX6_addWritten.1.cls = true ∧ (mX6_addWritten.1.cls ≠ "java/lang/invoke/MethodHandle" ∧ mX6_addWritten.1.cls ≠ "java/lang/invoke/VarHandle") ∧ (parseMethodDescriptor mX6_addWritten.1.desc).map (fun d => d.parameters.length) = some 4 := ⟨zT_in 45 (by decide +kernel) rfl, by decide +kernel, by decide +kernel, by decide +kernel⟩
theorem ycX6_addWritten : zLkC mX6_addWritten := ⟨rfl, zT_in 342 (by decide +kernel) rfl⟩
theorem yvX6_addWritten : Cond.instanceMethod mX6_addWritten.1 ∈ zT := zT_in 340 (by decide +kernel) rfl
theorem ywX6_addWritten : Cond.selects mX6_addWritten.1.cls mX6_addWritten.1 mX6_addWritten.1 ∈ zT := zT_in 341 (by decide +kernel) rfl
theorem yiX6_addGrafted : Cond.initialized mX6_addGrafted.1.cls ∈ zT ∧ plainName mX6_addGrafted.1.cls = true ∧ (mX6_addGrafted.1.cls ≠ "java/lang/invoke/MethodHandle" ∧ mX6_addGrafted.1.cls ≠ "java/lang/invoke/VarHandle") ∧ (parseMethodDescriptor mX6_addGrafted.1.desc).map (fun d => d.parameters.length) = some 5 := ⟨zT_in 45 (by decide +kernel) rfl, by decide +kernel, by decide +kernel, by decide +kernel⟩
theorem ycX6_addGrafted : zLkC mX6_addGrafted := ⟨rfl, zT_in 481 (by decide +kernel) rfl⟩
theorem yvX6_addGrafted : Cond.instanceMethod mX6_addGrafted.1 ∈ zT := zT_in 479 (by decide +kernel) rfl
theorem ywX6_addGrafted : Cond.selects mX6_addGrafted.1.cls mX6_addGrafted.1 mX6_addGrafted.1 ∈ zT := zT_in 480 (by decide +kernel) rfl
theorem yiX6_addChild : Cond.initialized mX6_addChild.1.cls ∈ zT ∧ plainName mX6_addChild.1.cls = true ∧ (mX6_addChild.1.cls ≠ "java/lang/invoke/MethodHandle" ∧ mX6_addChild.1.cls ≠ "java/lang/invoke/VarHandle") ∧ (parseMethodDescriptor mX6_addChild.1.desc).map (fun d => d.parameters.length) = some 2 := ⟨zT_in 45 (by decide +kernel) rfl, by decide +kernel, by decide +kernel, by decide +kernel⟩
theorem ycX6_addChild : zLkC mX6_addChild := ⟨rfl, zT_in 346 (by decide +kernel) rfl⟩
theorem yvX6_addChild : Cond.instanceMethod mX6_addChild.1 ∈ zT := zT_in 345 (by decide +kernel) rfl
theorem ywX6_addChild : Cond.selects mX6_addChild.1.cls mX6_addChild.1 mX6_addChild.1 ∈ zT := zT_in 0 (by decide +kernel) rfl
theorem yiX6_makePage : Cond.initialized mX6_makePage.1.cls ∈ zT ∧ plainName mX6_makePage.1.cls = true ∧ (mX6_makePage.1.cls ≠ "java/lang/invoke/MethodHandle" ∧ mX6_makePage.1.cls ≠ "java/lang/invoke/VarHandle") ∧ (parseMethodDescriptor mX6_makePage.1.desc).map (fun d => d.parameters.length) = some 3 := ⟨zT_in 45 (by decide +kernel) rfl, by decide +kernel, by decide +kernel, by decide +kernel⟩
theorem ycX6_makePage : zLkC mX6_makePage := ⟨rfl, zT_in 351 (by decide +kernel) rfl⟩
theorem yvX6_makePage : Cond.instanceMethod mX6_makePage.1 ∈ zT := zT_in 350 (by decide +kernel) rfl
theorem ywX6_makePage : Cond.selects mX6_makePage.1.cls mX6_makePage.1 mX6_makePage.1 ∈ zT := zT_in 1 (by decide +kernel) rfl
theorem yiX6_takePage : Cond.initialized mX6_takePage.1.cls ∈ zT ∧ plainName mX6_takePage.1.cls = true ∧ (mX6_takePage.1.cls ≠ "java/lang/invoke/MethodHandle" ∧ mX6_takePage.1.cls ≠ "java/lang/invoke/VarHandle") ∧ (parseMethodDescriptor mX6_takePage.1.desc).map (fun d => d.parameters.length) = some 3 := ⟨zT_in 45 (by decide +kernel) rfl, by decide +kernel, by decide +kernel, by decide +kernel⟩
theorem ycX6_takePage : zLkC mX6_takePage := ⟨rfl, zT_in 488 (by decide +kernel) rfl⟩
theorem yvX6_takePage : Cond.instanceMethod mX6_takePage.1 ∈ zT := zT_in 487 (by decide +kernel) rfl
theorem ywX6_takePage : Cond.selects mX6_takePage.1.cls mX6_takePage.1 mX6_takePage.1 ∈ zT := zT_in 5 (by decide +kernel) rfl
theorem yiX6_totalOfHalves : Cond.initialized mX6_totalOfHalves.1.cls ∈ zT ∧ plainName mX6_totalOfHalves.1.cls = true ∧ (mX6_totalOfHalves.1.cls ≠ "java/lang/invoke/MethodHandle" ∧ mX6_totalOfHalves.1.cls ≠ "java/lang/invoke/VarHandle") ∧ (parseMethodDescriptor mX6_totalOfHalves.1.desc).map (fun d => d.parameters.length) = some 2 := ⟨zT_in 45 (by decide +kernel) rfl, by decide +kernel, by decide +kernel, by decide +kernel⟩
theorem ycX6_totalOfHalves : zLkC mX6_totalOfHalves := ⟨rfl, zT_in 363 (by decide +kernel) rfl⟩
theorem yvX6_totalOfHalves : Cond.instanceMethod mX6_totalOfHalves.1 ∈ zT := zT_in 362 (by decide +kernel) rfl
theorem ywX6_totalOfHalves : Cond.selects mX6_totalOfHalves.1.cls mX6_totalOfHalves.1 mX6_totalOfHalves.1 ∈ zT := zT_in 2 (by decide +kernel) rfl
theorem yiX6_sumByPages : Cond.initialized mX6_sumByPages.1.cls ∈ zT ∧ plainName mX6_sumByPages.1.cls = true ∧ (mX6_sumByPages.1.cls ≠ "java/lang/invoke/MethodHandle" ∧ mX6_sumByPages.1.cls ≠ "java/lang/invoke/VarHandle") ∧ (parseMethodDescriptor mX6_sumByPages.1.desc).map (fun d => d.parameters.length) = some 3 := ⟨zT_in 45 (by decide +kernel) rfl, by decide +kernel, by decide +kernel, by decide +kernel⟩
theorem ycX6_sumByPages : zLkC mX6_sumByPages := ⟨rfl, zT_in 608 (by decide +kernel) rfl⟩
theorem yvX6_sumByPages : Cond.instanceMethod mX6_sumByPages.1 ∈ zT := zT_in 606 (by decide +kernel) rfl
theorem ywX6_sumByPages : Cond.selects mX6_sumByPages.1.cls mX6_sumByPages.1 mX6_sumByPages.1 ∈ zT := zT_in 607 (by decide +kernel) rfl
theorem yiX6_sumByLines : Cond.initialized mX6_sumByLines.1.cls ∈ zT ∧ plainName mX6_sumByLines.1.cls = true ∧ (mX6_sumByLines.1.cls ≠ "java/lang/invoke/MethodHandle" ∧ mX6_sumByLines.1.cls ≠ "java/lang/invoke/VarHandle") ∧ (parseMethodDescriptor mX6_sumByLines.1.desc).map (fun d => d.parameters.length) = some 3 := ⟨zT_in 45 (by decide +kernel) rfl, by decide +kernel, by decide +kernel, by decide +kernel⟩
theorem ycX6_sumByLines : zLkC mX6_sumByLines := ⟨rfl, zT_in 619 (by decide +kernel) rfl⟩
theorem yvX6_sumByLines : Cond.instanceMethod mX6_sumByLines.1 ∈ zT := zT_in 617 (by decide +kernel) rfl
theorem ywX6_sumByLines : Cond.selects mX6_sumByLines.1.cls mX6_sumByLines.1 mX6_sumByLines.1 ∈ zT := zT_in 618 (by decide +kernel) rfl
theorem yiX6_lineWithMost : Cond.initialized mX6_lineWithMost.1.cls ∈ zT ∧ plainName mX6_lineWithMost.1.cls = true ∧ (mX6_lineWithMost.1.cls ≠ "java/lang/invoke/MethodHandle" ∧ mX6_lineWithMost.1.cls ≠ "java/lang/invoke/VarHandle") ∧ (parseMethodDescriptor mX6_lineWithMost.1.desc).map (fun d => d.parameters.length) = some 3 := ⟨zT_in 45 (by decide +kernel) rfl, by decide +kernel, by decide +kernel, by decide +kernel⟩
theorem ycX6_lineWithMost : zLkC mX6_lineWithMost := ⟨rfl, zT_in 630 (by decide +kernel) rfl⟩
theorem yvX6_lineWithMost : Cond.instanceMethod mX6_lineWithMost.1 ∈ zT := zT_in 628 (by decide +kernel) rfl
theorem ywX6_lineWithMost : Cond.selects mX6_lineWithMost.1.cls mX6_lineWithMost.1 mX6_lineWithMost.1 ∈ zT := zT_in 629 (by decide +kernel) rfl
theorem yiX6_lineReaching : Cond.initialized mX6_lineReaching.1.cls ∈ zT ∧ plainName mX6_lineReaching.1.cls = true ∧ (mX6_lineReaching.1.cls ≠ "java/lang/invoke/MethodHandle" ∧ mX6_lineReaching.1.cls ≠ "java/lang/invoke/VarHandle") ∧ (parseMethodDescriptor mX6_lineReaching.1.desc).map (fun d => d.parameters.length) = some 2 := ⟨zT_in 45 (by decide +kernel) rfl, by decide +kernel, by decide +kernel, by decide +kernel⟩
theorem ycX6_lineReaching : zLkC mX6_lineReaching := ⟨rfl, zT_in 642 (by decide +kernel) rfl⟩
theorem yvX6_lineReaching : Cond.instanceMethod mX6_lineReaching.1 ∈ zT := zT_in 640 (by decide +kernel) rfl
theorem ywX6_lineReaching : Cond.selects mX6_lineReaching.1.cls mX6_lineReaching.1 mX6_lineReaching.1 ∈ zT := zT_in 641 (by decide +kernel) rfl
theorem yiX6_earlier : Cond.initialized mX6_earlier.1.cls ∈ zT ∧ plainName mX6_earlier.1.cls = true ∧ (mX6_earlier.1.cls ≠ "java/lang/invoke/MethodHandle" ∧ mX6_earlier.1.cls ≠ "java/lang/invoke/VarHandle") ∧ (parseMethodDescriptor mX6_earlier.1.desc).map (fun d => d.parameters.length) = some 2 := ⟨zT_in 45 (by decide +kernel) rfl, by decide +kernel, by decide +kernel, by decide +kernel⟩
theorem ycX6_earlier : zLkC mX6_earlier := ⟨rfl, zT_in 522 (by decide +kernel) rfl⟩
theorem yvX6_earlier : Cond.instanceMethod mX6_earlier.1 ∈ zT := zT_in 520 (by decide +kernel) rfl
theorem ywX6_earlier : Cond.selects mX6_earlier.1.cls mX6_earlier.1 mX6_earlier.1 ∈ zT := zT_in 521 (by decide +kernel) rfl
theorem yiX6_ancestorsOf : Cond.initialized mX6_ancestorsOf.1.cls ∈ zT ∧ plainName mX6_ancestorsOf.1.cls = true ∧ (mX6_ancestorsOf.1.cls ≠ "java/lang/invoke/MethodHandle" ∧ mX6_ancestorsOf.1.cls ≠ "java/lang/invoke/VarHandle") ∧ (parseMethodDescriptor mX6_ancestorsOf.1.desc).map (fun d => d.parameters.length) = some 1 := ⟨zT_in 45 (by decide +kernel) rfl, by decide +kernel, by decide +kernel, by decide +kernel⟩
theorem ycX6_ancestorsOf : zLkC mX6_ancestorsOf := ⟨rfl, zT_in 514 (by decide +kernel) rfl⟩
theorem yvX6_ancestorsOf : Cond.instanceMethod mX6_ancestorsOf.1 ∈ zT := zT_in 512 (by decide +kernel) rfl
theorem ywX6_ancestorsOf : Cond.selects mX6_ancestorsOf.1.cls mX6_ancestorsOf.1 mX6_ancestorsOf.1 ∈ zT := zT_in 513 (by decide +kernel) rfl
theorem yiX6_childrenOf : Cond.initialized mX6_childrenOf.1.cls ∈ zT ∧ plainName mX6_childrenOf.1.cls = true ∧ (mX6_childrenOf.1.cls ≠ "java/lang/invoke/MethodHandle" ∧ mX6_childrenOf.1.cls ≠ "java/lang/invoke/VarHandle") ∧ (parseMethodDescriptor mX6_childrenOf.1.desc).map (fun d => d.parameters.length) = some 1 := ⟨zT_in 45 (by decide +kernel) rfl, by decide +kernel, by decide +kernel, by decide +kernel⟩
theorem ycX6_childrenOf : zLkC mX6_childrenOf := ⟨rfl, zT_in 675 (by decide +kernel) rfl⟩
theorem yvX6_childrenOf : Cond.instanceMethod mX6_childrenOf.1 ∈ zT := zT_in 673 (by decide +kernel) rfl
theorem ywX6_childrenOf : Cond.selects mX6_childrenOf.1.cls mX6_childrenOf.1 mX6_childrenOf.1 ∈ zT := zT_in 674 (by decide +kernel) rfl
theorem yiX6_withoutChildren : Cond.initialized mX6_withoutChildren.1.cls ∈ zT ∧ plainName mX6_withoutChildren.1.cls = true ∧ (mX6_withoutChildren.1.cls ≠ "java/lang/invoke/MethodHandle" ∧ mX6_withoutChildren.1.cls ≠ "java/lang/invoke/VarHandle") ∧ (parseMethodDescriptor mX6_withoutChildren.1.desc).map (fun d => d.parameters.length) = some 0 := ⟨zT_in 45 (by decide +kernel) rfl, by decide +kernel, by decide +kernel, by decide +kernel⟩
theorem ycX6_withoutChildren : zLkC mX6_withoutChildren := ⟨rfl, zT_in 1061 (by decide +kernel) rfl⟩
theorem yvX6_withoutChildren : Cond.instanceMethod mX6_withoutChildren.1 ∈ zT := zT_in 1059 (by decide +kernel) rfl
theorem ywX6_withoutChildren : Cond.selects mX6_withoutChildren.1.cls mX6_withoutChildren.1 mX6_withoutChildren.1 ∈ zT := zT_in 1060 (by decide +kernel) rfl
theorem yiX6_pagesMadeBy : Cond.initialized mX6_pagesMadeBy.1.cls ∈ zT ∧ plainName mX6_pagesMadeBy.1.cls = true ∧ (mX6_pagesMadeBy.1.cls ≠ "java/lang/invoke/MethodHandle" ∧ mX6_pagesMadeBy.1.cls ≠ "java/lang/invoke/VarHandle") ∧ (parseMethodDescriptor mX6_pagesMadeBy.1.desc).map (fun d => d.parameters.length) = some 1 := ⟨zT_in 45 (by decide +kernel) rfl, by decide +kernel, by decide +kernel, by decide +kernel⟩
theorem ycX6_pagesMadeBy : zLkC mX6_pagesMadeBy := ⟨rfl, zT_in 263 (by decide +kernel) rfl⟩
theorem yvX6_pagesMadeBy : Cond.instanceMethod mX6_pagesMadeBy.1 ∈ zT := zT_in 261 (by decide +kernel) rfl
theorem ywX6_pagesMadeBy : Cond.selects mX6_pagesMadeBy.1.cls mX6_pagesMadeBy.1 mX6_pagesMadeBy.1 ∈ zT := zT_in 262 (by decide +kernel) rfl
theorem yiX6_pagesMade : Cond.initialized mX6_pagesMade.1.cls ∈ zT ∧ plainName mX6_pagesMade.1.cls = true ∧ (mX6_pagesMade.1.cls ≠ "java/lang/invoke/MethodHandle" ∧ mX6_pagesMade.1.cls ≠ "java/lang/invoke/VarHandle") ∧ (parseMethodDescriptor mX6_pagesMade.1.desc).map (fun d => d.parameters.length) = some 0 := ⟨zT_in 45 (by decide +kernel) rfl, by decide +kernel, by decide +kernel, by decide +kernel⟩
theorem ycX6_pagesMade : zLkC mX6_pagesMade := ⟨rfl, zT_in 259 (by decide +kernel) rfl⟩
theorem yvX6_pagesMade : Cond.instanceMethod mX6_pagesMade.1 ∈ zT := zT_in 257 (by decide +kernel) rfl
theorem ywX6_pagesMade : Cond.selects mX6_pagesMade.1.cls mX6_pagesMade.1 mX6_pagesMade.1 ∈ zT := zT_in 258 (by decide +kernel) rfl
theorem yiX6_linesNewIn : Cond.initialized mX6_linesNewIn.1.cls ∈ zT ∧ plainName mX6_linesNewIn.1.cls = true ∧ (mX6_linesNewIn.1.cls ≠ "java/lang/invoke/MethodHandle" ∧ mX6_linesNewIn.1.cls ≠ "java/lang/invoke/VarHandle") ∧ (parseMethodDescriptor mX6_linesNewIn.1.desc).map (fun d => d.parameters.length) = some 1 := ⟨zT_in 45 (by decide +kernel) rfl, by decide +kernel, by decide +kernel, by decide +kernel⟩
theorem ycX6_linesNewIn : zLkC mX6_linesNewIn := ⟨rfl, zT_in 680 (by decide +kernel) rfl⟩
theorem yvX6_linesNewIn : Cond.instanceMethod mX6_linesNewIn.1 ∈ zT := zT_in 678 (by decide +kernel) rfl
theorem ywX6_linesNewIn : Cond.selects mX6_linesNewIn.1.cls mX6_linesNewIn.1 mX6_linesNewIn.1 ∈ zT := zT_in 679 (by decide +kernel) rfl
theorem yiX6_linesApart : Cond.initialized mX6_linesApart.1.cls ∈ zT ∧ plainName mX6_linesApart.1.cls = true ∧ (mX6_linesApart.1.cls ≠ "java/lang/invoke/MethodHandle" ∧ mX6_linesApart.1.cls ≠ "java/lang/invoke/VarHandle") ∧ (parseMethodDescriptor mX6_linesApart.1.desc).map (fun d => d.parameters.length) = some 4 := ⟨zT_in 45 (by decide +kernel) rfl, by decide +kernel, by decide +kernel, by decide +kernel⟩
theorem ycX6_linesApart : zLkC mX6_linesApart := ⟨rfl, zT_in 476 (by decide +kernel) rfl⟩
theorem yvX6_linesApart : Cond.instanceMethod mX6_linesApart.1 ∈ zT := zT_in 474 (by decide +kernel) rfl
theorem ywX6_linesApart : Cond.selects mX6_linesApart.1.cls mX6_linesApart.1 mX6_linesApart.1 ∈ zT := zT_in 475 (by decide +kernel) rfl
theorem yiX6_othersAlike : Cond.initialized mX6_othersAlike.1.cls ∈ zT ∧ plainName mX6_othersAlike.1.cls = true ∧ (mX6_othersAlike.1.cls ≠ "java/lang/invoke/MethodHandle" ∧ mX6_othersAlike.1.cls ≠ "java/lang/invoke/VarHandle") ∧ (parseMethodDescriptor mX6_othersAlike.1.desc).map (fun d => d.parameters.length) = some 1 := ⟨zT_in 45 (by decide +kernel) rfl, by decide +kernel, by decide +kernel, by decide +kernel⟩
theorem ycX6_othersAlike : zLkC mX6_othersAlike := ⟨rfl, zT_in 790 (by decide +kernel) rfl⟩
theorem yvX6_othersAlike : Cond.instanceMethod mX6_othersAlike.1 ∈ zT := zT_in 788 (by decide +kernel) rfl
theorem ywX6_othersAlike : Cond.selects mX6_othersAlike.1.cls mX6_othersAlike.1 mX6_othersAlike.1 ∈ zT := zT_in 789 (by decide +kernel) rfl
theorem yiX6_latestByYear : Cond.initialized mX6_latestByYear.1.cls ∈ zT ∧ plainName mX6_latestByYear.1.cls = true ∧ (mX6_latestByYear.1.cls ≠ "java/lang/invoke/MethodHandle" ∧ mX6_latestByYear.1.cls ≠ "java/lang/invoke/VarHandle") ∧ (parseMethodDescriptor mX6_latestByYear.1.desc).map (fun d => d.parameters.length) = some 2 := ⟨zT_in 45 (by decide +kernel) rfl, by decide +kernel, by decide +kernel, by decide +kernel⟩
theorem ycX6_latestByYear : zLkC mX6_latestByYear := ⟨rfl, zT_in 711 (by decide +kernel) rfl⟩
theorem yvX6_latestByYear : Cond.instanceMethod mX6_latestByYear.1 ∈ zT := zT_in 709 (by decide +kernel) rfl
theorem ywX6_latestByYear : Cond.selects mX6_latestByYear.1.cls mX6_latestByYear.1 mX6_latestByYear.1 ∈ zT := zT_in 710 (by decide +kernel) rfl
theorem yiX6_earliestWithAmountOf : Cond.initialized mX6_earliestWithAmountOf.1.cls ∈ zT ∧ plainName mX6_earliestWithAmountOf.1.cls = true ∧ (mX6_earliestWithAmountOf.1.cls ≠ "java/lang/invoke/MethodHandle" ∧ mX6_earliestWithAmountOf.1.cls ≠ "java/lang/invoke/VarHandle") ∧ (parseMethodDescriptor mX6_earliestWithAmountOf.1.desc).map (fun d => d.parameters.length) = some 2 := ⟨zT_in 45 (by decide +kernel) rfl, by decide +kernel, by decide +kernel, by decide +kernel⟩
theorem ycX6_earliestWithAmountOf : zLkC mX6_earliestWithAmountOf := ⟨rfl, zT_in 723 (by decide +kernel) rfl⟩
theorem yvX6_earliestWithAmountOf : Cond.instanceMethod mX6_earliestWithAmountOf.1 ∈ zT := zT_in 721 (by decide +kernel) rfl
theorem ywX6_earliestWithAmountOf : Cond.selects mX6_earliestWithAmountOf.1.cls mX6_earliestWithAmountOf.1 mX6_earliestWithAmountOf.1 ∈ zT := zT_in 722 (by decide +kernel) rfl
theorem yiX6_latestCommon : Cond.initialized mX6_latestCommon.1.cls ∈ zT ∧ plainName mX6_latestCommon.1.cls = true ∧ (mX6_latestCommon.1.cls ≠ "java/lang/invoke/MethodHandle" ∧ mX6_latestCommon.1.cls ≠ "java/lang/invoke/VarHandle") ∧ (parseMethodDescriptor mX6_latestCommon.1.desc).map (fun d => d.parameters.length) = some 2 := ⟨zT_in 45 (by decide +kernel) rfl, by decide +kernel, by decide +kernel, by decide +kernel⟩
theorem ycX6_latestCommon : zLkC mX6_latestCommon := ⟨rfl, zT_in 734 (by decide +kernel) rfl⟩
theorem yvX6_latestCommon : Cond.instanceMethod mX6_latestCommon.1 ∈ zT := zT_in 732 (by decide +kernel) rfl
theorem ywX6_latestCommon : Cond.selects mX6_latestCommon.1.cls mX6_latestCommon.1 mX6_latestCommon.1 ∈ zT := zT_in 733 (by decide +kernel) rfl
theorem yiX6_pagesInBoth : Cond.initialized mX6_pagesInBoth.1.cls ∈ zT ∧ plainName mX6_pagesInBoth.1.cls = true ∧ (mX6_pagesInBoth.1.cls ≠ "java/lang/invoke/MethodHandle" ∧ mX6_pagesInBoth.1.cls ≠ "java/lang/invoke/VarHandle") ∧ (parseMethodDescriptor mX6_pagesInBoth.1.desc).map (fun d => d.parameters.length) = some 2 := ⟨zT_in 45 (by decide +kernel) rfl, by decide +kernel, by decide +kernel, by decide +kernel⟩
theorem ycX6_pagesInBoth : zLkC mX6_pagesInBoth := ⟨rfl, zT_in 753 (by decide +kernel) rfl⟩
theorem yvX6_pagesInBoth : Cond.instanceMethod mX6_pagesInBoth.1 ∈ zT := zT_in 751 (by decide +kernel) rfl
theorem ywX6_pagesInBoth : Cond.selects mX6_pagesInBoth.1.cls mX6_pagesInBoth.1 mX6_pagesInBoth.1 ∈ zT := zT_in 752 (by decide +kernel) rfl
theorem yiX6_usersOf : Cond.initialized mX6_usersOf.1.cls ∈ zT ∧ plainName mX6_usersOf.1.cls = true ∧ (mX6_usersOf.1.cls ≠ "java/lang/invoke/MethodHandle" ∧ mX6_usersOf.1.cls ≠ "java/lang/invoke/VarHandle") ∧ (parseMethodDescriptor mX6_usersOf.1.desc).map (fun d => d.parameters.length) = some 2 := ⟨zT_in 45 (by decide +kernel) rfl, by decide +kernel, by decide +kernel, by decide +kernel⟩
theorem ycX6_usersOf : zLkC mX6_usersOf := ⟨rfl, zT_in 771 (by decide +kernel) rfl⟩
theorem yvX6_usersOf : Cond.instanceMethod mX6_usersOf.1 ∈ zT := zT_in 769 (by decide +kernel) rfl
theorem ywX6_usersOf : Cond.selects mX6_usersOf.1.cls mX6_usersOf.1 mX6_usersOf.1 ∈ zT := zT_in 770 (by decide +kernel) rfl
theorem yiX6_atPlace : Cond.initialized mX6_atPlace.1.cls ∈ zT ∧ plainName mX6_atPlace.1.cls = true ∧ (mX6_atPlace.1.cls ≠ "java/lang/invoke/MethodHandle" ∧ mX6_atPlace.1.cls ≠ "java/lang/invoke/VarHandle") ∧ (parseMethodDescriptor mX6_atPlace.1.desc).map (fun d => d.parameters.length) = some 1 := ⟨zT_in 45 (by decide +kernel) rfl, by decide +kernel, by decide +kernel, by decide +kernel⟩
theorem ycX6_atPlace : zLkC mX6_atPlace := ⟨rfl, zT_in 801 (by decide +kernel) rfl⟩
theorem yvX6_atPlace : Cond.instanceMethod mX6_atPlace.1 ∈ zT := zT_in 799 (by decide +kernel) rfl
theorem ywX6_atPlace : Cond.selects mX6_atPlace.1.cls mX6_atPlace.1 mX6_atPlace.1 ∈ zT := zT_in 800 (by decide +kernel) rfl
theorem yiX6_versionsAheadOf : Cond.initialized mX6_versionsAheadOf.1.cls ∈ zT ∧ plainName mX6_versionsAheadOf.1.cls = true ∧ (mX6_versionsAheadOf.1.cls ≠ "java/lang/invoke/MethodHandle" ∧ mX6_versionsAheadOf.1.cls ≠ "java/lang/invoke/VarHandle") ∧ (parseMethodDescriptor mX6_versionsAheadOf.1.desc).map (fun d => d.parameters.length) = some 1 := ⟨zT_in 45 (by decide +kernel) rfl, by decide +kernel, by decide +kernel, by decide +kernel⟩
theorem ycX6_versionsAheadOf : zLkC mX6_versionsAheadOf := ⟨rfl, zT_in 805 (by decide +kernel) rfl⟩
theorem yvX6_versionsAheadOf : Cond.instanceMethod mX6_versionsAheadOf.1 ∈ zT := zT_in 804 (by decide +kernel) rfl
theorem ywX6_versionsAheadOf : Cond.selects mX6_versionsAheadOf.1.cls mX6_versionsAheadOf.1 mX6_versionsAheadOf.1 ∈ zT := zT_in 7 (by decide +kernel) rfl
theorem yiX6_withMostPagesOfOthers : Cond.initialized mX6_withMostPagesOfOthers.1.cls ∈ zT ∧ plainName mX6_withMostPagesOfOthers.1.cls = true ∧ (mX6_withMostPagesOfOthers.1.cls ≠ "java/lang/invoke/MethodHandle" ∧ mX6_withMostPagesOfOthers.1.cls ≠ "java/lang/invoke/VarHandle") ∧ (parseMethodDescriptor mX6_withMostPagesOfOthers.1.desc).map (fun d => d.parameters.length) = some 0 := ⟨zT_in 45 (by decide +kernel) rfl, by decide +kernel, by decide +kernel, by decide +kernel⟩
theorem ycX6_withMostPagesOfOthers : zLkC mX6_withMostPagesOfOthers := ⟨rfl, zT_in 818 (by decide +kernel) rfl⟩
theorem yvX6_withMostPagesOfOthers : Cond.instanceMethod mX6_withMostPagesOfOthers.1 ∈ zT := zT_in 816 (by decide +kernel) rfl
theorem ywX6_withMostPagesOfOthers : Cond.selects mX6_withMostPagesOfOthers.1.cls mX6_withMostPagesOfOthers.1 mX6_withMostPagesOfOthers.1 ∈ zT := zT_in 817 (by decide +kernel) rfl
theorem yiX6_pagesOfOthersMadeBy : Cond.initialized mX6_pagesOfOthersMadeBy.1.cls ∈ zT ∧ plainName mX6_pagesOfOthersMadeBy.1.cls = true ∧ (mX6_pagesOfOthersMadeBy.1.cls ≠ "java/lang/invoke/MethodHandle" ∧ mX6_pagesOfOthersMadeBy.1.cls ≠ "java/lang/invoke/VarHandle") ∧ (parseMethodDescriptor mX6_pagesOfOthersMadeBy.1.desc).map (fun d => d.parameters.length) = some 1 := ⟨zT_in 45 (by decide +kernel) rfl, by decide +kernel, by decide +kernel, by decide +kernel⟩
theorem ycX6_pagesOfOthersMadeBy : zLkC mX6_pagesOfOthersMadeBy := ⟨rfl, zT_in 822 (by decide +kernel) rfl⟩
theorem yvX6_pagesOfOthersMadeBy : Cond.instanceMethod mX6_pagesOfOthersMadeBy.1 ∈ zT := zT_in 821 (by decide +kernel) rfl
theorem ywX6_pagesOfOthersMadeBy : Cond.selects mX6_pagesOfOthersMadeBy.1.cls mX6_pagesOfOthersMadeBy.1 mX6_pagesOfOthersMadeBy.1 ∈ zT := zT_in 8 (by decide +kernel) rfl
theorem yiX7_init : Cond.initialized mX7_init.1.cls ∈ zT ∧ plainName mX7_init.1.cls = true ∧ (mX7_init.1.cls ≠ "java/lang/invoke/MethodHandle" ∧ mX7_init.1.cls ≠ "java/lang/invoke/VarHandle") ∧ (parseMethodDescriptor mX7_init.1.desc).map (fun d => d.parameters.length) = some 0 := ⟨zT_in 42 (by decide +kernel) rfl, by decide +kernel, by decide +kernel, by decide +kernel⟩
theorem ycX7_init : zLkC mX7_init := ⟨rfl, zT_in 68 (by decide +kernel) rfl⟩
theorem yvX7_init : Cond.instanceMethod mX7_init.1 ∈ zT := zT_in 67 (by decide +kernel) rfl
theorem yiX7_write : Cond.initialized mX7_write.1.cls ∈ zT ∧ plainName mX7_write.1.cls = true ∧ (mX7_write.1.cls ≠ "java/lang/invoke/MethodHandle" ∧ mX7_write.1.cls ≠ "java/lang/invoke/VarHandle") ∧ (parseMethodDescriptor mX7_write.1.desc).map (fun d => d.parameters.length) = some 3 := ⟨zT_in 42 (by decide +kernel) rfl, by decide +kernel, by decide +kernel, by decide +kernel⟩
theorem ycX7_write : zLkC mX7_write := ⟨rfl, zT_in 298 (by decide +kernel) rfl⟩
theorem yvX7_write : Cond.instanceMethod mX7_write.1 ∈ zT := zT_in 296 (by decide +kernel) rfl
theorem ywX7_write : Cond.selects mX7_write.1.cls mX7_write.1 mX7_write.1 ∈ zT := zT_in 297 (by decide +kernel) rfl
theorem yiX7_graft : Cond.initialized mX7_graft.1.cls ∈ zT ∧ plainName mX7_graft.1.cls = true ∧ (mX7_graft.1.cls ≠ "java/lang/invoke/MethodHandle" ∧ mX7_graft.1.cls ≠ "java/lang/invoke/VarHandle") ∧ (parseMethodDescriptor mX7_graft.1.desc).map (fun d => d.parameters.length) = some 4 := ⟨zT_in 42 (by decide +kernel) rfl, by decide +kernel, by decide +kernel, by decide +kernel⟩
theorem ycX7_graft : zLkC mX7_graft := ⟨rfl, zT_in 466 (by decide +kernel) rfl⟩
theorem yvX7_graft : Cond.instanceMethod mX7_graft.1 ∈ zT := zT_in 464 (by decide +kernel) rfl
theorem ywX7_graft : Cond.selects mX7_graft.1.cls mX7_graft.1 mX7_graft.1 ∈ zT := zT_in 465 (by decide +kernel) rfl
theorem yiX7_fork : Cond.initialized mX7_fork.1.cls ∈ zT ∧ plainName mX7_fork.1.cls = true ∧ (mX7_fork.1.cls ≠ "java/lang/invoke/MethodHandle" ∧ mX7_fork.1.cls ≠ "java/lang/invoke/VarHandle") ∧ (parseMethodDescriptor mX7_fork.1.desc).map (fun d => d.parameters.length) = some 2 := ⟨zT_in 42 (by decide +kernel) rfl, by decide +kernel, by decide +kernel, by decide +kernel⟩
theorem ycX7_fork : zLkC mX7_fork := ⟨rfl, zT_in 495 (by decide +kernel) rfl⟩
theorem yvX7_fork : Cond.instanceMethod mX7_fork.1 ∈ zT := zT_in 493 (by decide +kernel) rfl
theorem ywX7_fork : Cond.selects mX7_fork.1.cls mX7_fork.1 mX7_fork.1 ∈ zT := zT_in 494 (by decide +kernel) rfl
theorem yiX7_back : Cond.initialized mX7_back.1.cls ∈ zT ∧ plainName mX7_back.1.cls = true ∧ (mX7_back.1.cls ≠ "java/lang/invoke/MethodHandle" ∧ mX7_back.1.cls ≠ "java/lang/invoke/VarHandle") ∧ (parseMethodDescriptor mX7_back.1.desc).map (fun d => d.parameters.length) = some 2 := ⟨zT_in 42 (by decide +kernel) rfl, by decide +kernel, by decide +kernel, by decide +kernel⟩
theorem ycX7_back : zLkC mX7_back := ⟨rfl, zT_in 506 (by decide +kernel) rfl⟩
theorem yvX7_back : Cond.instanceMethod mX7_back.1 ∈ zT := zT_in 504 (by decide +kernel) rfl
theorem ywX7_back : Cond.selects mX7_back.1.cls mX7_back.1 mX7_back.1 ∈ zT := zT_in 505 (by decide +kernel) rfl
theorem yiX7_pass : Cond.initialized mX7_pass.1.cls ∈ zT ∧ plainName mX7_pass.1.cls = true ∧ (mX7_pass.1.cls ≠ "java/lang/invoke/MethodHandle" ∧ mX7_pass.1.cls ≠ "java/lang/invoke/VarHandle") ∧ (parseMethodDescriptor mX7_pass.1.desc).map (fun d => d.parameters.length) = some 1 := ⟨zT_in 42 (by decide +kernel) rfl, by decide +kernel, by decide +kernel, by decide +kernel⟩
theorem ycX7_pass : zLkC mX7_pass := ⟨rfl, zT_in 529 (by decide +kernel) rfl⟩
theorem yvX7_pass : Cond.instanceMethod mX7_pass.1 ∈ zT := zT_in 527 (by decide +kernel) rfl
theorem ywX7_pass : Cond.selects mX7_pass.1.cls mX7_pass.1 mX7_pass.1 ∈ zT := zT_in 528 (by decide +kernel) rfl
theorem yiX7_ledger : Cond.initialized mX7_ledger.1.cls ∈ zT ∧ plainName mX7_ledger.1.cls = true ∧ (mX7_ledger.1.cls ≠ "java/lang/invoke/MethodHandle" ∧ mX7_ledger.1.cls ≠ "java/lang/invoke/VarHandle") ∧ (parseMethodDescriptor mX7_ledger.1.desc).map (fun d => d.parameters.length) = some 1 := ⟨zT_in 42 (by decide +kernel) rfl, by decide +kernel, by decide +kernel, by decide +kernel⟩
theorem ycX7_ledger : zLkC mX7_ledger := ⟨rfl, zT_in 541 (by decide +kernel) rfl⟩
theorem yvX7_ledger : Cond.instanceMethod mX7_ledger.1 ∈ zT := zT_in 539 (by decide +kernel) rfl
theorem ywX7_ledger : Cond.selects mX7_ledger.1.cls mX7_ledger.1 mX7_ledger.1 ∈ zT := zT_in 540 (by decide +kernel) rfl
theorem yiX7_amount : Cond.initialized mX7_amount.1.cls ∈ zT ∧ plainName mX7_amount.1.cls = true ∧ (mX7_amount.1.cls ≠ "java/lang/invoke/MethodHandle" ∧ mX7_amount.1.cls ≠ "java/lang/invoke/VarHandle") ∧ (parseMethodDescriptor mX7_amount.1.desc).map (fun d => d.parameters.length) = some 2 := ⟨zT_in 42 (by decide +kernel) rfl, by decide +kernel, by decide +kernel, by decide +kernel⟩
theorem ycX7_amount : zLkC mX7_amount := ⟨rfl, zT_in 570 (by decide +kernel) rfl⟩
theorem yvX7_amount : Cond.instanceMethod mX7_amount.1 ∈ zT := zT_in 568 (by decide +kernel) rfl
theorem ywX7_amount : Cond.selects mX7_amount.1.cls mX7_amount.1 mX7_amount.1 ∈ zT := zT_in 569 (by decide +kernel) rfl
theorem yiX7_sum : Cond.initialized mX7_sum.1.cls ∈ zT ∧ plainName mX7_sum.1.cls = true ∧ (mX7_sum.1.cls ≠ "java/lang/invoke/MethodHandle" ∧ mX7_sum.1.cls ≠ "java/lang/invoke/VarHandle") ∧ (parseMethodDescriptor mX7_sum.1.desc).map (fun d => d.parameters.length) = some 3 := ⟨zT_in 42 (by decide +kernel) rfl, by decide +kernel, by decide +kernel, by decide +kernel⟩
theorem ycX7_sum : zLkC mX7_sum := ⟨rfl, zT_in 604 (by decide +kernel) rfl⟩
theorem yvX7_sum : Cond.instanceMethod mX7_sum.1 ∈ zT := zT_in 602 (by decide +kernel) rfl
theorem ywX7_sum : Cond.selects mX7_sum.1.cls mX7_sum.1 mX7_sum.1 ∈ zT := zT_in 603 (by decide +kernel) rfl
theorem yiX7_sumAgain : Cond.initialized mX7_sumAgain.1.cls ∈ zT ∧ plainName mX7_sumAgain.1.cls = true ∧ (mX7_sumAgain.1.cls ≠ "java/lang/invoke/MethodHandle" ∧ mX7_sumAgain.1.cls ≠ "java/lang/invoke/VarHandle") ∧ (parseMethodDescriptor mX7_sumAgain.1.desc).map (fun d => d.parameters.length) = some 3 := ⟨zT_in 42 (by decide +kernel) rfl, by decide +kernel, by decide +kernel, by decide +kernel⟩
theorem ycX7_sumAgain : zLkC mX7_sumAgain := ⟨rfl, zT_in 615 (by decide +kernel) rfl⟩
theorem yvX7_sumAgain : Cond.instanceMethod mX7_sumAgain.1 ∈ zT := zT_in 613 (by decide +kernel) rfl
theorem ywX7_sumAgain : Cond.selects mX7_sumAgain.1.cls mX7_sumAgain.1 mX7_sumAgain.1 ∈ zT := zT_in 614 (by decide +kernel) rfl
theorem yiX7_most : Cond.initialized mX7_most.1.cls ∈ zT ∧ plainName mX7_most.1.cls = true ∧ (mX7_most.1.cls ≠ "java/lang/invoke/MethodHandle" ∧ mX7_most.1.cls ≠ "java/lang/invoke/VarHandle") ∧ (parseMethodDescriptor mX7_most.1.desc).map (fun d => d.parameters.length) = some 3 := ⟨zT_in 42 (by decide +kernel) rfl, by decide +kernel, by decide +kernel, by decide +kernel⟩
theorem ycX7_most : zLkC mX7_most := ⟨rfl, zT_in 626 (by decide +kernel) rfl⟩
theorem yvX7_most : Cond.instanceMethod mX7_most.1 ∈ zT := zT_in 624 (by decide +kernel) rfl
theorem ywX7_most : Cond.selects mX7_most.1.cls mX7_most.1 mX7_most.1 ∈ zT := zT_in 625 (by decide +kernel) rfl
theorem yiX7_reached : Cond.initialized mX7_reached.1.cls ∈ zT ∧ plainName mX7_reached.1.cls = true ∧ (mX7_reached.1.cls ≠ "java/lang/invoke/MethodHandle" ∧ mX7_reached.1.cls ≠ "java/lang/invoke/VarHandle") ∧ (parseMethodDescriptor mX7_reached.1.desc).map (fun d => d.parameters.length) = some 2 := ⟨zT_in 42 (by decide +kernel) rfl, by decide +kernel, by decide +kernel, by decide +kernel⟩
theorem ycX7_reached : zLkC mX7_reached := ⟨rfl, zT_in 638 (by decide +kernel) rfl⟩
theorem yvX7_reached : Cond.instanceMethod mX7_reached.1 ∈ zT := zT_in 636 (by decide +kernel) rfl
theorem ywX7_reached : Cond.selects mX7_reached.1.cls mX7_reached.1 mX7_reached.1 ∈ zT := zT_in 637 (by decide +kernel) rfl
theorem yiX7_versionOf : Cond.initialized mX7_versionOf.1.cls ∈ zT ∧ plainName mX7_versionOf.1.cls = true ∧ (mX7_versionOf.1.cls ≠ "java/lang/invoke/MethodHandle" ∧ mX7_versionOf.1.cls ≠ "java/lang/invoke/VarHandle") ∧ (parseMethodDescriptor mX7_versionOf.1.desc).map (fun d => d.parameters.length) = some 2 := ⟨zT_in 42 (by decide +kernel) rfl, by decide +kernel, by decide +kernel, by decide +kernel⟩
theorem ycX7_versionOf : zLkC mX7_versionOf := ⟨rfl, zT_in 665 (by decide +kernel) rfl⟩
theorem yvX7_versionOf : Cond.instanceMethod mX7_versionOf.1 ∈ zT := zT_in 663 (by decide +kernel) rfl
theorem ywX7_versionOf : Cond.selects mX7_versionOf.1.cls mX7_versionOf.1 mX7_versionOf.1 ∈ zT := zT_in 664 (by decide +kernel) rfl
theorem yiX7_maker : Cond.initialized mX7_maker.1.cls ∈ zT ∧ plainName mX7_maker.1.cls = true ∧ (mX7_maker.1.cls ≠ "java/lang/invoke/MethodHandle" ∧ mX7_maker.1.cls ≠ "java/lang/invoke/VarHandle") ∧ (parseMethodDescriptor mX7_maker.1.desc).map (fun d => d.parameters.length) = some 2 := ⟨zT_in 42 (by decide +kernel) rfl, by decide +kernel, by decide +kernel, by decide +kernel⟩
theorem ycX7_maker : zLkC mX7_maker := ⟨rfl, zT_in 694 (by decide +kernel) rfl⟩
theorem yvX7_maker : Cond.instanceMethod mX7_maker.1 ∈ zT := zT_in 692 (by decide +kernel) rfl
theorem ywX7_maker : Cond.selects mX7_maker.1.cls mX7_maker.1 mX7_maker.1 ∈ zT := zT_in 693 (by decide +kernel) rfl
theorem yiX7_had : Cond.initialized mX7_had.1.cls ∈ zT ∧ plainName mX7_had.1.cls = true ∧ (mX7_had.1.cls ≠ "java/lang/invoke/MethodHandle" ∧ mX7_had.1.cls ≠ "java/lang/invoke/VarHandle") ∧ (parseMethodDescriptor mX7_had.1.desc).map (fun d => d.parameters.length) = some 2 := ⟨zT_in 42 (by decide +kernel) rfl, by decide +kernel, by decide +kernel, by decide +kernel⟩
theorem ycX7_had : zLkC mX7_had := ⟨rfl, zT_in 706 (by decide +kernel) rfl⟩
theorem yvX7_had : Cond.instanceMethod mX7_had.1 ∈ zT := zT_in 704 (by decide +kernel) rfl
theorem ywX7_had : Cond.selects mX7_had.1.cls mX7_had.1 mX7_had.1 ∈ zT := zT_in 705 (by decide +kernel) rfl
theorem yiX7_since : Cond.initialized mX7_since.1.cls ∈ zT ∧ plainName mX7_since.1.cls = true ∧ (mX7_since.1.cls ≠ "java/lang/invoke/MethodHandle" ∧ mX7_since.1.cls ≠ "java/lang/invoke/VarHandle") ∧ (parseMethodDescriptor mX7_since.1.desc).map (fun d => d.parameters.length) = some 2 := ⟨zT_in 42 (by decide +kernel) rfl, by decide +kernel, by decide +kernel, by decide +kernel⟩
theorem ycX7_since : zLkC mX7_since := ⟨rfl, zT_in 719 (by decide +kernel) rfl⟩
theorem yvX7_since : Cond.instanceMethod mX7_since.1 ∈ zT := zT_in 717 (by decide +kernel) rfl
theorem ywX7_since : Cond.selects mX7_since.1.cls mX7_since.1 mX7_since.1 ∈ zT := zT_in 718 (by decide +kernel) rfl
theorem yiX7_common : Cond.initialized mX7_common.1.cls ∈ zT ∧ plainName mX7_common.1.cls = true ∧ (mX7_common.1.cls ≠ "java/lang/invoke/MethodHandle" ∧ mX7_common.1.cls ≠ "java/lang/invoke/VarHandle") ∧ (parseMethodDescriptor mX7_common.1.desc).map (fun d => d.parameters.length) = some 2 := ⟨zT_in 42 (by decide +kernel) rfl, by decide +kernel, by decide +kernel, by decide +kernel⟩
theorem ycX7_common : zLkC mX7_common := ⟨rfl, zT_in 730 (by decide +kernel) rfl⟩
theorem yvX7_common : Cond.instanceMethod mX7_common.1 ∈ zT := zT_in 728 (by decide +kernel) rfl
theorem ywX7_common : Cond.selects mX7_common.1.cls mX7_common.1 mX7_common.1 ∈ zT := zT_in 729 (by decide +kernel) rfl
theorem yiX7_apart : Cond.initialized mX7_apart.1.cls ∈ zT ∧ plainName mX7_apart.1.cls = true ∧ (mX7_apart.1.cls ≠ "java/lang/invoke/MethodHandle" ∧ mX7_apart.1.cls ≠ "java/lang/invoke/VarHandle") ∧ (parseMethodDescriptor mX7_apart.1.desc).map (fun d => d.parameters.length) = some 2 := ⟨zT_in 42 (by decide +kernel) rfl, by decide +kernel, by decide +kernel, by decide +kernel⟩
theorem ycX7_apart : zLkC mX7_apart := ⟨rfl, zT_in 741 (by decide +kernel) rfl⟩
theorem yvX7_apart : Cond.instanceMethod mX7_apart.1 ∈ zT := zT_in 739 (by decide +kernel) rfl
theorem ywX7_apart : Cond.selects mX7_apart.1.cls mX7_apart.1 mX7_apart.1 ∈ zT := zT_in 740 (by decide +kernel) rfl
theorem yiX7_shared : Cond.initialized mX7_shared.1.cls ∈ zT ∧ plainName mX7_shared.1.cls = true ∧ (mX7_shared.1.cls ≠ "java/lang/invoke/MethodHandle" ∧ mX7_shared.1.cls ≠ "java/lang/invoke/VarHandle") ∧ (parseMethodDescriptor mX7_shared.1.desc).map (fun d => d.parameters.length) = some 2 := ⟨zT_in 42 (by decide +kernel) rfl, by decide +kernel, by decide +kernel, by decide +kernel⟩
theorem ycX7_shared : zLkC mX7_shared := ⟨rfl, zT_in 749 (by decide +kernel) rfl⟩
theorem yvX7_shared : Cond.instanceMethod mX7_shared.1 ∈ zT := zT_in 747 (by decide +kernel) rfl
theorem ywX7_shared : Cond.selects mX7_shared.1.cls mX7_shared.1 mX7_shared.1 ∈ zT := zT_in 748 (by decide +kernel) rfl
theorem yiX7_isOf : Cond.initialized mX7_isOf.1.cls ∈ zT ∧ plainName mX7_isOf.1.cls = true ∧ (mX7_isOf.1.cls ≠ "java/lang/invoke/MethodHandle" ∧ mX7_isOf.1.cls ≠ "java/lang/invoke/VarHandle") ∧ (parseMethodDescriptor mX7_isOf.1.desc).map (fun d => d.parameters.length) = some 2 := ⟨zT_in 42 (by decide +kernel) rfl, by decide +kernel, by decide +kernel, by decide +kernel⟩
theorem ycX7_isOf : zLkC mX7_isOf := ⟨rfl, zT_in 760 (by decide +kernel) rfl⟩
theorem yvX7_isOf : Cond.instanceMethod mX7_isOf.1 ∈ zT := zT_in 758 (by decide +kernel) rfl
theorem ywX7_isOf : Cond.selects mX7_isOf.1.cls mX7_isOf.1 mX7_isOf.1 ∈ zT := zT_in 759 (by decide +kernel) rfl
theorem yiX7_users : Cond.initialized mX7_users.1.cls ∈ zT ∧ plainName mX7_users.1.cls = true ∧ (mX7_users.1.cls ≠ "java/lang/invoke/MethodHandle" ∧ mX7_users.1.cls ≠ "java/lang/invoke/VarHandle") ∧ (parseMethodDescriptor mX7_users.1.desc).map (fun d => d.parameters.length) = some 2 := ⟨zT_in 42 (by decide +kernel) rfl, by decide +kernel, by decide +kernel, by decide +kernel⟩
theorem ycX7_users : zLkC mX7_users := ⟨rfl, zT_in 767 (by decide +kernel) rfl⟩
theorem yvX7_users : Cond.instanceMethod mX7_users.1 ∈ zT := zT_in 765 (by decide +kernel) rfl
theorem ywX7_users : Cond.selects mX7_users.1.cls mX7_users.1 mX7_users.1 ∈ zT := zT_in 766 (by decide +kernel) rfl
theorem yiX7_wouldMake : Cond.initialized mX7_wouldMake.1.cls ∈ zT ∧ plainName mX7_wouldMake.1.cls = true ∧ (mX7_wouldMake.1.cls ≠ "java/lang/invoke/MethodHandle" ∧ mX7_wouldMake.1.cls ≠ "java/lang/invoke/VarHandle") ∧ (parseMethodDescriptor mX7_wouldMake.1.desc).map (fun d => d.parameters.length) = some 2 := ⟨zT_in 42 (by decide +kernel) rfl, by decide +kernel, by decide +kernel, by decide +kernel⟩
theorem ycX7_wouldMake : zLkC mX7_wouldMake := ⟨rfl, zT_in 778 (by decide +kernel) rfl⟩
theorem yvX7_wouldMake : Cond.instanceMethod mX7_wouldMake.1 ∈ zT := zT_in 776 (by decide +kernel) rfl
theorem ywX7_wouldMake : Cond.selects mX7_wouldMake.1.cls mX7_wouldMake.1 mX7_wouldMake.1 ∈ zT := zT_in 777 (by decide +kernel) rfl
theorem yiX7_alike : Cond.initialized mX7_alike.1.cls ∈ zT ∧ plainName mX7_alike.1.cls = true ∧ (mX7_alike.1.cls ≠ "java/lang/invoke/MethodHandle" ∧ mX7_alike.1.cls ≠ "java/lang/invoke/VarHandle") ∧ (parseMethodDescriptor mX7_alike.1.desc).map (fun d => d.parameters.length) = some 1 := ⟨zT_in 42 (by decide +kernel) rfl, by decide +kernel, by decide +kernel, by decide +kernel⟩
theorem ycX7_alike : zLkC mX7_alike := ⟨rfl, zT_in 786 (by decide +kernel) rfl⟩
theorem yvX7_alike : Cond.instanceMethod mX7_alike.1 ∈ zT := zT_in 784 (by decide +kernel) rfl
theorem ywX7_alike : Cond.selects mX7_alike.1.cls mX7_alike.1 mX7_alike.1 ∈ zT := zT_in 785 (by decide +kernel) rfl
theorem yiX7_richest : Cond.initialized mX7_richest.1.cls ∈ zT ∧ plainName mX7_richest.1.cls = true ∧ (mX7_richest.1.cls ≠ "java/lang/invoke/MethodHandle" ∧ mX7_richest.1.cls ≠ "java/lang/invoke/VarHandle") ∧ (parseMethodDescriptor mX7_richest.1.desc).map (fun d => d.parameters.length) = some 1 := ⟨zT_in 42 (by decide +kernel) rfl, by decide +kernel, by decide +kernel, by decide +kernel⟩
theorem ycX7_richest : zLkC mX7_richest := ⟨rfl, zT_in 797 (by decide +kernel) rfl⟩
theorem yvX7_richest : Cond.instanceMethod mX7_richest.1 ∈ zT := zT_in 795 (by decide +kernel) rfl
theorem ywX7_richest : Cond.selects mX7_richest.1.cls mX7_richest.1 mX7_richest.1 ∈ zT := zT_in 796 (by decide +kernel) rfl
theorem yiX7_busiest : Cond.initialized mX7_busiest.1.cls ∈ zT ∧ plainName mX7_busiest.1.cls = true ∧ (mX7_busiest.1.cls ≠ "java/lang/invoke/MethodHandle" ∧ mX7_busiest.1.cls ≠ "java/lang/invoke/VarHandle") ∧ (parseMethodDescriptor mX7_busiest.1.desc).map (fun d => d.parameters.length) = some 0 := ⟨zT_in 42 (by decide +kernel) rfl, by decide +kernel, by decide +kernel, by decide +kernel⟩
theorem ycX7_busiest : zLkC mX7_busiest := ⟨rfl, zT_in 813 (by decide +kernel) rfl⟩
theorem yvX7_busiest : Cond.instanceMethod mX7_busiest.1 ∈ zT := zT_in 811 (by decide +kernel) rfl
theorem ywX7_busiest : Cond.selects mX7_busiest.1.cls mX7_busiest.1 mX7_busiest.1 ∈ zT := zT_in 812 (by decide +kernel) rfl
theorem yiX7_append : Cond.initialized mX7_append.1.cls ∈ zT ∧ plainName mX7_append.1.cls = true ∧ (mX7_append.1.cls ≠ "java/lang/invoke/MethodHandle" ∧ mX7_append.1.cls ≠ "java/lang/invoke/VarHandle") ∧ (parseMethodDescriptor mX7_append.1.desc).map (fun d => d.parameters.length) = some 1 := ⟨zT_in 42 (by decide +kernel) rfl, by decide +kernel, by decide +kernel, by decide +kernel⟩
theorem ycX7_append : zLkC mX7_append := ⟨rfl, zT_in 831 (by decide +kernel) rfl⟩
theorem yvX7_append : Cond.instanceMethod mX7_append.1 ∈ zT := zT_in 829 (by decide +kernel) rfl
theorem ywX7_append : Cond.selects mX7_append.1.cls mX7_append.1 mX7_append.1 ∈ zT := zT_in 830 (by decide +kernel) rfl
theorem yiX7_commands : Cond.initialized mX7_commands.1.cls ∈ zT ∧ plainName mX7_commands.1.cls = true ∧ (mX7_commands.1.cls ≠ "java/lang/invoke/MethodHandle" ∧ mX7_commands.1.cls ≠ "java/lang/invoke/VarHandle") ∧ (parseMethodDescriptor mX7_commands.1.desc).map (fun d => d.parameters.length) = some 0 := ⟨zT_in 42 (by decide +kernel) rfl, by decide +kernel, by decide +kernel, by decide +kernel⟩
theorem ycX7_commands : zLkC mX7_commands := ⟨rfl, zT_in 867 (by decide +kernel) rfl⟩
theorem yvX7_commands : Cond.instanceMethod mX7_commands.1 ∈ zT := zT_in 865 (by decide +kernel) rfl
theorem ywX7_commands : Cond.selects mX7_commands.1.cls mX7_commands.1 mX7_commands.1 ∈ zT := zT_in 866 (by decide +kernel) rfl
theorem yiX7_faultPosition : Cond.initialized mX7_faultPosition.1.cls ∈ zT ∧ plainName mX7_faultPosition.1.cls = true ∧ (mX7_faultPosition.1.cls ≠ "java/lang/invoke/MethodHandle" ∧ mX7_faultPosition.1.cls ≠ "java/lang/invoke/VarHandle") ∧ (parseMethodDescriptor mX7_faultPosition.1.desc).map (fun d => d.parameters.length) = some 0 := ⟨zT_in 42 (by decide +kernel) rfl, by decide +kernel, by decide +kernel, by decide +kernel⟩
theorem ycX7_faultPosition : zLkC mX7_faultPosition := ⟨rfl, zT_in 247 (by decide +kernel) rfl⟩
theorem yvX7_faultPosition : Cond.instanceMethod mX7_faultPosition.1 ∈ zT := zT_in 245 (by decide +kernel) rfl
theorem ywX7_faultPosition : Cond.selects mX7_faultPosition.1.cls mX7_faultPosition.1 mX7_faultPosition.1 ∈ zT := zT_in 246 (by decide +kernel) rfl
theorem yiX7_reason : Cond.initialized mX7_reason.1.cls ∈ zT ∧ plainName mX7_reason.1.cls = true ∧ (mX7_reason.1.cls ≠ "java/lang/invoke/MethodHandle" ∧ mX7_reason.1.cls ≠ "java/lang/invoke/VarHandle") ∧ (parseMethodDescriptor mX7_reason.1.desc).map (fun d => d.parameters.length) = some 1 := ⟨zT_in 42 (by decide +kernel) rfl, by decide +kernel, by decide +kernel, by decide +kernel⟩
theorem ycX7_reason : zLkC mX7_reason := ⟨rfl, zT_in 987 (by decide +kernel) rfl⟩
theorem yvX7_reason : Cond.instanceMethod mX7_reason.1 ∈ zT := zT_in 985 (by decide +kernel) rfl
theorem ywX7_reason : Cond.selects mX7_reason.1.cls mX7_reason.1 mX7_reason.1 ∈ zT := zT_in 986 (by decide +kernel) rfl
theorem yiX7_line : Cond.initialized mX7_line.1.cls ∈ zT ∧ plainName mX7_line.1.cls = true ∧ (mX7_line.1.cls ≠ "java/lang/invoke/MethodHandle" ∧ mX7_line.1.cls ≠ "java/lang/invoke/VarHandle") ∧ (parseMethodDescriptor mX7_line.1.desc).map (fun d => d.parameters.length) = some 1 := ⟨zT_in 42 (by decide +kernel) rfl, by decide +kernel, by decide +kernel, by decide +kernel⟩
theorem ycX7_line : zLkC mX7_line := ⟨rfl, zT_in 996 (by decide +kernel) rfl⟩
theorem yvX7_line : Cond.instanceMethod mX7_line.1 ∈ zT := zT_in 994 (by decide +kernel) rfl
theorem ywX7_line : Cond.selects mX7_line.1.cls mX7_line.1 mX7_line.1 ∈ zT := zT_in 995 (by decide +kernel) rfl
theorem yiX7_lineage : Cond.initialized mX7_lineage.1.cls ∈ zT ∧ plainName mX7_lineage.1.cls = true ∧ (mX7_lineage.1.cls ≠ "java/lang/invoke/MethodHandle" ∧ mX7_lineage.1.cls ≠ "java/lang/invoke/VarHandle") ∧ (parseMethodDescriptor mX7_lineage.1.desc).map (fun d => d.parameters.length) = some 1 := ⟨zT_in 42 (by decide +kernel) rfl, by decide +kernel, by decide +kernel, by decide +kernel⟩
theorem ycX7_lineage : zLkC mX7_lineage := ⟨rfl, zT_in 1024 (by decide +kernel) rfl⟩
theorem yvX7_lineage : Cond.instanceMethod mX7_lineage.1 ∈ zT := zT_in 1022 (by decide +kernel) rfl
theorem ywX7_lineage : Cond.selects mX7_lineage.1.cls mX7_lineage.1 mX7_lineage.1 ∈ zT := zT_in 1023 (by decide +kernel) rfl
theorem yiX7_character : Cond.initialized mX7_character.1.cls ∈ zT ∧ plainName mX7_character.1.cls = true ∧ (mX7_character.1.cls ≠ "java/lang/invoke/MethodHandle" ∧ mX7_character.1.cls ≠ "java/lang/invoke/VarHandle") ∧ (parseMethodDescriptor mX7_character.1.desc).map (fun d => d.parameters.length) = some 1 := ⟨zT_in 42 (by decide +kernel) rfl, by decide +kernel, by decide +kernel, by decide +kernel⟩
theorem ycX7_character : zLkC mX7_character := ⟨rfl, zT_in 1031 (by decide +kernel) rfl⟩
theorem yvX7_character : Cond.instanceMethod mX7_character.1 ∈ zT := zT_in 1029 (by decide +kernel) rfl
theorem ywX7_character : Cond.selects mX7_character.1.cls mX7_character.1 mX7_character.1 ∈ zT := zT_in 1030 (by decide +kernel) rfl
theorem yiX7_mean : Cond.initialized mX7_mean.1.cls ∈ zT ∧ plainName mX7_mean.1.cls = true ∧ (mX7_mean.1.cls ≠ "java/lang/invoke/MethodHandle" ∧ mX7_mean.1.cls ≠ "java/lang/invoke/VarHandle") ∧ (parseMethodDescriptor mX7_mean.1.desc).map (fun d => d.parameters.length) = some 1 := ⟨zT_in 42 (by decide +kernel) rfl, by decide +kernel, by decide +kernel, by decide +kernel⟩
theorem ycX7_mean : zLkC mX7_mean := ⟨rfl, zT_in 1043 (by decide +kernel) rfl⟩
theorem yvX7_mean : Cond.instanceMethod mX7_mean.1 ∈ zT := zT_in 1041 (by decide +kernel) rfl
theorem ywX7_mean : Cond.selects mX7_mean.1.cls mX7_mean.1 mX7_mean.1 ∈ zT := zT_in 1042 (by decide +kernel) rfl
theorem yiX7_spared : Cond.initialized mX7_spared.1.cls ∈ zT ∧ plainName mX7_spared.1.cls = true ∧ (mX7_spared.1.cls ≠ "java/lang/invoke/MethodHandle" ∧ mX7_spared.1.cls ≠ "java/lang/invoke/VarHandle") ∧ (parseMethodDescriptor mX7_spared.1.desc).map (fun d => d.parameters.length) = some 0 := ⟨zT_in 42 (by decide +kernel) rfl, by decide +kernel, by decide +kernel, by decide +kernel⟩
theorem ycX7_spared : zLkC mX7_spared := ⟨rfl, zT_in 251 (by decide +kernel) rfl⟩
theorem yvX7_spared : Cond.instanceMethod mX7_spared.1 ∈ zT := zT_in 249 (by decide +kernel) rfl
theorem ywX7_spared : Cond.selects mX7_spared.1.cls mX7_spared.1 mX7_spared.1 ∈ zT := zT_in 250 (by decide +kernel) rfl
theorem yiX7_account : Cond.initialized mX7_account.1.cls ∈ zT ∧ plainName mX7_account.1.cls = true ∧ (mX7_account.1.cls ≠ "java/lang/invoke/MethodHandle" ∧ mX7_account.1.cls ≠ "java/lang/invoke/VarHandle") ∧ (parseMethodDescriptor mX7_account.1.desc).map (fun d => d.parameters.length) = some 1 := ⟨zT_in 42 (by decide +kernel) rfl, by decide +kernel, by decide +kernel, by decide +kernel⟩
theorem ycX7_account : zLkC mX7_account := ⟨rfl, zT_in 1052 (by decide +kernel) rfl⟩
theorem yvX7_account : Cond.instanceMethod mX7_account.1 ∈ zT := zT_in 1050 (by decide +kernel) rfl
theorem ywX7_account : Cond.selects mX7_account.1.cls mX7_account.1 mX7_account.1 ∈ zT := zT_in 1051 (by decide +kernel) rfl
theorem yiX7_undo : Cond.initialized mX7_undo.1.cls ∈ zT ∧ plainName mX7_undo.1.cls = true ∧ (mX7_undo.1.cls ≠ "java/lang/invoke/MethodHandle" ∧ mX7_undo.1.cls ≠ "java/lang/invoke/VarHandle") ∧ (parseMethodDescriptor mX7_undo.1.desc).map (fun d => d.parameters.length) = some 0 := ⟨zT_in 42 (by decide +kernel) rfl, by decide +kernel, by decide +kernel, by decide +kernel⟩
theorem ycX7_undo : zLkC mX7_undo := ⟨rfl, zT_in 1074 (by decide +kernel) rfl⟩
theorem yvX7_undo : Cond.instanceMethod mX7_undo.1 ∈ zT := zT_in 1072 (by decide +kernel) rfl
theorem ywX7_undo : Cond.selects mX7_undo.1.cls mX7_undo.1 mX7_undo.1 ∈ zT := zT_in 1073 (by decide +kernel) rfl
theorem yiX7_save : Cond.initialized mX7_save.1.cls ∈ zT ∧ plainName mX7_save.1.cls = true ∧ (mX7_save.1.cls ≠ "java/lang/invoke/MethodHandle" ∧ mX7_save.1.cls ≠ "java/lang/invoke/VarHandle") ∧ (parseMethodDescriptor mX7_save.1.desc).map (fun d => d.parameters.length) = some 0 := ⟨zT_in 42 (by decide +kernel) rfl, by decide +kernel, by decide +kernel, by decide +kernel⟩
theorem ycX7_save : zLkC mX7_save := ⟨rfl, zT_in 278 (by decide +kernel) rfl⟩
theorem yvX7_save : Cond.instanceMethod mX7_save.1 ∈ zT := zT_in 276 (by decide +kernel) rfl
theorem ywX7_save : Cond.selects mX7_save.1.cls mX7_save.1 mX7_save.1 ∈ zT := zT_in 277 (by decide +kernel) rfl
theorem yiX7_restore : Cond.initialized mX7_restore.1.cls ∈ zT ∧ plainName mX7_restore.1.cls = true ∧ (mX7_restore.1.cls ≠ "java/lang/invoke/MethodHandle" ∧ mX7_restore.1.cls ≠ "java/lang/invoke/VarHandle") ∧ (parseMethodDescriptor mX7_restore.1.desc).map (fun d => d.parameters.length) = some 0 := ⟨zT_in 42 (by decide +kernel) rfl, by decide +kernel, by decide +kernel, by decide +kernel⟩
theorem ycX7_restore : zLkC mX7_restore := ⟨rfl, zT_in 1086 (by decide +kernel) rfl⟩
theorem yvX7_restore : Cond.instanceMethod mX7_restore.1 ∈ zT := zT_in 1084 (by decide +kernel) rfl
theorem ywX7_restore : Cond.selects mX7_restore.1.cls mX7_restore.1 mX7_restore.1 ∈ zT := zT_in 1085 (by decide +kernel) rfl
theorem yiX7_settled : Cond.initialized mX7_settled.1.cls ∈ zT ∧ plainName mX7_settled.1.cls = true ∧ (mX7_settled.1.cls ≠ "java/lang/invoke/MethodHandle" ∧ mX7_settled.1.cls ≠ "java/lang/invoke/VarHandle") ∧ (parseMethodDescriptor mX7_settled.1.desc).map (fun d => d.parameters.length) = some 1 := ⟨zT_in 42 (by decide +kernel) rfl, by decide +kernel, by decide +kernel, by decide +kernel⟩
theorem ycX7_settled : zLkC mX7_settled := ⟨rfl, zT_in 372 (by decide +kernel) rfl⟩
theorem yvX7_settled : Cond.instanceMethod mX7_settled.1 ∈ zT := zT_in 371 (by decide +kernel) rfl
theorem ywX7_settled : Cond.selects mX7_settled.1.cls mX7_settled.1 mX7_settled.1 ∈ zT := zT_in 3 (by decide +kernel) rfl
theorem yiX7_checkVersion : Cond.initialized mX7_checkVersion.1.cls ∈ zT ∧ plainName mX7_checkVersion.1.cls = true ∧ (mX7_checkVersion.1.cls ≠ "java/lang/invoke/MethodHandle" ∧ mX7_checkVersion.1.cls ≠ "java/lang/invoke/VarHandle") ∧ (parseMethodDescriptor mX7_checkVersion.1.desc).map (fun d => d.parameters.length) = some 1 := ⟨zT_in 42 (by decide +kernel) rfl, by decide +kernel, by decide +kernel, by decide +kernel⟩
theorem ycX7_checkVersion : zLkC mX7_checkVersion := ⟨rfl, zT_in 574 (by decide +kernel) rfl⟩
theorem yvX7_checkVersion : Cond.instanceMethod mX7_checkVersion.1 ∈ zT := zT_in 573 (by decide +kernel) rfl
theorem ywX7_checkVersion : Cond.selects mX7_checkVersion.1.cls mX7_checkVersion.1 mX7_checkVersion.1 ∈ zT := zT_in 6 (by decide +kernel) rfl
theorem yiX7_checkHouse : Cond.initialized mX7_checkHouse.1.cls ∈ zT ∧ plainName mX7_checkHouse.1.cls = true ∧ (mX7_checkHouse.1.cls ≠ "java/lang/invoke/MethodHandle" ∧ mX7_checkHouse.1.cls ≠ "java/lang/invoke/VarHandle") ∧ (parseMethodDescriptor mX7_checkHouse.1.desc).map (fun d => d.parameters.length) = some 1 := ⟨zT_in 42 (by decide +kernel) rfl, by decide +kernel, by decide +kernel, by decide +kernel⟩
theorem ycX7_checkHouse : zLkC mX7_checkHouse := ⟨rfl, zT_in 544 (by decide +kernel) rfl⟩
theorem ysX7_checkHouse : Cond.static mX7_checkHouse.1 ∈ zT := zT_in 543 (by decide +kernel) rfl
theorem yiX7_checkLines : Cond.initialized mX7_checkLines.1.cls ∈ zT ∧ plainName mX7_checkLines.1.cls = true ∧ (mX7_checkLines.1.cls ≠ "java/lang/invoke/MethodHandle" ∧ mX7_checkLines.1.cls ≠ "java/lang/invoke/VarHandle") ∧ (parseMethodDescriptor mX7_checkLines.1.desc).map (fun d => d.parameters.length) = some 2 := ⟨zT_in 42 (by decide +kernel) rfl, by decide +kernel, by decide +kernel, by decide +kernel⟩
theorem ycX7_checkLines : zLkC mX7_checkLines := ⟨rfl, zT_in 579 (by decide +kernel) rfl⟩
theorem ysX7_checkLines : Cond.static mX7_checkLines.1 ∈ zT := zT_in 578 (by decide +kernel) rfl
theorem yiX7_checkSpan : Cond.initialized mX7_checkSpan.1.cls ∈ zT ∧ plainName mX7_checkSpan.1.cls = true ∧ (mX7_checkSpan.1.cls ≠ "java/lang/invoke/MethodHandle" ∧ mX7_checkSpan.1.cls ≠ "java/lang/invoke/VarHandle") ∧ (parseMethodDescriptor mX7_checkSpan.1.desc).map (fun d => d.parameters.length) = some 1 := ⟨zT_in 42 (by decide +kernel) rfl, by decide +kernel, by decide +kernel, by decide +kernel⟩
theorem ycX7_checkSpan : zLkC mX7_checkSpan := ⟨rfl, zT_in 697 (by decide +kernel) rfl⟩
theorem ysX7_checkSpan : Cond.static mX7_checkSpan.1 ∈ zT := zT_in 696 (by decide +kernel) rfl
theorem yiX7_isHouse : Cond.initialized mX7_isHouse.1.cls ∈ zT ∧ plainName mX7_isHouse.1.cls = true ∧ (mX7_isHouse.1.cls ≠ "java/lang/invoke/MethodHandle" ∧ mX7_isHouse.1.cls ≠ "java/lang/invoke/VarHandle") ∧ (parseMethodDescriptor mX7_isHouse.1.desc).map (fun d => d.parameters.length) = some 1 := ⟨zT_in 42 (by decide +kernel) rfl, by decide +kernel, by decide +kernel, by decide +kernel⟩
theorem ycX7_isHouse : zLkC mX7_isHouse := ⟨rfl, zT_in 314 (by decide +kernel) rfl⟩
theorem ysX7_isHouse : Cond.static mX7_isHouse.1 ∈ zT := zT_in 313 (by decide +kernel) rfl
theorem yiX7_isLine : Cond.initialized mX7_isLine.1.cls ∈ zT ∧ plainName mX7_isLine.1.cls = true ∧ (mX7_isLine.1.cls ≠ "java/lang/invoke/MethodHandle" ∧ mX7_isLine.1.cls ≠ "java/lang/invoke/VarHandle") ∧ (parseMethodDescriptor mX7_isLine.1.desc).map (fun d => d.parameters.length) = some 1 := ⟨zT_in 42 (by decide +kernel) rfl, by decide +kernel, by decide +kernel, by decide +kernel⟩
theorem ycX7_isLine : zLkC mX7_isLine := ⟨rfl, zT_in 317 (by decide +kernel) rfl⟩
theorem ysX7_isLine : Cond.static mX7_isLine.1 ∈ zT := zT_in 316 (by decide +kernel) rfl
theorem yiX7_isSpan : Cond.initialized mX7_isSpan.1.cls ∈ zT ∧ plainName mX7_isSpan.1.cls = true ∧ (mX7_isSpan.1.cls ≠ "java/lang/invoke/MethodHandle" ∧ mX7_isSpan.1.cls ≠ "java/lang/invoke/VarHandle") ∧ (parseMethodDescriptor mX7_isSpan.1.desc).map (fun d => d.parameters.length) = some 1 := ⟨zT_in 42 (by decide +kernel) rfl, by decide +kernel, by decide +kernel, by decide +kernel⟩
theorem ycX7_isSpan : zLkC mX7_isSpan := ⟨rfl, zT_in 274 (by decide +kernel) rfl⟩
theorem ysX7_isSpan : Cond.static mX7_isSpan.1 ∈ zT := zT_in 273 (by decide +kernel) rfl
theorem yiX7_isInside : Cond.initialized mX7_isInside.1.cls ∈ zT ∧ plainName mX7_isInside.1.cls = true ∧ (mX7_isInside.1.cls ≠ "java/lang/invoke/MethodHandle" ∧ mX7_isInside.1.cls ≠ "java/lang/invoke/VarHandle") ∧ (parseMethodDescriptor mX7_isInside.1.desc).map (fun d => d.parameters.length) = some 3 := ⟨zT_in 42 (by decide +kernel) rfl, by decide +kernel, by decide +kernel, by decide +kernel⟩
theorem ycX7_isInside : zLkC mX7_isInside := ⟨rfl, zT_in 484 (by decide +kernel) rfl⟩
theorem ysX7_isInside : Cond.static mX7_isInside.1 ∈ zT := zT_in 483 (by decide +kernel) rfl
theorem yiX7_isCut : Cond.initialized mX7_isCut.1.cls ∈ zT ∧ plainName mX7_isCut.1.cls = true ∧ (mX7_isCut.1.cls ≠ "java/lang/invoke/MethodHandle" ∧ mX7_isCut.1.cls ≠ "java/lang/invoke/VarHandle") ∧ (parseMethodDescriptor mX7_isCut.1.desc).map (fun d => d.parameters.length) = some 3 := ⟨zT_in 42 (by decide +kernel) rfl, by decide +kernel, by decide +kernel, by decide +kernel⟩
theorem ycX7_isCut : zLkC mX7_isCut := ⟨rfl, zT_in 354 (by decide +kernel) rfl⟩
theorem ysX7_isCut : Cond.static mX7_isCut.1 ∈ zT := zT_in 353 (by decide +kernel) rfl
theorem yiX7_isDigit : Cond.initialized mX7_isDigit.1.cls ∈ zT ∧ plainName mX7_isDigit.1.cls = true ∧ (mX7_isDigit.1.cls ≠ "java/lang/invoke/MethodHandle" ∧ mX7_isDigit.1.cls ≠ "java/lang/invoke/VarHandle") ∧ (parseMethodDescriptor mX7_isDigit.1.desc).map (fun d => d.parameters.length) = some 1 := ⟨zT_in 42 (by decide +kernel) rfl, by decide +kernel, by decide +kernel, by decide +kernel⟩
theorem ycX7_isDigit : zLkC mX7_isDigit := ⟨rfl, zT_in 947 (by decide +kernel) rfl⟩
theorem ysX7_isDigit : Cond.static mX7_isDigit.1 ∈ zT := zT_in 946 (by decide +kernel) rfl
theorem yiX8_init : Cond.initialized mX8_init.1.cls ∈ zT ∧ plainName mX8_init.1.cls = true ∧ (mX8_init.1.cls ≠ "java/lang/invoke/MethodHandle" ∧ mX8_init.1.cls ≠ "java/lang/invoke/VarHandle") ∧ (parseMethodDescriptor mX8_init.1.desc).map (fun d => d.parameters.length) = some 0 := ⟨zT_in 50 (by decide +kernel) rfl, by decide +kernel, by decide +kernel, by decide +kernel⟩
theorem ycX8_init : zLkC mX8_init := ⟨rfl, zT_in 1096 (by decide +kernel) rfl⟩
theorem yvX8_init : Cond.instanceMethod mX8_init.1 ∈ zT := zT_in 1095 (by decide +kernel) rfl
theorem yiX8_thrown : Cond.initialized mX8_thrown.1.cls ∈ zT ∧ plainName mX8_thrown.1.cls = true ∧ (mX8_thrown.1.cls ≠ "java/lang/invoke/MethodHandle" ∧ mX8_thrown.1.cls ≠ "java/lang/invoke/VarHandle") ∧ (parseMethodDescriptor mX8_thrown.1.desc).map (fun d => d.parameters.length) = some 0 := ⟨zT_in 50 (by decide +kernel) rfl, by decide +kernel, by decide +kernel, by decide +kernel⟩
theorem ycX8_thrown : zLkC mX8_thrown := ⟨rfl, zT_in 1168 (by decide +kernel) rfl⟩
theorem yvX8_thrown : Cond.instanceMethod mX8_thrown.1 ∈ zT := zT_in 1166 (by decide +kernel) rfl
theorem ywX8_thrown : Cond.selects mX8_thrown.1.cls mX8_thrown.1 mX8_thrown.1 ∈ zT := zT_in 1167 (by decide +kernel) rfl
theorem yiX8_fails : Cond.initialized mX8_fails.1.cls ∈ zT ∧ plainName mX8_fails.1.cls = true ∧ (mX8_fails.1.cls ≠ "java/lang/invoke/MethodHandle" ∧ mX8_fails.1.cls ≠ "java/lang/invoke/VarHandle") ∧ (parseMethodDescriptor mX8_fails.1.desc).map (fun d => d.parameters.length) = some 1 := ⟨zT_in 50 (by decide +kernel) rfl, by decide +kernel, by decide +kernel, by decide +kernel⟩
theorem ycX8_fails : zLkC mX8_fails := ⟨rfl, zT_in 1252 (by decide +kernel) rfl⟩
theorem yvX8_fails : Cond.instanceMethod mX8_fails.1 ∈ zT := zT_in 1251 (by decide +kernel) rfl
theorem ywX8_fails : Cond.selects mX8_fails.1.cls mX8_fails.1 mX8_fails.1 ∈ zT := zT_in 22 (by decide +kernel) rfl
theorem yiX8_refuses : Cond.initialized mX8_refuses.1.cls ∈ zT ∧ plainName mX8_refuses.1.cls = true ∧ (mX8_refuses.1.cls ≠ "java/lang/invoke/MethodHandle" ∧ mX8_refuses.1.cls ≠ "java/lang/invoke/VarHandle") ∧ (parseMethodDescriptor mX8_refuses.1.desc).map (fun d => d.parameters.length) = some 2 := ⟨zT_in 50 (by decide +kernel) rfl, by decide +kernel, by decide +kernel, by decide +kernel⟩
theorem ycX8_refuses : zLkC mX8_refuses := ⟨rfl, zT_in 1185 (by decide +kernel) rfl⟩
theorem yvX8_refuses : Cond.instanceMethod mX8_refuses.1 ∈ zT := zT_in 1184 (by decide +kernel) rfl
theorem ywX8_refuses : Cond.selects mX8_refuses.1.cls mX8_refuses.1 mX8_refuses.1 ∈ zT := zT_in 11 (by decide +kernel) rfl
theorem yiX8_in : Cond.initialized mX8_in.1.cls ∈ zT ∧ plainName mX8_in.1.cls = true ∧ (mX8_in.1.cls ≠ "java/lang/invoke/MethodHandle" ∧ mX8_in.1.cls ≠ "java/lang/invoke/VarHandle") ∧ (parseMethodDescriptor mX8_in.1.desc).map (fun d => d.parameters.length) = some 3 := ⟨zT_in 50 (by decide +kernel) rfl, by decide +kernel, by decide +kernel, by decide +kernel⟩
theorem ycX8_in : zLkC mX8_in := ⟨rfl, zT_in 1178 (by decide +kernel) rfl⟩
theorem ysX8_in : Cond.static mX8_in.1 ∈ zT := zT_in 1177 (by decide +kernel) rfl
theorem yiX8_copies : Cond.initialized mX8_copies.1.cls ∈ zT ∧ plainName mX8_copies.1.cls = true ∧ (mX8_copies.1.cls ≠ "java/lang/invoke/MethodHandle" ∧ mX8_copies.1.cls ≠ "java/lang/invoke/VarHandle") ∧ (parseMethodDescriptor mX8_copies.1.desc).map (fun d => d.parameters.length) = some 4 := ⟨zT_in 50 (by decide +kernel) rfl, by decide +kernel, by decide +kernel, by decide +kernel⟩
theorem ycX8_copies : zLkC mX8_copies := ⟨rfl, zT_in 1200 (by decide +kernel) rfl⟩
theorem ysX8_copies : Cond.static mX8_copies.1 ∈ zT := zT_in 1199 (by decide +kernel) rfl
theorem yiX8_keeps : Cond.initialized mX8_keeps.1.cls ∈ zT ∧ plainName mX8_keeps.1.cls = true ∧ (mX8_keeps.1.cls ≠ "java/lang/invoke/MethodHandle" ∧ mX8_keeps.1.cls ≠ "java/lang/invoke/VarHandle") ∧ (parseMethodDescriptor mX8_keeps.1.desc).map (fun d => d.parameters.length) = some 1 := ⟨zT_in 50 (by decide +kernel) rfl, by decide +kernel, by decide +kernel, by decide +kernel⟩
theorem ycX8_keeps : zLkC mX8_keeps := ⟨rfl, zT_in 1197 (by decide +kernel) rfl⟩
theorem yvX8_keeps : Cond.instanceMethod mX8_keeps.1 ∈ zT := zT_in 1196 (by decide +kernel) rfl
theorem ywX8_keeps : Cond.selects mX8_keeps.1.cls mX8_keeps.1 mX8_keeps.1 ∈ zT := zT_in 14 (by decide +kernel) rfl
theorem yiX8_of : Cond.initialized mX8_of.1.cls ∈ zT ∧ plainName mX8_of.1.cls = true ∧ (mX8_of.1.cls ≠ "java/lang/invoke/MethodHandle" ∧ mX8_of.1.cls ≠ "java/lang/invoke/VarHandle") ∧ (parseMethodDescriptor mX8_of.1.desc).map (fun d => d.parameters.length) = some 2 := ⟨zT_in 50 (by decide +kernel) rfl, by decide +kernel, by decide +kernel, by decide +kernel⟩
theorem ycX8_of : zLkC mX8_of := ⟨rfl, zT_in 1193 (by decide +kernel) rfl⟩
theorem yvX8_of : Cond.instanceMethod mX8_of.1 ∈ zT := zT_in 1192 (by decide +kernel) rfl
theorem ywX8_of : Cond.selects mX8_of.1.cls mX8_of.1 mX8_of.1 ∈ zT := zT_in 13 (by decide +kernel) rfl
theorem yiX8_lays : Cond.initialized mX8_lays.1.cls ∈ zT ∧ plainName mX8_lays.1.cls = true ∧ (mX8_lays.1.cls ≠ "java/lang/invoke/MethodHandle" ∧ mX8_lays.1.cls ≠ "java/lang/invoke/VarHandle") ∧ (parseMethodDescriptor mX8_lays.1.desc).map (fun d => d.parameters.length) = some 3 := ⟨zT_in 50 (by decide +kernel) rfl, by decide +kernel, by decide +kernel, by decide +kernel⟩
theorem ycX8_lays : zLkC mX8_lays := ⟨rfl, zT_in 1208 (by decide +kernel) rfl⟩
theorem yvX8_lays : Cond.instanceMethod mX8_lays.1 ∈ zT := zT_in 1207 (by decide +kernel) rfl
theorem ywX8_lays : Cond.selects mX8_lays.1.cls mX8_lays.1 mX8_lays.1 ∈ zT := zT_in 16 (by decide +kernel) rfl
theorem yiX8_isVersion : Cond.initialized mX8_isVersion.1.cls ∈ zT ∧ plainName mX8_isVersion.1.cls = true ∧ (mX8_isVersion.1.cls ≠ "java/lang/invoke/MethodHandle" ∧ mX8_isVersion.1.cls ≠ "java/lang/invoke/VarHandle") ∧ (parseMethodDescriptor mX8_isVersion.1.desc).map (fun d => d.parameters.length) = some 1 := ⟨zT_in 50 (by decide +kernel) rfl, by decide +kernel, by decide +kernel, by decide +kernel⟩
theorem ycX8_isVersion : zLkC mX8_isVersion := ⟨rfl, zT_in 1220 (by decide +kernel) rfl⟩
theorem yvX8_isVersion : Cond.instanceMethod mX8_isVersion.1 ∈ zT := zT_in 1219 (by decide +kernel) rfl
theorem ywX8_isVersion : Cond.selects mX8_isVersion.1.cls mX8_isVersion.1 mX8_isVersion.1 ∈ zT := zT_in 18 (by decide +kernel) rfl
theorem yiX8_isHouse : Cond.initialized mX8_isHouse.1.cls ∈ zT ∧ plainName mX8_isHouse.1.cls = true ∧ (mX8_isHouse.1.cls ≠ "java/lang/invoke/MethodHandle" ∧ mX8_isHouse.1.cls ≠ "java/lang/invoke/VarHandle") ∧ (parseMethodDescriptor mX8_isHouse.1.desc).map (fun d => d.parameters.length) = some 1 := ⟨zT_in 50 (by decide +kernel) rfl, by decide +kernel, by decide +kernel, by decide +kernel⟩
theorem ycX8_isHouse : zLkC mX8_isHouse := ⟨rfl, zT_in 1175 (by decide +kernel) rfl⟩
theorem ysX8_isHouse : Cond.static mX8_isHouse.1 ∈ zT := zT_in 1174 (by decide +kernel) rfl
theorem yiX8_isLine : Cond.initialized mX8_isLine.1.cls ∈ zT ∧ plainName mX8_isLine.1.cls = true ∧ (mX8_isLine.1.cls ≠ "java/lang/invoke/MethodHandle" ∧ mX8_isLine.1.cls ≠ "java/lang/invoke/VarHandle") ∧ (parseMethodDescriptor mX8_isLine.1.desc).map (fun d => d.parameters.length) = some 1 := ⟨zT_in 50 (by decide +kernel) rfl, by decide +kernel, by decide +kernel, by decide +kernel⟩
theorem ycX8_isLine : zLkC mX8_isLine := ⟨rfl, zT_in 1181 (by decide +kernel) rfl⟩
theorem ysX8_isLine : Cond.static mX8_isLine.1 ∈ zT := zT_in 1180 (by decide +kernel) rfl
theorem yiX8_amountOf : Cond.initialized mX8_amountOf.1.cls ∈ zT ∧ plainName mX8_amountOf.1.cls = true ∧ (mX8_amountOf.1.cls ≠ "java/lang/invoke/MethodHandle" ∧ mX8_amountOf.1.cls ≠ "java/lang/invoke/VarHandle") ∧ (parseMethodDescriptor mX8_amountOf.1.desc).map (fun d => d.parameters.length) = some 2 := ⟨zT_in 50 (by decide +kernel) rfl, by decide +kernel, by decide +kernel, by decide +kernel⟩
theorem ycX8_amountOf : zLkC mX8_amountOf := ⟨rfl, zT_in 1189 (by decide +kernel) rfl⟩
theorem yvX8_amountOf : Cond.instanceMethod mX8_amountOf.1 ∈ zT := zT_in 1188 (by decide +kernel) rfl
theorem ywX8_amountOf : Cond.selects mX8_amountOf.1.cls mX8_amountOf.1 mX8_amountOf.1 ∈ zT := zT_in 12 (by decide +kernel) rfl
theorem yiX8_has : Cond.initialized mX8_has.1.cls ∈ zT ∧ plainName mX8_has.1.cls = true ∧ (mX8_has.1.cls ≠ "java/lang/invoke/MethodHandle" ∧ mX8_has.1.cls ≠ "java/lang/invoke/VarHandle") ∧ (parseMethodDescriptor mX8_has.1.desc).map (fun d => d.parameters.length) = some 3 := ⟨zT_in 50 (by decide +kernel) rfl, by decide +kernel, by decide +kernel, by decide +kernel⟩
theorem ycX8_has : zLkC mX8_has := ⟨rfl, zT_in 1212 (by decide +kernel) rfl⟩
theorem yvX8_has : Cond.instanceMethod mX8_has.1 ∈ zT := zT_in 1211 (by decide +kernel) rfl
theorem ywX8_has : Cond.selects mX8_has.1.cls mX8_has.1 mX8_has.1 ∈ zT := zT_in 17 (by decide +kernel) rfl
theorem yiX8_isWithin0 : Cond.initialized mX8_isWithin0.1.cls ∈ zT ∧ plainName mX8_isWithin0.1.cls = true ∧ (mX8_isWithin0.1.cls ≠ "java/lang/invoke/MethodHandle" ∧ mX8_isWithin0.1.cls ≠ "java/lang/invoke/VarHandle") ∧ (parseMethodDescriptor mX8_isWithin0.1.desc).map (fun d => d.parameters.length) = some 3 := ⟨zT_in 50 (by decide +kernel) rfl, by decide +kernel, by decide +kernel, by decide +kernel⟩
theorem ycX8_isWithin0 : zLkC mX8_isWithin0 := ⟨rfl, zT_in 1228 (by decide +kernel) rfl⟩
theorem yvX8_isWithin0 : Cond.instanceMethod mX8_isWithin0.1 ∈ zT := zT_in 1227 (by decide +kernel) rfl
theorem ywX8_isWithin0 : Cond.selects mX8_isWithin0.1.cls mX8_isWithin0.1 mX8_isWithin0.1 ∈ zT := zT_in 20 (by decide +kernel) rfl
theorem yiX8_comes : Cond.initialized mX8_comes.1.cls ∈ zT ∧ plainName mX8_comes.1.cls = true ∧ (mX8_comes.1.cls ≠ "java/lang/invoke/MethodHandle" ∧ mX8_comes.1.cls ≠ "java/lang/invoke/VarHandle") ∧ (parseMethodDescriptor mX8_comes.1.desc).map (fun d => d.parameters.length) = some 1 := ⟨zT_in 50 (by decide +kernel) rfl, by decide +kernel, by decide +kernel, by decide +kernel⟩
theorem ycX8_comes : zLkC mX8_comes := ⟨rfl, zT_in 1204 (by decide +kernel) rfl⟩
theorem yvX8_comes : Cond.instanceMethod mX8_comes.1 ∈ zT := zT_in 1203 (by decide +kernel) rfl
theorem ywX8_comes : Cond.selects mX8_comes.1.cls mX8_comes.1 mX8_comes.1 ∈ zT := zT_in 15 (by decide +kernel) rfl
theorem yiX8_write : Cond.initialized mX8_write.1.cls ∈ zT ∧ plainName mX8_write.1.cls = true ∧ (mX8_write.1.cls ≠ "java/lang/invoke/MethodHandle" ∧ mX8_write.1.cls ≠ "java/lang/invoke/VarHandle") ∧ (parseMethodDescriptor mX8_write.1.desc).map (fun d => d.parameters.length) = some 3 := ⟨zT_in 50 (by decide +kernel) rfl, by decide +kernel, by decide +kernel, by decide +kernel⟩
theorem ycX8_write : zLkC mX8_write := ⟨rfl, zT_in 1172 (by decide +kernel) rfl⟩
theorem yvX8_write : Cond.instanceMethod mX8_write.1 ∈ zT := zT_in 1170 (by decide +kernel) rfl
theorem ywX8_write : Cond.selects mX8_write.1.cls mX8_write.1 mX8_write.1 ∈ zT := zT_in 1171 (by decide +kernel) rfl
theorem yiX8_areLike : Cond.initialized mX8_areLike.1.cls ∈ zT ∧ plainName mX8_areLike.1.cls = true ∧ (mX8_areLike.1.cls ≠ "java/lang/invoke/MethodHandle" ∧ mX8_areLike.1.cls ≠ "java/lang/invoke/VarHandle") ∧ (parseMethodDescriptor mX8_areLike.1.desc).map (fun d => d.parameters.length) = some 4 := ⟨zT_in 50 (by decide +kernel) rfl, by decide +kernel, by decide +kernel, by decide +kernel⟩
theorem ycX8_areLike : zLkC mX8_areLike := ⟨rfl, zT_in 1224 (by decide +kernel) rfl⟩
theorem yvX8_areLike : Cond.instanceMethod mX8_areLike.1 ∈ zT := zT_in 1223 (by decide +kernel) rfl
theorem ywX8_areLike : Cond.selects mX8_areLike.1.cls mX8_areLike.1 mX8_areLike.1 ∈ zT := zT_in 19 (by decide +kernel) rfl
theorem yiX8_graft : Cond.initialized mX8_graft.1.cls ∈ zT ∧ plainName mX8_graft.1.cls = true ∧ (mX8_graft.1.cls ≠ "java/lang/invoke/MethodHandle" ∧ mX8_graft.1.cls ≠ "java/lang/invoke/VarHandle") ∧ (parseMethodDescriptor mX8_graft.1.desc).map (fun d => d.parameters.length) = some 4 := ⟨zT_in 50 (by decide +kernel) rfl, by decide +kernel, by decide +kernel, by decide +kernel⟩
theorem ycX8_graft : zLkC mX8_graft := ⟨rfl, zT_in 1216 (by decide +kernel) rfl⟩
theorem yvX8_graft : Cond.instanceMethod mX8_graft.1 ∈ zT := zT_in 1214 (by decide +kernel) rfl
theorem ywX8_graft : Cond.selects mX8_graft.1.cls mX8_graft.1 mX8_graft.1 ∈ zT := zT_in 1215 (by decide +kernel) rfl
theorem yiX8_fork : Cond.initialized mX8_fork.1.cls ∈ zT ∧ plainName mX8_fork.1.cls = true ∧ (mX8_fork.1.cls ≠ "java/lang/invoke/MethodHandle" ∧ mX8_fork.1.cls ≠ "java/lang/invoke/VarHandle") ∧ (parseMethodDescriptor mX8_fork.1.desc).map (fun d => d.parameters.length) = some 2 := ⟨zT_in 50 (by decide +kernel) rfl, by decide +kernel, by decide +kernel, by decide +kernel⟩
theorem ycX8_fork : zLkC mX8_fork := ⟨rfl, zT_in 1232 (by decide +kernel) rfl⟩
theorem yvX8_fork : Cond.instanceMethod mX8_fork.1 ∈ zT := zT_in 1230 (by decide +kernel) rfl
theorem ywX8_fork : Cond.selects mX8_fork.1.cls mX8_fork.1 mX8_fork.1 ∈ zT := zT_in 1231 (by decide +kernel) rfl
theorem yiX8_ancestors : Cond.initialized mX8_ancestors.1.cls ∈ zT ∧ plainName mX8_ancestors.1.cls = true ∧ (mX8_ancestors.1.cls ≠ "java/lang/invoke/MethodHandle" ∧ mX8_ancestors.1.cls ≠ "java/lang/invoke/VarHandle") ∧ (parseMethodDescriptor mX8_ancestors.1.desc).map (fun d => d.parameters.length) = some 1 := ⟨zT_in 50 (by decide +kernel) rfl, by decide +kernel, by decide +kernel, by decide +kernel⟩
theorem ycX8_ancestors : zLkC mX8_ancestors := ⟨rfl, zT_in 1240 (by decide +kernel) rfl⟩
theorem yvX8_ancestors : Cond.instanceMethod mX8_ancestors.1 ∈ zT := zT_in 1239 (by decide +kernel) rfl
theorem ywX8_ancestors : Cond.selects mX8_ancestors.1.cls mX8_ancestors.1 mX8_ancestors.1 ∈ zT := zT_in 21 (by decide +kernel) rfl
theorem yiX8_back : Cond.initialized mX8_back.1.cls ∈ zT ∧ plainName mX8_back.1.cls = true ∧ (mX8_back.1.cls ≠ "java/lang/invoke/MethodHandle" ∧ mX8_back.1.cls ≠ "java/lang/invoke/VarHandle") ∧ (parseMethodDescriptor mX8_back.1.desc).map (fun d => d.parameters.length) = some 2 := ⟨zT_in 50 (by decide +kernel) rfl, by decide +kernel, by decide +kernel, by decide +kernel⟩
theorem ycX8_back : zLkC mX8_back := ⟨rfl, zT_in 1236 (by decide +kernel) rfl⟩
theorem yvX8_back : Cond.instanceMethod mX8_back.1 ∈ zT := zT_in 1234 (by decide +kernel) rfl
theorem ywX8_back : Cond.selects mX8_back.1.cls mX8_back.1 mX8_back.1 ∈ zT := zT_in 1235 (by decide +kernel) rfl
theorem yiX8_pass : Cond.initialized mX8_pass.1.cls ∈ zT ∧ plainName mX8_pass.1.cls = true ∧ (mX8_pass.1.cls ≠ "java/lang/invoke/MethodHandle" ∧ mX8_pass.1.cls ≠ "java/lang/invoke/VarHandle") ∧ (parseMethodDescriptor mX8_pass.1.desc).map (fun d => d.parameters.length) = some 1 := ⟨zT_in 50 (by decide +kernel) rfl, by decide +kernel, by decide +kernel, by decide +kernel⟩
theorem ycX8_pass : zLkC mX8_pass := ⟨rfl, zT_in 1244 (by decide +kernel) rfl⟩
theorem yvX8_pass : Cond.instanceMethod mX8_pass.1 ∈ zT := zT_in 1242 (by decide +kernel) rfl
theorem ywX8_pass : Cond.selects mX8_pass.1.cls mX8_pass.1 mX8_pass.1 ∈ zT := zT_in 1243 (by decide +kernel) rfl
theorem yiX8_ledger : Cond.initialized mX8_ledger.1.cls ∈ zT ∧ plainName mX8_ledger.1.cls = true ∧ (mX8_ledger.1.cls ≠ "java/lang/invoke/MethodHandle" ∧ mX8_ledger.1.cls ≠ "java/lang/invoke/VarHandle") ∧ (parseMethodDescriptor mX8_ledger.1.desc).map (fun d => d.parameters.length) = some 1 := ⟨zT_in 50 (by decide +kernel) rfl, by decide +kernel, by decide +kernel, by decide +kernel⟩
theorem ycX8_ledger : zLkC mX8_ledger := ⟨rfl, zT_in 1248 (by decide +kernel) rfl⟩
theorem yvX8_ledger : Cond.instanceMethod mX8_ledger.1 ∈ zT := zT_in 1246 (by decide +kernel) rfl
theorem ywX8_ledger : Cond.selects mX8_ledger.1.cls mX8_ledger.1 mX8_ledger.1 ∈ zT := zT_in 1247 (by decide +kernel) rfl
theorem yiX8_amount : Cond.initialized mX8_amount.1.cls ∈ zT ∧ plainName mX8_amount.1.cls = true ∧ (mX8_amount.1.cls ≠ "java/lang/invoke/MethodHandle" ∧ mX8_amount.1.cls ≠ "java/lang/invoke/VarHandle") ∧ (parseMethodDescriptor mX8_amount.1.desc).map (fun d => d.parameters.length) = some 2 := ⟨zT_in 50 (by decide +kernel) rfl, by decide +kernel, by decide +kernel, by decide +kernel⟩
theorem ycX8_amount : zLkC mX8_amount := ⟨rfl, zT_in 1256 (by decide +kernel) rfl⟩
theorem yvX8_amount : Cond.instanceMethod mX8_amount.1 ∈ zT := zT_in 1254 (by decide +kernel) rfl
theorem ywX8_amount : Cond.selects mX8_amount.1.cls mX8_amount.1 mX8_amount.1 ∈ zT := zT_in 1255 (by decide +kernel) rfl
theorem yiX8_sumOf : Cond.initialized mX8_sumOf.1.cls ∈ zT ∧ plainName mX8_sumOf.1.cls = true ∧ (mX8_sumOf.1.cls ≠ "java/lang/invoke/MethodHandle" ∧ mX8_sumOf.1.cls ≠ "java/lang/invoke/VarHandle") ∧ (parseMethodDescriptor mX8_sumOf.1.desc).map (fun d => d.parameters.length) = some 3 := ⟨zT_in 50 (by decide +kernel) rfl, by decide +kernel, by decide +kernel, by decide +kernel⟩
theorem ycX8_sumOf : zLkC mX8_sumOf := ⟨rfl, zT_in 1267 (by decide +kernel) rfl⟩
theorem yvX8_sumOf : Cond.instanceMethod mX8_sumOf.1 ∈ zT := zT_in 1266 (by decide +kernel) rfl
theorem ywX8_sumOf : Cond.selects mX8_sumOf.1.cls mX8_sumOf.1 mX8_sumOf.1 ∈ zT := zT_in 23 (by decide +kernel) rfl
theorem yiX8_areLines : Cond.initialized mX8_areLines.1.cls ∈ zT ∧ plainName mX8_areLines.1.cls = true ∧ (mX8_areLines.1.cls ≠ "java/lang/invoke/MethodHandle" ∧ mX8_areLines.1.cls ≠ "java/lang/invoke/VarHandle") ∧ (parseMethodDescriptor mX8_areLines.1.desc).map (fun d => d.parameters.length) = some 2 := ⟨zT_in 50 (by decide +kernel) rfl, by decide +kernel, by decide +kernel, by decide +kernel⟩
theorem ycX8_areLines : zLkC mX8_areLines := ⟨rfl, zT_in 1263 (by decide +kernel) rfl⟩
theorem ysX8_areLines : Cond.static mX8_areLines.1 ∈ zT := zT_in 1262 (by decide +kernel) rfl
theorem yiX8_sum : Cond.initialized mX8_sum.1.cls ∈ zT ∧ plainName mX8_sum.1.cls = true ∧ (mX8_sum.1.cls ≠ "java/lang/invoke/MethodHandle" ∧ mX8_sum.1.cls ≠ "java/lang/invoke/VarHandle") ∧ (parseMethodDescriptor mX8_sum.1.desc).map (fun d => d.parameters.length) = some 3 := ⟨zT_in 50 (by decide +kernel) rfl, by decide +kernel, by decide +kernel, by decide +kernel⟩
theorem ycX8_sum : zLkC mX8_sum := ⟨rfl, zT_in 1260 (by decide +kernel) rfl⟩
theorem yvX8_sum : Cond.instanceMethod mX8_sum.1 ∈ zT := zT_in 1258 (by decide +kernel) rfl
theorem ywX8_sum : Cond.selects mX8_sum.1.cls mX8_sum.1 mX8_sum.1 ∈ zT := zT_in 1259 (by decide +kernel) rfl
theorem yiX8_sumAgain : Cond.initialized mX8_sumAgain.1.cls ∈ zT ∧ plainName mX8_sumAgain.1.cls = true ∧ (mX8_sumAgain.1.cls ≠ "java/lang/invoke/MethodHandle" ∧ mX8_sumAgain.1.cls ≠ "java/lang/invoke/VarHandle") ∧ (parseMethodDescriptor mX8_sumAgain.1.desc).map (fun d => d.parameters.length) = some 3 := ⟨zT_in 50 (by decide +kernel) rfl, by decide +kernel, by decide +kernel, by decide +kernel⟩
theorem ycX8_sumAgain : zLkC mX8_sumAgain := ⟨rfl, zT_in 1271 (by decide +kernel) rfl⟩
theorem yvX8_sumAgain : Cond.instanceMethod mX8_sumAgain.1 ∈ zT := zT_in 1269 (by decide +kernel) rfl
theorem ywX8_sumAgain : Cond.selects mX8_sumAgain.1.cls mX8_sumAgain.1 mX8_sumAgain.1 ∈ zT := zT_in 1270 (by decide +kernel) rfl
theorem yiX8_most : Cond.initialized mX8_most.1.cls ∈ zT ∧ plainName mX8_most.1.cls = true ∧ (mX8_most.1.cls ≠ "java/lang/invoke/MethodHandle" ∧ mX8_most.1.cls ≠ "java/lang/invoke/VarHandle") ∧ (parseMethodDescriptor mX8_most.1.desc).map (fun d => d.parameters.length) = some 3 := ⟨zT_in 50 (by decide +kernel) rfl, by decide +kernel, by decide +kernel, by decide +kernel⟩
theorem ycX8_most : zLkC mX8_most := ⟨rfl, zT_in 1276 (by decide +kernel) rfl⟩
theorem yvX8_most : Cond.instanceMethod mX8_most.1 ∈ zT := zT_in 1274 (by decide +kernel) rfl
theorem ywX8_most : Cond.selects mX8_most.1.cls mX8_most.1 mX8_most.1 ∈ zT := zT_in 1275 (by decide +kernel) rfl
theorem yiX8_reached : Cond.initialized mX8_reached.1.cls ∈ zT ∧ plainName mX8_reached.1.cls = true ∧ (mX8_reached.1.cls ≠ "java/lang/invoke/MethodHandle" ∧ mX8_reached.1.cls ≠ "java/lang/invoke/VarHandle") ∧ (parseMethodDescriptor mX8_reached.1.desc).map (fun d => d.parameters.length) = some 2 := ⟨zT_in 50 (by decide +kernel) rfl, by decide +kernel, by decide +kernel, by decide +kernel⟩
theorem ycX8_reached : zLkC mX8_reached := ⟨rfl, zT_in 1280 (by decide +kernel) rfl⟩
theorem yvX8_reached : Cond.instanceMethod mX8_reached.1 ∈ zT := zT_in 1278 (by decide +kernel) rfl
theorem ywX8_reached : Cond.selects mX8_reached.1.cls mX8_reached.1 mX8_reached.1 ∈ zT := zT_in 1279 (by decide +kernel) rfl
theorem yiX8_children : Cond.initialized mX8_children.1.cls ∈ zT ∧ plainName mX8_children.1.cls = true ∧ (mX8_children.1.cls ≠ "java/lang/invoke/MethodHandle" ∧ mX8_children.1.cls ≠ "java/lang/invoke/VarHandle") ∧ (parseMethodDescriptor mX8_children.1.desc).map (fun d => d.parameters.length) = some 1 := ⟨zT_in 50 (by decide +kernel) rfl, by decide +kernel, by decide +kernel, by decide +kernel⟩
theorem ycX8_children : zLkC mX8_children := ⟨rfl, zT_in 1288 (by decide +kernel) rfl⟩
theorem yvX8_children : Cond.instanceMethod mX8_children.1 ∈ zT := zT_in 1287 (by decide +kernel) rfl
theorem ywX8_children : Cond.selects mX8_children.1.cls mX8_children.1 mX8_children.1 ∈ zT := zT_in 24 (by decide +kernel) rfl
theorem yiX8_made : Cond.initialized mX8_made.1.cls ∈ zT ∧ plainName mX8_made.1.cls = true ∧ (mX8_made.1.cls ≠ "java/lang/invoke/MethodHandle" ∧ mX8_made.1.cls ≠ "java/lang/invoke/VarHandle") ∧ (parseMethodDescriptor mX8_made.1.desc).map (fun d => d.parameters.length) = some 1 := ⟨zT_in 50 (by decide +kernel) rfl, by decide +kernel, by decide +kernel, by decide +kernel⟩
theorem ycX8_made : zLkC mX8_made := ⟨rfl, zT_in 1292 (by decide +kernel) rfl⟩
theorem yvX8_made : Cond.instanceMethod mX8_made.1 ∈ zT := zT_in 1291 (by decide +kernel) rfl
theorem ywX8_made : Cond.selects mX8_made.1.cls mX8_made.1 mX8_made.1 ∈ zT := zT_in 25 (by decide +kernel) rfl
theorem yiX8_apart0 : Cond.initialized mX8_apart0.1.cls ∈ zT ∧ plainName mX8_apart0.1.cls = true ∧ (mX8_apart0.1.cls ≠ "java/lang/invoke/MethodHandle" ∧ mX8_apart0.1.cls ≠ "java/lang/invoke/VarHandle") ∧ (parseMethodDescriptor mX8_apart0.1.desc).map (fun d => d.parameters.length) = some 2 := ⟨zT_in 50 (by decide +kernel) rfl, by decide +kernel, by decide +kernel, by decide +kernel⟩
theorem ycX8_apart0 : zLkC mX8_apart0 := ⟨rfl, zT_in 1296 (by decide +kernel) rfl⟩
theorem yvX8_apart0 : Cond.instanceMethod mX8_apart0.1 ∈ zT := zT_in 1295 (by decide +kernel) rfl
theorem ywX8_apart0 : Cond.selects mX8_apart0.1.cls mX8_apart0.1 mX8_apart0.1 ∈ zT := zT_in 26 (by decide +kernel) rfl
theorem yiX8_houses : Cond.initialized mX8_houses.1.cls ∈ zT ∧ plainName mX8_houses.1.cls = true ∧ (mX8_houses.1.cls ≠ "java/lang/invoke/MethodHandle" ∧ mX8_houses.1.cls ≠ "java/lang/invoke/VarHandle") ∧ (parseMethodDescriptor mX8_houses.1.desc).map (fun d => d.parameters.length) = some 1 := ⟨zT_in 50 (by decide +kernel) rfl, by decide +kernel, by decide +kernel, by decide +kernel⟩
theorem ycX8_houses : zLkC mX8_houses := ⟨rfl, zT_in 1300 (by decide +kernel) rfl⟩
theorem yvX8_houses : Cond.instanceMethod mX8_houses.1 ∈ zT := zT_in 1299 (by decide +kernel) rfl
theorem ywX8_houses : Cond.selects mX8_houses.1.cls mX8_houses.1 mX8_houses.1 ∈ zT := zT_in 27 (by decide +kernel) rfl
theorem yiX8_versionOf : Cond.initialized mX8_versionOf.1.cls ∈ zT ∧ plainName mX8_versionOf.1.cls = true ∧ (mX8_versionOf.1.cls ≠ "java/lang/invoke/MethodHandle" ∧ mX8_versionOf.1.cls ≠ "java/lang/invoke/VarHandle") ∧ (parseMethodDescriptor mX8_versionOf.1.desc).map (fun d => d.parameters.length) = some 2 := ⟨zT_in 50 (by decide +kernel) rfl, by decide +kernel, by decide +kernel, by decide +kernel⟩
theorem ycX8_versionOf : zLkC mX8_versionOf := ⟨rfl, zT_in 1284 (by decide +kernel) rfl⟩
theorem yvX8_versionOf : Cond.instanceMethod mX8_versionOf.1 ∈ zT := zT_in 1282 (by decide +kernel) rfl
theorem ywX8_versionOf : Cond.selects mX8_versionOf.1.cls mX8_versionOf.1 mX8_versionOf.1 ∈ zT := zT_in 1283 (by decide +kernel) rfl
theorem yiX8_maker : Cond.initialized mX8_maker.1.cls ∈ zT ∧ plainName mX8_maker.1.cls = true ∧ (mX8_maker.1.cls ≠ "java/lang/invoke/MethodHandle" ∧ mX8_maker.1.cls ≠ "java/lang/invoke/VarHandle") ∧ (parseMethodDescriptor mX8_maker.1.desc).map (fun d => d.parameters.length) = some 2 := ⟨zT_in 50 (by decide +kernel) rfl, by decide +kernel, by decide +kernel, by decide +kernel⟩
theorem ycX8_maker : zLkC mX8_maker := ⟨rfl, zT_in 1304 (by decide +kernel) rfl⟩
theorem yvX8_maker : Cond.instanceMethod mX8_maker.1 ∈ zT := zT_in 1302 (by decide +kernel) rfl
theorem ywX8_maker : Cond.selects mX8_maker.1.cls mX8_maker.1 mX8_maker.1 ∈ zT := zT_in 1303 (by decide +kernel) rfl
theorem yiX8_had : Cond.initialized mX8_had.1.cls ∈ zT ∧ plainName mX8_had.1.cls = true ∧ (mX8_had.1.cls ≠ "java/lang/invoke/MethodHandle" ∧ mX8_had.1.cls ≠ "java/lang/invoke/VarHandle") ∧ (parseMethodDescriptor mX8_had.1.desc).map (fun d => d.parameters.length) = some 2 := ⟨zT_in 50 (by decide +kernel) rfl, by decide +kernel, by decide +kernel, by decide +kernel⟩
theorem ycX8_had : zLkC mX8_had := ⟨rfl, zT_in 1308 (by decide +kernel) rfl⟩
theorem yvX8_had : Cond.instanceMethod mX8_had.1 ∈ zT := zT_in 1306 (by decide +kernel) rfl
theorem ywX8_had : Cond.selects mX8_had.1.cls mX8_had.1 mX8_had.1 ∈ zT := zT_in 1307 (by decide +kernel) rfl
theorem yiX8_since : Cond.initialized mX8_since.1.cls ∈ zT ∧ plainName mX8_since.1.cls = true ∧ (mX8_since.1.cls ≠ "java/lang/invoke/MethodHandle" ∧ mX8_since.1.cls ≠ "java/lang/invoke/VarHandle") ∧ (parseMethodDescriptor mX8_since.1.desc).map (fun d => d.parameters.length) = some 2 := ⟨zT_in 50 (by decide +kernel) rfl, by decide +kernel, by decide +kernel, by decide +kernel⟩
theorem ycX8_since : zLkC mX8_since := ⟨rfl, zT_in 1312 (by decide +kernel) rfl⟩
theorem yvX8_since : Cond.instanceMethod mX8_since.1 ∈ zT := zT_in 1310 (by decide +kernel) rfl
theorem ywX8_since : Cond.selects mX8_since.1.cls mX8_since.1 mX8_since.1 ∈ zT := zT_in 1311 (by decide +kernel) rfl
theorem yiX8_areVersions : Cond.initialized mX8_areVersions.1.cls ∈ zT ∧ plainName mX8_areVersions.1.cls = true ∧ (mX8_areVersions.1.cls ≠ "java/lang/invoke/MethodHandle" ∧ mX8_areVersions.1.cls ≠ "java/lang/invoke/VarHandle") ∧ (parseMethodDescriptor mX8_areVersions.1.desc).map (fun d => d.parameters.length) = some 2 := ⟨zT_in 50 (by decide +kernel) rfl, by decide +kernel, by decide +kernel, by decide +kernel⟩
theorem ycX8_areVersions : zLkC mX8_areVersions := ⟨rfl, zT_in 1320 (by decide +kernel) rfl⟩
theorem yvX8_areVersions : Cond.instanceMethod mX8_areVersions.1 ∈ zT := zT_in 1319 (by decide +kernel) rfl
theorem ywX8_areVersions : Cond.selects mX8_areVersions.1.cls mX8_areVersions.1 mX8_areVersions.1 ∈ zT := zT_in 28 (by decide +kernel) rfl
theorem yiX8_common : Cond.initialized mX8_common.1.cls ∈ zT ∧ plainName mX8_common.1.cls = true ∧ (mX8_common.1.cls ≠ "java/lang/invoke/MethodHandle" ∧ mX8_common.1.cls ≠ "java/lang/invoke/VarHandle") ∧ (parseMethodDescriptor mX8_common.1.desc).map (fun d => d.parameters.length) = some 2 := ⟨zT_in 50 (by decide +kernel) rfl, by decide +kernel, by decide +kernel, by decide +kernel⟩
theorem ycX8_common : zLkC mX8_common := ⟨rfl, zT_in 1316 (by decide +kernel) rfl⟩
theorem yvX8_common : Cond.instanceMethod mX8_common.1 ∈ zT := zT_in 1314 (by decide +kernel) rfl
theorem ywX8_common : Cond.selects mX8_common.1.cls mX8_common.1 mX8_common.1 ∈ zT := zT_in 1315 (by decide +kernel) rfl
theorem yiX8_apart : Cond.initialized mX8_apart.1.cls ∈ zT ∧ plainName mX8_apart.1.cls = true ∧ (mX8_apart.1.cls ≠ "java/lang/invoke/MethodHandle" ∧ mX8_apart.1.cls ≠ "java/lang/invoke/VarHandle") ∧ (parseMethodDescriptor mX8_apart.1.desc).map (fun d => d.parameters.length) = some 2 := ⟨zT_in 50 (by decide +kernel) rfl, by decide +kernel, by decide +kernel, by decide +kernel⟩
theorem ycX8_apart : zLkC mX8_apart := ⟨rfl, zT_in 1324 (by decide +kernel) rfl⟩
theorem yvX8_apart : Cond.instanceMethod mX8_apart.1 ∈ zT := zT_in 1322 (by decide +kernel) rfl
theorem ywX8_apart : Cond.selects mX8_apart.1.cls mX8_apart.1 mX8_apart.1 ∈ zT := zT_in 1323 (by decide +kernel) rfl
theorem yiX8_shared : Cond.initialized mX8_shared.1.cls ∈ zT ∧ plainName mX8_shared.1.cls = true ∧ (mX8_shared.1.cls ≠ "java/lang/invoke/MethodHandle" ∧ mX8_shared.1.cls ≠ "java/lang/invoke/VarHandle") ∧ (parseMethodDescriptor mX8_shared.1.desc).map (fun d => d.parameters.length) = some 2 := ⟨zT_in 50 (by decide +kernel) rfl, by decide +kernel, by decide +kernel, by decide +kernel⟩
theorem ycX8_shared : zLkC mX8_shared := ⟨rfl, zT_in 1328 (by decide +kernel) rfl⟩
theorem yvX8_shared : Cond.instanceMethod mX8_shared.1 ∈ zT := zT_in 1326 (by decide +kernel) rfl
theorem ywX8_shared : Cond.selects mX8_shared.1.cls mX8_shared.1 mX8_shared.1 ∈ zT := zT_in 1327 (by decide +kernel) rfl
theorem yiX8_isOf : Cond.initialized mX8_isOf.1.cls ∈ zT ∧ plainName mX8_isOf.1.cls = true ∧ (mX8_isOf.1.cls ≠ "java/lang/invoke/MethodHandle" ∧ mX8_isOf.1.cls ≠ "java/lang/invoke/VarHandle") ∧ (parseMethodDescriptor mX8_isOf.1.desc).map (fun d => d.parameters.length) = some 2 := ⟨zT_in 50 (by decide +kernel) rfl, by decide +kernel, by decide +kernel, by decide +kernel⟩
theorem ycX8_isOf : zLkC mX8_isOf := ⟨rfl, zT_in 1332 (by decide +kernel) rfl⟩
theorem yvX8_isOf : Cond.instanceMethod mX8_isOf.1 ∈ zT := zT_in 1330 (by decide +kernel) rfl
theorem ywX8_isOf : Cond.selects mX8_isOf.1.cls mX8_isOf.1 mX8_isOf.1 ∈ zT := zT_in 1331 (by decide +kernel) rfl
theorem yiX8_usersOf : Cond.initialized mX8_usersOf.1.cls ∈ zT ∧ plainName mX8_usersOf.1.cls = true ∧ (mX8_usersOf.1.cls ≠ "java/lang/invoke/MethodHandle" ∧ mX8_usersOf.1.cls ≠ "java/lang/invoke/VarHandle") ∧ (parseMethodDescriptor mX8_usersOf.1.desc).map (fun d => d.parameters.length) = some 2 := ⟨zT_in 50 (by decide +kernel) rfl, by decide +kernel, by decide +kernel, by decide +kernel⟩
theorem ycX8_usersOf : zLkC mX8_usersOf := ⟨rfl, zT_in 1340 (by decide +kernel) rfl⟩
theorem yvX8_usersOf : Cond.instanceMethod mX8_usersOf.1 ∈ zT := zT_in 1339 (by decide +kernel) rfl
theorem ywX8_usersOf : Cond.selects mX8_usersOf.1.cls mX8_usersOf.1 mX8_usersOf.1 ∈ zT := zT_in 29 (by decide +kernel) rfl
theorem yiX8_users : Cond.initialized mX8_users.1.cls ∈ zT ∧ plainName mX8_users.1.cls = true ∧ (mX8_users.1.cls ≠ "java/lang/invoke/MethodHandle" ∧ mX8_users.1.cls ≠ "java/lang/invoke/VarHandle") ∧ (parseMethodDescriptor mX8_users.1.desc).map (fun d => d.parameters.length) = some 2 := ⟨zT_in 50 (by decide +kernel) rfl, by decide +kernel, by decide +kernel, by decide +kernel⟩
theorem ycX8_users : zLkC mX8_users := ⟨rfl, zT_in 1336 (by decide +kernel) rfl⟩
theorem yvX8_users : Cond.instanceMethod mX8_users.1 ∈ zT := zT_in 1334 (by decide +kernel) rfl
theorem ywX8_users : Cond.selects mX8_users.1.cls mX8_users.1 mX8_users.1 ∈ zT := zT_in 1335 (by decide +kernel) rfl
theorem yiX8_wouldMake : Cond.initialized mX8_wouldMake.1.cls ∈ zT ∧ plainName mX8_wouldMake.1.cls = true ∧ (mX8_wouldMake.1.cls ≠ "java/lang/invoke/MethodHandle" ∧ mX8_wouldMake.1.cls ≠ "java/lang/invoke/VarHandle") ∧ (parseMethodDescriptor mX8_wouldMake.1.desc).map (fun d => d.parameters.length) = some 2 := ⟨zT_in 50 (by decide +kernel) rfl, by decide +kernel, by decide +kernel, by decide +kernel⟩
theorem ycX8_wouldMake : zLkC mX8_wouldMake := ⟨rfl, zT_in 1344 (by decide +kernel) rfl⟩
theorem yvX8_wouldMake : Cond.instanceMethod mX8_wouldMake.1 ∈ zT := zT_in 1342 (by decide +kernel) rfl
theorem ywX8_wouldMake : Cond.selects mX8_wouldMake.1.cls mX8_wouldMake.1 mX8_wouldMake.1 ∈ zT := zT_in 1343 (by decide +kernel) rfl
theorem yiX8_alike : Cond.initialized mX8_alike.1.cls ∈ zT ∧ plainName mX8_alike.1.cls = true ∧ (mX8_alike.1.cls ≠ "java/lang/invoke/MethodHandle" ∧ mX8_alike.1.cls ≠ "java/lang/invoke/VarHandle") ∧ (parseMethodDescriptor mX8_alike.1.desc).map (fun d => d.parameters.length) = some 1 := ⟨zT_in 50 (by decide +kernel) rfl, by decide +kernel, by decide +kernel, by decide +kernel⟩
theorem ycX8_alike : zLkC mX8_alike := ⟨rfl, zT_in 1348 (by decide +kernel) rfl⟩
theorem yvX8_alike : Cond.instanceMethod mX8_alike.1 ∈ zT := zT_in 1346 (by decide +kernel) rfl
theorem ywX8_alike : Cond.selects mX8_alike.1.cls mX8_alike.1 mX8_alike.1 ∈ zT := zT_in 1347 (by decide +kernel) rfl
theorem yiX8_richest : Cond.initialized mX8_richest.1.cls ∈ zT ∧ plainName mX8_richest.1.cls = true ∧ (mX8_richest.1.cls ≠ "java/lang/invoke/MethodHandle" ∧ mX8_richest.1.cls ≠ "java/lang/invoke/VarHandle") ∧ (parseMethodDescriptor mX8_richest.1.desc).map (fun d => d.parameters.length) = some 1 := ⟨zT_in 50 (by decide +kernel) rfl, by decide +kernel, by decide +kernel, by decide +kernel⟩
theorem ycX8_richest : zLkC mX8_richest := ⟨rfl, zT_in 1352 (by decide +kernel) rfl⟩
theorem yvX8_richest : Cond.instanceMethod mX8_richest.1 ∈ zT := zT_in 1350 (by decide +kernel) rfl
theorem ywX8_richest : Cond.selects mX8_richest.1.cls mX8_richest.1 mX8_richest.1 ∈ zT := zT_in 1351 (by decide +kernel) rfl
theorem yiX8_lent : Cond.initialized mX8_lent.1.cls ∈ zT ∧ plainName mX8_lent.1.cls = true ∧ (mX8_lent.1.cls ≠ "java/lang/invoke/MethodHandle" ∧ mX8_lent.1.cls ≠ "java/lang/invoke/VarHandle") ∧ (parseMethodDescriptor mX8_lent.1.desc).map (fun d => d.parameters.length) = some 1 := ⟨zT_in 50 (by decide +kernel) rfl, by decide +kernel, by decide +kernel, by decide +kernel⟩
theorem ycX8_lent : zLkC mX8_lent := ⟨rfl, zT_in 1360 (by decide +kernel) rfl⟩
theorem yvX8_lent : Cond.instanceMethod mX8_lent.1 ∈ zT := zT_in 1359 (by decide +kernel) rfl
theorem ywX8_lent : Cond.selects mX8_lent.1.cls mX8_lent.1 mX8_lent.1 ∈ zT := zT_in 30 (by decide +kernel) rfl
theorem yiX8_busiest : Cond.initialized mX8_busiest.1.cls ∈ zT ∧ plainName mX8_busiest.1.cls = true ∧ (mX8_busiest.1.cls ≠ "java/lang/invoke/MethodHandle" ∧ mX8_busiest.1.cls ≠ "java/lang/invoke/VarHandle") ∧ (parseMethodDescriptor mX8_busiest.1.desc).map (fun d => d.parameters.length) = some 0 := ⟨zT_in 50 (by decide +kernel) rfl, by decide +kernel, by decide +kernel, by decide +kernel⟩
theorem ycX8_busiest : zLkC mX8_busiest := ⟨rfl, zT_in 1356 (by decide +kernel) rfl⟩
theorem yvX8_busiest : Cond.instanceMethod mX8_busiest.1 ∈ zT := zT_in 1354 (by decide +kernel) rfl
theorem ywX8_busiest : Cond.selects mX8_busiest.1.cls mX8_busiest.1 mX8_busiest.1 ∈ zT := zT_in 1355 (by decide +kernel) rfl
theorem yiX8_append : Cond.initialized mX8_append.1.cls ∈ zT ∧ plainName mX8_append.1.cls = true ∧ (mX8_append.1.cls ≠ "java/lang/invoke/MethodHandle" ∧ mX8_append.1.cls ≠ "java/lang/invoke/VarHandle") ∧ (parseMethodDescriptor mX8_append.1.desc).map (fun d => d.parameters.length) = some 1 := ⟨zT_in 50 (by decide +kernel) rfl, by decide +kernel, by decide +kernel, by decide +kernel⟩
theorem ycX8_append : zLkC mX8_append := ⟨rfl, zT_in 1364 (by decide +kernel) rfl⟩
theorem yvX8_append : Cond.instanceMethod mX8_append.1 ∈ zT := zT_in 1362 (by decide +kernel) rfl
theorem ywX8_append : Cond.selects mX8_append.1.cls mX8_append.1 mX8_append.1 ∈ zT := zT_in 1363 (by decide +kernel) rfl
theorem yiX8_here : Cond.initialized mX8_here.1.cls ∈ zT ∧ plainName mX8_here.1.cls = true ∧ (mX8_here.1.cls ≠ "java/lang/invoke/MethodHandle" ∧ mX8_here.1.cls ≠ "java/lang/invoke/VarHandle") ∧ (parseMethodDescriptor mX8_here.1.desc).map (fun d => d.parameters.length) = some 0 := ⟨zT_in 50 (by decide +kernel) rfl, by decide +kernel, by decide +kernel, by decide +kernel⟩
theorem ycX8_here : zLkC mX8_here := ⟨rfl, zT_in 1380 (by decide +kernel) rfl⟩
theorem yvX8_here : Cond.instanceMethod mX8_here.1 ∈ zT := zT_in 1379 (by decide +kernel) rfl
theorem ywX8_here : Cond.selects mX8_here.1.cls mX8_here.1 mX8_here.1 ∈ zT := zT_in 33 (by decide +kernel) rfl
theorem yiX8_skips : Cond.initialized mX8_skips.1.cls ∈ zT ∧ plainName mX8_skips.1.cls = true ∧ (mX8_skips.1.cls ≠ "java/lang/invoke/MethodHandle" ∧ mX8_skips.1.cls ≠ "java/lang/invoke/VarHandle") ∧ (parseMethodDescriptor mX8_skips.1.desc).map (fun d => d.parameters.length) = some 1 := ⟨zT_in 50 (by decide +kernel) rfl, by decide +kernel, by decide +kernel, by decide +kernel⟩
theorem ycX8_skips : zLkC mX8_skips := ⟨rfl, zT_in 1384 (by decide +kernel) rfl⟩
theorem yvX8_skips : Cond.instanceMethod mX8_skips.1 ∈ zT := zT_in 1383 (by decide +kernel) rfl
theorem ywX8_skips : Cond.selects mX8_skips.1.cls mX8_skips.1 mX8_skips.1 ∈ zT := zT_in 34 (by decide +kernel) rfl
theorem yiX8_figures : Cond.initialized mX8_figures.1.cls ∈ zT ∧ plainName mX8_figures.1.cls = true ∧ (mX8_figures.1.cls ≠ "java/lang/invoke/MethodHandle" ∧ mX8_figures.1.cls ≠ "java/lang/invoke/VarHandle") ∧ (parseMethodDescriptor mX8_figures.1.desc).map (fun d => d.parameters.length) = some 2 := ⟨zT_in 50 (by decide +kernel) rfl, by decide +kernel, by decide +kernel, by decide +kernel⟩
theorem ycX8_figures : zLkC mX8_figures := ⟨rfl, zT_in 1388 (by decide +kernel) rfl⟩
theorem yvX8_figures : Cond.instanceMethod mX8_figures.1 ∈ zT := zT_in 1387 (by decide +kernel) rfl
theorem ywX8_figures : Cond.selects mX8_figures.1.cls mX8_figures.1 mX8_figures.1 ∈ zT := zT_in 35 (by decide +kernel) rfl
theorem yiX8_commandHere : Cond.initialized mX8_commandHere.1.cls ∈ zT ∧ plainName mX8_commandHere.1.cls = true ∧ (mX8_commandHere.1.cls ≠ "java/lang/invoke/MethodHandle" ∧ mX8_commandHere.1.cls ≠ "java/lang/invoke/VarHandle") ∧ (parseMethodDescriptor mX8_commandHere.1.desc).map (fun d => d.parameters.length) = some 0 := ⟨zT_in 50 (by decide +kernel) rfl, by decide +kernel, by decide +kernel, by decide +kernel⟩
theorem ycX8_commandHere : zLkC mX8_commandHere := ⟨rfl, zT_in 1376 (by decide +kernel) rfl⟩
theorem yvX8_commandHere : Cond.instanceMethod mX8_commandHere.1 ∈ zT := zT_in 1375 (by decide +kernel) rfl
theorem ywX8_commandHere : Cond.selects mX8_commandHere.1.cls mX8_commandHere.1 mX8_commandHere.1 ∈ zT := zT_in 32 (by decide +kernel) rfl
theorem yiX8_isText : Cond.initialized mX8_isText.1.cls ∈ zT ∧ plainName mX8_isText.1.cls = true ∧ (mX8_isText.1.cls ≠ "java/lang/invoke/MethodHandle" ∧ mX8_isText.1.cls ≠ "java/lang/invoke/VarHandle") ∧ (parseMethodDescriptor mX8_isText.1.desc).map (fun d => d.parameters.length) = some 0 := ⟨zT_in 50 (by decide +kernel) rfl, by decide +kernel, by decide +kernel, by decide +kernel⟩
theorem ycX8_isText : zLkC mX8_isText := ⟨rfl, zT_in 1372 (by decide +kernel) rfl⟩
theorem yvX8_isText : Cond.instanceMethod mX8_isText.1 ∈ zT := zT_in 1371 (by decide +kernel) rfl
theorem ywX8_isText : Cond.selects mX8_isText.1.cls mX8_isText.1 mX8_isText.1 ∈ zT := zT_in 31 (by decide +kernel) rfl
theorem yiX8_carries : Cond.initialized mX8_carries.1.cls ∈ zT ∧ plainName mX8_carries.1.cls = true ∧ (mX8_carries.1.cls ≠ "java/lang/invoke/MethodHandle" ∧ mX8_carries.1.cls ≠ "java/lang/invoke/VarHandle") ∧ (parseMethodDescriptor mX8_carries.1.desc).map (fun d => d.parameters.length) = some 1 := ⟨zT_in 50 (by decide +kernel) rfl, by decide +kernel, by decide +kernel, by decide +kernel⟩
theorem ycX8_carries : zLkC mX8_carries := ⟨rfl, zT_in 1392 (by decide +kernel) rfl⟩
theorem yvX8_carries : Cond.instanceMethod mX8_carries.1 ∈ zT := zT_in 1391 (by decide +kernel) rfl
theorem ywX8_carries : Cond.selects mX8_carries.1.cls mX8_carries.1 mX8_carries.1 ∈ zT := zT_in 36 (by decide +kernel) rfl
theorem yiX8_commands : Cond.initialized mX8_commands.1.cls ∈ zT ∧ plainName mX8_commands.1.cls = true ∧ (mX8_commands.1.cls ≠ "java/lang/invoke/MethodHandle" ∧ mX8_commands.1.cls ≠ "java/lang/invoke/VarHandle") ∧ (parseMethodDescriptor mX8_commands.1.desc).map (fun d => d.parameters.length) = some 0 := ⟨zT_in 50 (by decide +kernel) rfl, by decide +kernel, by decide +kernel, by decide +kernel⟩
theorem ycX8_commands : zLkC mX8_commands := ⟨rfl, zT_in 1368 (by decide +kernel) rfl⟩
theorem yvX8_commands : Cond.instanceMethod mX8_commands.1 ∈ zT := zT_in 1366 (by decide +kernel) rfl
theorem ywX8_commands : Cond.selects mX8_commands.1.cls mX8_commands.1 mX8_commands.1 ∈ zT := zT_in 1367 (by decide +kernel) rfl
theorem yiX8_faultPosition : Cond.initialized mX8_faultPosition.1.cls ∈ zT ∧ plainName mX8_faultPosition.1.cls = true ∧ (mX8_faultPosition.1.cls ≠ "java/lang/invoke/MethodHandle" ∧ mX8_faultPosition.1.cls ≠ "java/lang/invoke/VarHandle") ∧ (parseMethodDescriptor mX8_faultPosition.1.desc).map (fun d => d.parameters.length) = some 0 := ⟨zT_in 50 (by decide +kernel) rfl, by decide +kernel, by decide +kernel, by decide +kernel⟩
theorem ycX8_faultPosition : zLkC mX8_faultPosition := ⟨rfl, zT_in 1401 (by decide +kernel) rfl⟩
theorem yvX8_faultPosition : Cond.instanceMethod mX8_faultPosition.1 ∈ zT := zT_in 1399 (by decide +kernel) rfl
theorem ywX8_faultPosition : Cond.selects mX8_faultPosition.1.cls mX8_faultPosition.1 mX8_faultPosition.1 ∈ zT := zT_in 1400 (by decide +kernel) rfl
theorem yiX8_reason : Cond.initialized mX8_reason.1.cls ∈ zT ∧ plainName mX8_reason.1.cls = true ∧ (mX8_reason.1.cls ≠ "java/lang/invoke/MethodHandle" ∧ mX8_reason.1.cls ≠ "java/lang/invoke/VarHandle") ∧ (parseMethodDescriptor mX8_reason.1.desc).map (fun d => d.parameters.length) = some 1 := ⟨zT_in 50 (by decide +kernel) rfl, by decide +kernel, by decide +kernel, by decide +kernel⟩
theorem ycX8_reason : zLkC mX8_reason := ⟨rfl, zT_in 1405 (by decide +kernel) rfl⟩
theorem yvX8_reason : Cond.instanceMethod mX8_reason.1 ∈ zT := zT_in 1403 (by decide +kernel) rfl
theorem ywX8_reason : Cond.selects mX8_reason.1.cls mX8_reason.1 mX8_reason.1 ∈ zT := zT_in 1404 (by decide +kernel) rfl
theorem yiX8_writes : Cond.initialized mX8_writes.1.cls ∈ zT ∧ plainName mX8_writes.1.cls = true ∧ (mX8_writes.1.cls ≠ "java/lang/invoke/MethodHandle" ∧ mX8_writes.1.cls ≠ "java/lang/invoke/VarHandle") ∧ (parseMethodDescriptor mX8_writes.1.desc).map (fun d => d.parameters.length) = some 1 := ⟨zT_in 50 (by decide +kernel) rfl, by decide +kernel, by decide +kernel, by decide +kernel⟩
theorem ycX8_writes : zLkC mX8_writes := ⟨rfl, zT_in 1413 (by decide +kernel) rfl⟩
theorem yvX8_writes : Cond.instanceMethod mX8_writes.1 ∈ zT := zT_in 1412 (by decide +kernel) rfl
theorem ywX8_writes : Cond.selects mX8_writes.1.cls mX8_writes.1 mX8_writes.1 ∈ zT := zT_in 37 (by decide +kernel) rfl
theorem yiX8_writesNumber : Cond.initialized mX8_writesNumber.1.cls ∈ zT ∧ plainName mX8_writesNumber.1.cls = true ∧ (mX8_writesNumber.1.cls ≠ "java/lang/invoke/MethodHandle" ∧ mX8_writesNumber.1.cls ≠ "java/lang/invoke/VarHandle") ∧ (parseMethodDescriptor mX8_writesNumber.1.desc).map (fun d => d.parameters.length) = some 1 := ⟨zT_in 50 (by decide +kernel) rfl, by decide +kernel, by decide +kernel, by decide +kernel⟩
theorem ycX8_writesNumber : zLkC mX8_writesNumber := ⟨rfl, zT_in 1417 (by decide +kernel) rfl⟩
theorem yvX8_writesNumber : Cond.instanceMethod mX8_writesNumber.1 ∈ zT := zT_in 1416 (by decide +kernel) rfl
theorem ywX8_writesNumber : Cond.selects mX8_writesNumber.1.cls mX8_writesNumber.1 mX8_writesNumber.1 ∈ zT := zT_in 38 (by decide +kernel) rfl
theorem yiX8_line : Cond.initialized mX8_line.1.cls ∈ zT ∧ plainName mX8_line.1.cls = true ∧ (mX8_line.1.cls ≠ "java/lang/invoke/MethodHandle" ∧ mX8_line.1.cls ≠ "java/lang/invoke/VarHandle") ∧ (parseMethodDescriptor mX8_line.1.desc).map (fun d => d.parameters.length) = some 1 := ⟨zT_in 50 (by decide +kernel) rfl, by decide +kernel, by decide +kernel, by decide +kernel⟩
theorem ycX8_line : zLkC mX8_line := ⟨rfl, zT_in 1409 (by decide +kernel) rfl⟩
theorem yvX8_line : Cond.instanceMethod mX8_line.1 ∈ zT := zT_in 1407 (by decide +kernel) rfl
theorem ywX8_line : Cond.selects mX8_line.1.cls mX8_line.1 mX8_line.1 ∈ zT := zT_in 1408 (by decide +kernel) rfl
theorem yiX8_lineage : Cond.initialized mX8_lineage.1.cls ∈ zT ∧ plainName mX8_lineage.1.cls = true ∧ (mX8_lineage.1.cls ≠ "java/lang/invoke/MethodHandle" ∧ mX8_lineage.1.cls ≠ "java/lang/invoke/VarHandle") ∧ (parseMethodDescriptor mX8_lineage.1.desc).map (fun d => d.parameters.length) = some 1 := ⟨zT_in 50 (by decide +kernel) rfl, by decide +kernel, by decide +kernel, by decide +kernel⟩
theorem ycX8_lineage : zLkC mX8_lineage := ⟨rfl, zT_in 1421 (by decide +kernel) rfl⟩
theorem yvX8_lineage : Cond.instanceMethod mX8_lineage.1 ∈ zT := zT_in 1419 (by decide +kernel) rfl
theorem ywX8_lineage : Cond.selects mX8_lineage.1.cls mX8_lineage.1 mX8_lineage.1 ∈ zT := zT_in 1420 (by decide +kernel) rfl
theorem yiX8_character : Cond.initialized mX8_character.1.cls ∈ zT ∧ plainName mX8_character.1.cls = true ∧ (mX8_character.1.cls ≠ "java/lang/invoke/MethodHandle" ∧ mX8_character.1.cls ≠ "java/lang/invoke/VarHandle") ∧ (parseMethodDescriptor mX8_character.1.desc).map (fun d => d.parameters.length) = some 1 := ⟨zT_in 50 (by decide +kernel) rfl, by decide +kernel, by decide +kernel, by decide +kernel⟩
theorem ycX8_character : zLkC mX8_character := ⟨rfl, zT_in 1425 (by decide +kernel) rfl⟩
theorem yvX8_character : Cond.instanceMethod mX8_character.1 ∈ zT := zT_in 1423 (by decide +kernel) rfl
theorem ywX8_character : Cond.selects mX8_character.1.cls mX8_character.1 mX8_character.1 ∈ zT := zT_in 1424 (by decide +kernel) rfl
theorem yiX8_mean : Cond.initialized mX8_mean.1.cls ∈ zT ∧ plainName mX8_mean.1.cls = true ∧ (mX8_mean.1.cls ≠ "java/lang/invoke/MethodHandle" ∧ mX8_mean.1.cls ≠ "java/lang/invoke/VarHandle") ∧ (parseMethodDescriptor mX8_mean.1.desc).map (fun d => d.parameters.length) = some 1 := ⟨zT_in 50 (by decide +kernel) rfl, by decide +kernel, by decide +kernel, by decide +kernel⟩
theorem ycX8_mean : zLkC mX8_mean := ⟨rfl, zT_in 1429 (by decide +kernel) rfl⟩
theorem yvX8_mean : Cond.instanceMethod mX8_mean.1 ∈ zT := zT_in 1427 (by decide +kernel) rfl
theorem ywX8_mean : Cond.selects mX8_mean.1.cls mX8_mean.1 mX8_mean.1 ∈ zT := zT_in 1428 (by decide +kernel) rfl
theorem yiX8_allMade : Cond.initialized mX8_allMade.1.cls ∈ zT ∧ plainName mX8_allMade.1.cls = true ∧ (mX8_allMade.1.cls ≠ "java/lang/invoke/MethodHandle" ∧ mX8_allMade.1.cls ≠ "java/lang/invoke/VarHandle") ∧ (parseMethodDescriptor mX8_allMade.1.desc).map (fun d => d.parameters.length) = some 0 := ⟨zT_in 50 (by decide +kernel) rfl, by decide +kernel, by decide +kernel, by decide +kernel⟩
theorem ycX8_allMade : zLkC mX8_allMade := ⟨rfl, zT_in 1438 (by decide +kernel) rfl⟩
theorem yvX8_allMade : Cond.instanceMethod mX8_allMade.1 ∈ zT := zT_in 1437 (by decide +kernel) rfl
theorem ywX8_allMade : Cond.selects mX8_allMade.1.cls mX8_allMade.1 mX8_allMade.1 ∈ zT := zT_in 39 (by decide +kernel) rfl
theorem yiX8_spared : Cond.initialized mX8_spared.1.cls ∈ zT ∧ plainName mX8_spared.1.cls = true ∧ (mX8_spared.1.cls ≠ "java/lang/invoke/MethodHandle" ∧ mX8_spared.1.cls ≠ "java/lang/invoke/VarHandle") ∧ (parseMethodDescriptor mX8_spared.1.desc).map (fun d => d.parameters.length) = some 0 := ⟨zT_in 50 (by decide +kernel) rfl, by decide +kernel, by decide +kernel, by decide +kernel⟩
theorem ycX8_spared : zLkC mX8_spared := ⟨rfl, zT_in 1434 (by decide +kernel) rfl⟩
theorem yvX8_spared : Cond.instanceMethod mX8_spared.1 ∈ zT := zT_in 1432 (by decide +kernel) rfl
theorem ywX8_spared : Cond.selects mX8_spared.1.cls mX8_spared.1 mX8_spared.1 ∈ zT := zT_in 1433 (by decide +kernel) rfl
theorem yiX8_versionsThat : Cond.initialized mX8_versionsThat.1.cls ∈ zT ∧ plainName mX8_versionsThat.1.cls = true ∧ (mX8_versionsThat.1.cls ≠ "java/lang/invoke/MethodHandle" ∧ mX8_versionsThat.1.cls ≠ "java/lang/invoke/VarHandle") ∧ (parseMethodDescriptor mX8_versionsThat.1.desc).map (fun d => d.parameters.length) = some 1 := ⟨zT_in 50 (by decide +kernel) rfl, by decide +kernel, by decide +kernel, by decide +kernel⟩
theorem ycX8_versionsThat : zLkC mX8_versionsThat := ⟨rfl, zT_in 1446 (by decide +kernel) rfl⟩
theorem yvX8_versionsThat : Cond.instanceMethod mX8_versionsThat.1 ∈ zT := zT_in 1445 (by decide +kernel) rfl
theorem ywX8_versionsThat : Cond.selects mX8_versionsThat.1.cls mX8_versionsThat.1 mX8_versionsThat.1 ∈ zT := zT_in 40 (by decide +kernel) rfl
theorem yiX8_account : Cond.initialized mX8_account.1.cls ∈ zT ∧ plainName mX8_account.1.cls = true ∧ (mX8_account.1.cls ≠ "java/lang/invoke/MethodHandle" ∧ mX8_account.1.cls ≠ "java/lang/invoke/VarHandle") ∧ (parseMethodDescriptor mX8_account.1.desc).map (fun d => d.parameters.length) = some 1 := ⟨zT_in 50 (by decide +kernel) rfl, by decide +kernel, by decide +kernel, by decide +kernel⟩
theorem ycX8_account : zLkC mX8_account := ⟨rfl, zT_in 1442 (by decide +kernel) rfl⟩
theorem yvX8_account : Cond.instanceMethod mX8_account.1 ∈ zT := zT_in 1440 (by decide +kernel) rfl
theorem ywX8_account : Cond.selects mX8_account.1.cls mX8_account.1 mX8_account.1 ∈ zT := zT_in 1441 (by decide +kernel) rfl
theorem yiX8_undo : Cond.initialized mX8_undo.1.cls ∈ zT ∧ plainName mX8_undo.1.cls = true ∧ (mX8_undo.1.cls ≠ "java/lang/invoke/MethodHandle" ∧ mX8_undo.1.cls ≠ "java/lang/invoke/VarHandle") ∧ (parseMethodDescriptor mX8_undo.1.desc).map (fun d => d.parameters.length) = some 0 := ⟨zT_in 50 (by decide +kernel) rfl, by decide +kernel, by decide +kernel, by decide +kernel⟩
theorem ycX8_undo : zLkC mX8_undo := ⟨rfl, zT_in 1450 (by decide +kernel) rfl⟩
theorem yvX8_undo : Cond.instanceMethod mX8_undo.1 ∈ zT := zT_in 1448 (by decide +kernel) rfl
theorem ywX8_undo : Cond.selects mX8_undo.1.cls mX8_undo.1 mX8_undo.1 ∈ zT := zT_in 1449 (by decide +kernel) rfl
theorem yiX8_save : Cond.initialized mX8_save.1.cls ∈ zT ∧ plainName mX8_save.1.cls = true ∧ (mX8_save.1.cls ≠ "java/lang/invoke/MethodHandle" ∧ mX8_save.1.cls ≠ "java/lang/invoke/VarHandle") ∧ (parseMethodDescriptor mX8_save.1.desc).map (fun d => d.parameters.length) = some 0 := ⟨zT_in 50 (by decide +kernel) rfl, by decide +kernel, by decide +kernel, by decide +kernel⟩
theorem ycX8_save : zLkC mX8_save := ⟨rfl, zT_in 1454 (by decide +kernel) rfl⟩
theorem yvX8_save : Cond.instanceMethod mX8_save.1 ∈ zT := zT_in 1452 (by decide +kernel) rfl
theorem ywX8_save : Cond.selects mX8_save.1.cls mX8_save.1 mX8_save.1 ∈ zT := zT_in 1453 (by decide +kernel) rfl
theorem yiX8_restore : Cond.initialized mX8_restore.1.cls ∈ zT ∧ plainName mX8_restore.1.cls = true ∧ (mX8_restore.1.cls ≠ "java/lang/invoke/MethodHandle" ∧ mX8_restore.1.cls ≠ "java/lang/invoke/VarHandle") ∧ (parseMethodDescriptor mX8_restore.1.desc).map (fun d => d.parameters.length) = some 0 := ⟨zT_in 50 (by decide +kernel) rfl, by decide +kernel, by decide +kernel, by decide +kernel⟩
theorem ycX8_restore : zLkC mX8_restore := ⟨rfl, zT_in 1458 (by decide +kernel) rfl⟩
theorem yvX8_restore : Cond.instanceMethod mX8_restore.1 ∈ zT := zT_in 1456 (by decide +kernel) rfl
theorem ywX8_restore : Cond.selects mX8_restore.1.cls mX8_restore.1 mX8_restore.1 ∈ zT := zT_in 1457 (by decide +kernel) rfl
theorem yiJ0_length_8abf5 : Cond.initialized mJ0_length_8abf5.1.cls ∈ zT ∧ plainName mJ0_length_8abf5.1.cls = true ∧ (mJ0_length_8abf5.1.cls ≠ "java/lang/invoke/MethodHandle" ∧ mJ0_length_8abf5.1.cls ≠ "java/lang/invoke/VarHandle") ∧ (parseMethodDescriptor mJ0_length_8abf5.1.desc).map (fun d => d.parameters.length) = some 0 := ⟨zT_in 60 (by decide +kernel) rfl, by decide +kernel, by decide +kernel, by decide +kernel⟩
theorem ycJ0_length_8abf5 : zLkC mJ0_length_8abf5 := ⟨rfl, zT_in 900 (by decide +kernel) rfl⟩
theorem yvJ0_length_8abf5 : Cond.instanceMethod mJ0_length_8abf5.1 ∈ zT := zT_in 898 (by decide +kernel) rfl
theorem ywJ0_length_8abf5 : Cond.selects mJ0_length_8abf5.1.cls mJ0_length_8abf5.1 mJ0_length_8abf5.1 ∈ zT := zT_in 899 (by decide +kernel) rfl
theorem yiJ0_isEmpty_aae02 : Cond.initialized mJ0_isEmpty_aae02.1.cls ∈ zT ∧ plainName mJ0_isEmpty_aae02.1.cls = true ∧ (mJ0_isEmpty_aae02.1.cls ≠ "java/lang/invoke/MethodHandle" ∧ mJ0_isEmpty_aae02.1.cls ≠ "java/lang/invoke/VarHandle") ∧ (parseMethodDescriptor mJ0_isEmpty_aae02.1.desc).map (fun d => d.parameters.length) = some 0 := ⟨zT_in 60 (by decide +kernel) rfl, by decide +kernel, by decide +kernel, by decide +kernel⟩
theorem ycJ0_isEmpty_aae02 : zLkC mJ0_isEmpty_aae02 := ⟨rfl, zT_in 896 (by decide +kernel) rfl⟩
theorem yvJ0_isEmpty_aae02 : Cond.instanceMethod mJ0_isEmpty_aae02.1 ∈ zT := zT_in 894 (by decide +kernel) rfl
theorem ywJ0_isEmpty_aae02 : Cond.selects mJ0_isEmpty_aae02.1.cls mJ0_isEmpty_aae02.1 mJ0_isEmpty_aae02.1 ∈ zT := zT_in 895 (by decide +kernel) rfl
theorem yiJ0_charAt_5068e : Cond.initialized mJ0_charAt_5068e.1.cls ∈ zT ∧ plainName mJ0_charAt_5068e.1.cls = true ∧ (mJ0_charAt_5068e.1.cls ≠ "java/lang/invoke/MethodHandle" ∧ mJ0_charAt_5068e.1.cls ≠ "java/lang/invoke/VarHandle") ∧ (parseMethodDescriptor mJ0_charAt_5068e.1.desc).map (fun d => d.parameters.length) = some 1 := ⟨zT_in 60 (by decide +kernel) rfl, by decide +kernel, by decide +kernel, by decide +kernel⟩
theorem ycJ0_charAt_5068e : zLkC mJ0_charAt_5068e := ⟨rfl, zT_in 910 (by decide +kernel) rfl⟩
theorem yvJ0_charAt_5068e : Cond.instanceMethod mJ0_charAt_5068e.1 ∈ zT := zT_in 908 (by decide +kernel) rfl
theorem ywJ0_charAt_5068e : Cond.selects mJ0_charAt_5068e.1.cls mJ0_charAt_5068e.1 mJ0_charAt_5068e.1 ∈ zT := zT_in 909 (by decide +kernel) rfl
theorem yiJ0_coder_7d493 : Cond.initialized mJ0_coder_7d493.1.cls ∈ zT ∧ plainName mJ0_coder_7d493.1.cls = true ∧ (mJ0_coder_7d493.1.cls ≠ "java/lang/invoke/MethodHandle" ∧ mJ0_coder_7d493.1.cls ≠ "java/lang/invoke/VarHandle") ∧ (parseMethodDescriptor mJ0_coder_7d493.1.desc).map (fun d => d.parameters.length) = some 0 := ⟨zT_in 60 (by decide +kernel) rfl, by decide +kernel, by decide +kernel, by decide +kernel⟩
theorem ycJ0_coder_7d493 : zLkC mJ0_coder_7d493 := ⟨rfl, zT_in 904 (by decide +kernel) rfl⟩
theorem yvJ0_coder_7d493 : Cond.instanceMethod mJ0_coder_7d493.1 ∈ zT := zT_in 902 (by decide +kernel) rfl
theorem ywJ0_coder_7d493 : Cond.selects mJ0_coder_7d493.1.cls mJ0_coder_7d493.1 mJ0_coder_7d493.1 ∈ zT := zT_in 903 (by decide +kernel) rfl
theorem yiJ0_isLatin1_aae02 : Cond.initialized mJ0_isLatin1_aae02.1.cls ∈ zT ∧ plainName mJ0_isLatin1_aae02.1.cls = true ∧ (mJ0_isLatin1_aae02.1.cls ≠ "java/lang/invoke/MethodHandle" ∧ mJ0_isLatin1_aae02.1.cls ≠ "java/lang/invoke/VarHandle") ∧ (parseMethodDescriptor mJ0_isLatin1_aae02.1.desc).map (fun d => d.parameters.length) = some 0 := ⟨zT_in 60 (by decide +kernel) rfl, by decide +kernel, by decide +kernel, by decide +kernel⟩
theorem ycJ0_isLatin1_aae02 : zLkC mJ0_isLatin1_aae02 := ⟨rfl, zT_in 914 (by decide +kernel) rfl⟩
theorem yvJ0_isLatin1_aae02 : Cond.instanceMethod mJ0_isLatin1_aae02.1 ∈ zT := zT_in 912 (by decide +kernel) rfl
theorem ywJ0_isLatin1_aae02 : Cond.selects mJ0_isLatin1_aae02.1.cls mJ0_isLatin1_aae02.1 mJ0_isLatin1_aae02.1 ∈ zT := zT_in 913 (by decide +kernel) rfl
theorem yiJ0_checkIndex_df160 : Cond.initialized mJ0_checkIndex_df160.1.cls ∈ zT ∧ plainName mJ0_checkIndex_df160.1.cls = true ∧ (mJ0_checkIndex_df160.1.cls ≠ "java/lang/invoke/MethodHandle" ∧ mJ0_checkIndex_df160.1.cls ≠ "java/lang/invoke/VarHandle") ∧ (parseMethodDescriptor mJ0_checkIndex_df160.1.desc).map (fun d => d.parameters.length) = some 2 := ⟨zT_in 60 (by decide +kernel) rfl, by decide +kernel, by decide +kernel, by decide +kernel⟩
theorem ycJ0_checkIndex_df160 : zLkC mJ0_checkIndex_df160 := ⟨rfl, zT_in 920 (by decide +kernel) rfl⟩
theorem ysJ0_checkIndex_df160 : Cond.static mJ0_checkIndex_df160.1 ∈ zT := zT_in 919 (by decide +kernel) rfl
theorem yiJ1_charAt_3b067 : Cond.initialized mJ1_charAt_3b067.1.cls ∈ zT ∧ plainName mJ1_charAt_3b067.1.cls = true ∧ (mJ1_charAt_3b067.1.cls ≠ "java/lang/invoke/MethodHandle" ∧ mJ1_charAt_3b067.1.cls ≠ "java/lang/invoke/VarHandle") ∧ (parseMethodDescriptor mJ1_charAt_3b067.1.desc).map (fun d => d.parameters.length) = some 2 := ⟨zT_in 61 (by decide +kernel) rfl, by decide +kernel, by decide +kernel, by decide +kernel⟩
theorem ycJ1_charAt_3b067 : zLkC mJ1_charAt_3b067 := ⟨rfl, zT_in 917 (by decide +kernel) rfl⟩
theorem ysJ1_charAt_3b067 : Cond.static mJ1_charAt_3b067.1 ∈ zT := zT_in 916 (by decide +kernel) rfl
theorem yiJ3_checkIndex_8e157 : Cond.initialized mJ3_checkIndex_8e157.1.cls ∈ zT ∧ plainName mJ3_checkIndex_8e157.1.cls = true ∧ (mJ3_checkIndex_8e157.1.cls ≠ "java/lang/invoke/MethodHandle" ∧ mJ3_checkIndex_8e157.1.cls ≠ "java/lang/invoke/VarHandle") ∧ (parseMethodDescriptor mJ3_checkIndex_8e157.1.desc).map (fun d => d.parameters.length) = some 3 := ⟨zT_in 62 (by decide +kernel) rfl, by decide +kernel, by decide +kernel, by decide +kernel⟩
theorem ycJ3_checkIndex_8e157 : zLkC mJ3_checkIndex_8e157 := ⟨rfl, zT_in 925 (by decide +kernel) rfl⟩
theorem ysJ3_checkIndex_8e157 : Cond.static mJ3_checkIndex_8e157.1 ∈ zT := zT_in 924 (by decide +kernel) rfl
theorem yiL_write : Cond.initialized mL_write.1.cls ∈ zT ∧ plainName mL_write.1.cls = true ∧ (mL_write.1.cls ≠ "java/lang/invoke/MethodHandle" ∧ mL_write.1.cls ≠ "java/lang/invoke/VarHandle") ∧ (parseMethodDescriptor mL_write.1.desc).map (fun d => d.parameters.length) = some 5 := ⟨zT_in 41 (by decide +kernel) rfl, by decide +kernel, by decide +kernel, by decide +kernel⟩
theorem ycL_write : Cond.codeWith mL_write.1 mL_write.2.1 mL_write.2.2.1 mL_write.2.2.2.1 mL_write.2.2.2.2.1 ∈ zT := zT_in 293 (by decide +kernel) rfl
theorem ysL_write : Cond.static mL_write.1 ∈ zT := zT_in 292 (by decide +kernel) rfl
theorem yiL_graft : Cond.initialized mL_graft.1.cls ∈ zT ∧ plainName mL_graft.1.cls = true ∧ (mL_graft.1.cls ≠ "java/lang/invoke/MethodHandle" ∧ mL_graft.1.cls ≠ "java/lang/invoke/VarHandle") ∧ (parseMethodDescriptor mL_graft.1.desc).map (fun d => d.parameters.length) = some 6 := ⟨zT_in 41 (by decide +kernel) rfl, by decide +kernel, by decide +kernel, by decide +kernel⟩
theorem ycL_graft : Cond.codeWith mL_graft.1 mL_graft.2.1 mL_graft.2.2.1 mL_graft.2.2.2.1 mL_graft.2.2.2.2.1 ∈ zT := zT_in 462 (by decide +kernel) rfl
theorem ysL_graft : Cond.static mL_graft.1 ∈ zT := zT_in 461 (by decide +kernel) rfl
theorem yiL_fork : Cond.initialized mL_fork.1.cls ∈ zT ∧ plainName mL_fork.1.cls = true ∧ (mL_fork.1.cls ≠ "java/lang/invoke/MethodHandle" ∧ mL_fork.1.cls ≠ "java/lang/invoke/VarHandle") ∧ (parseMethodDescriptor mL_fork.1.desc).map (fun d => d.parameters.length) = some 4 := ⟨zT_in 41 (by decide +kernel) rfl, by decide +kernel, by decide +kernel, by decide +kernel⟩
theorem ycL_fork : Cond.codeWith mL_fork.1 mL_fork.2.1 mL_fork.2.2.1 mL_fork.2.2.2.1 mL_fork.2.2.2.2.1 ∈ zT := zT_in 491 (by decide +kernel) rfl
theorem ysL_fork : Cond.static mL_fork.1 ∈ zT := zT_in 490 (by decide +kernel) rfl
theorem yiL_back : Cond.initialized mL_back.1.cls ∈ zT ∧ plainName mL_back.1.cls = true ∧ (mL_back.1.cls ≠ "java/lang/invoke/MethodHandle" ∧ mL_back.1.cls ≠ "java/lang/invoke/VarHandle") ∧ (parseMethodDescriptor mL_back.1.desc).map (fun d => d.parameters.length) = some 4 := ⟨zT_in 41 (by decide +kernel) rfl, by decide +kernel, by decide +kernel, by decide +kernel⟩
theorem ycL_back : Cond.codeWith mL_back.1 mL_back.2.1 mL_back.2.2.1 mL_back.2.2.2.1 mL_back.2.2.2.2.1 ∈ zT := zT_in 502 (by decide +kernel) rfl
theorem ysL_back : Cond.static mL_back.1 ∈ zT := zT_in 501 (by decide +kernel) rfl
theorem yiL_pass : Cond.initialized mL_pass.1.cls ∈ zT ∧ plainName mL_pass.1.cls = true ∧ (mL_pass.1.cls ≠ "java/lang/invoke/MethodHandle" ∧ mL_pass.1.cls ≠ "java/lang/invoke/VarHandle") ∧ (parseMethodDescriptor mL_pass.1.desc).map (fun d => d.parameters.length) = some 3 := ⟨zT_in 41 (by decide +kernel) rfl, by decide +kernel, by decide +kernel, by decide +kernel⟩
theorem ycL_pass : Cond.codeWith mL_pass.1 mL_pass.2.1 mL_pass.2.2.1 mL_pass.2.2.2.1 mL_pass.2.2.2.2.1 ∈ zT := zT_in 525 (by decide +kernel) rfl
theorem ysL_pass : Cond.static mL_pass.1 ∈ zT := zT_in 524 (by decide +kernel) rfl
theorem yiL_ledger : Cond.initialized mL_ledger.1.cls ∈ zT ∧ plainName mL_ledger.1.cls = true ∧ (mL_ledger.1.cls ≠ "java/lang/invoke/MethodHandle" ∧ mL_ledger.1.cls ≠ "java/lang/invoke/VarHandle") ∧ (parseMethodDescriptor mL_ledger.1.desc).map (fun d => d.parameters.length) = some 3 := ⟨zT_in 41 (by decide +kernel) rfl, by decide +kernel, by decide +kernel, by decide +kernel⟩
theorem ycL_ledger : Cond.codeWith mL_ledger.1 mL_ledger.2.1 mL_ledger.2.2.1 mL_ledger.2.2.2.1 mL_ledger.2.2.2.2.1 ∈ zT := zT_in 536 (by decide +kernel) rfl
theorem ysL_ledger : Cond.static mL_ledger.1 ∈ zT := zT_in 535 (by decide +kernel) rfl
theorem yiL_amount : Cond.initialized mL_amount.1.cls ∈ zT ∧ plainName mL_amount.1.cls = true ∧ (mL_amount.1.cls ≠ "java/lang/invoke/MethodHandle" ∧ mL_amount.1.cls ≠ "java/lang/invoke/VarHandle") ∧ (parseMethodDescriptor mL_amount.1.desc).map (fun d => d.parameters.length) = some 4 := ⟨zT_in 41 (by decide +kernel) rfl, by decide +kernel, by decide +kernel, by decide +kernel⟩
theorem ycL_amount : Cond.codeWith mL_amount.1 mL_amount.2.1 mL_amount.2.2.1 mL_amount.2.2.2.1 mL_amount.2.2.2.2.1 ∈ zT := zT_in 565 (by decide +kernel) rfl
theorem ysL_amount : Cond.static mL_amount.1 ∈ zT := zT_in 564 (by decide +kernel) rfl
theorem yiL_sum : Cond.initialized mL_sum.1.cls ∈ zT ∧ plainName mL_sum.1.cls = true ∧ (mL_sum.1.cls ≠ "java/lang/invoke/MethodHandle" ∧ mL_sum.1.cls ≠ "java/lang/invoke/VarHandle") ∧ (parseMethodDescriptor mL_sum.1.desc).map (fun d => d.parameters.length) = some 5 := ⟨zT_in 41 (by decide +kernel) rfl, by decide +kernel, by decide +kernel, by decide +kernel⟩
theorem ycL_sum : Cond.codeWith mL_sum.1 mL_sum.2.1 mL_sum.2.2.1 mL_sum.2.2.2.1 mL_sum.2.2.2.2.1 ∈ zT := zT_in 600 (by decide +kernel) rfl
theorem ysL_sum : Cond.static mL_sum.1 ∈ zT := zT_in 599 (by decide +kernel) rfl
theorem yiL_sumAgain : Cond.initialized mL_sumAgain.1.cls ∈ zT ∧ plainName mL_sumAgain.1.cls = true ∧ (mL_sumAgain.1.cls ≠ "java/lang/invoke/MethodHandle" ∧ mL_sumAgain.1.cls ≠ "java/lang/invoke/VarHandle") ∧ (parseMethodDescriptor mL_sumAgain.1.desc).map (fun d => d.parameters.length) = some 5 := ⟨zT_in 41 (by decide +kernel) rfl, by decide +kernel, by decide +kernel, by decide +kernel⟩
theorem ycL_sumAgain : Cond.codeWith mL_sumAgain.1 mL_sumAgain.2.1 mL_sumAgain.2.2.1 mL_sumAgain.2.2.2.1 mL_sumAgain.2.2.2.2.1 ∈ zT := zT_in 611 (by decide +kernel) rfl
theorem ysL_sumAgain : Cond.static mL_sumAgain.1 ∈ zT := zT_in 610 (by decide +kernel) rfl
theorem yiL_most : Cond.initialized mL_most.1.cls ∈ zT ∧ plainName mL_most.1.cls = true ∧ (mL_most.1.cls ≠ "java/lang/invoke/MethodHandle" ∧ mL_most.1.cls ≠ "java/lang/invoke/VarHandle") ∧ (parseMethodDescriptor mL_most.1.desc).map (fun d => d.parameters.length) = some 5 := ⟨zT_in 41 (by decide +kernel) rfl, by decide +kernel, by decide +kernel, by decide +kernel⟩
theorem ycL_most : Cond.codeWith mL_most.1 mL_most.2.1 mL_most.2.2.1 mL_most.2.2.2.1 mL_most.2.2.2.2.1 ∈ zT := zT_in 622 (by decide +kernel) rfl
theorem ysL_most : Cond.static mL_most.1 ∈ zT := zT_in 621 (by decide +kernel) rfl
theorem yiL_reached : Cond.initialized mL_reached.1.cls ∈ zT ∧ plainName mL_reached.1.cls = true ∧ (mL_reached.1.cls ≠ "java/lang/invoke/MethodHandle" ∧ mL_reached.1.cls ≠ "java/lang/invoke/VarHandle") ∧ (parseMethodDescriptor mL_reached.1.desc).map (fun d => d.parameters.length) = some 4 := ⟨zT_in 41 (by decide +kernel) rfl, by decide +kernel, by decide +kernel, by decide +kernel⟩
theorem ycL_reached : Cond.codeWith mL_reached.1 mL_reached.2.1 mL_reached.2.2.1 mL_reached.2.2.2.1 mL_reached.2.2.2.2.1 ∈ zT := zT_in 633 (by decide +kernel) rfl
theorem ysL_reached : Cond.static mL_reached.1 ∈ zT := zT_in 632 (by decide +kernel) rfl
theorem yiL_versionOf : Cond.initialized mL_versionOf.1.cls ∈ zT ∧ plainName mL_versionOf.1.cls = true ∧ (mL_versionOf.1.cls ≠ "java/lang/invoke/MethodHandle" ∧ mL_versionOf.1.cls ≠ "java/lang/invoke/VarHandle") ∧ (parseMethodDescriptor mL_versionOf.1.desc).map (fun d => d.parameters.length) = some 4 := ⟨zT_in 41 (by decide +kernel) rfl, by decide +kernel, by decide +kernel, by decide +kernel⟩
theorem ycL_versionOf : Cond.codeWith mL_versionOf.1 mL_versionOf.2.1 mL_versionOf.2.2.1 mL_versionOf.2.2.2.1 mL_versionOf.2.2.2.2.1 ∈ zT := zT_in 661 (by decide +kernel) rfl
theorem ysL_versionOf : Cond.static mL_versionOf.1 ∈ zT := zT_in 660 (by decide +kernel) rfl
theorem yiL_maker : Cond.initialized mL_maker.1.cls ∈ zT ∧ plainName mL_maker.1.cls = true ∧ (mL_maker.1.cls ≠ "java/lang/invoke/MethodHandle" ∧ mL_maker.1.cls ≠ "java/lang/invoke/VarHandle") ∧ (parseMethodDescriptor mL_maker.1.desc).map (fun d => d.parameters.length) = some 4 := ⟨zT_in 41 (by decide +kernel) rfl, by decide +kernel, by decide +kernel, by decide +kernel⟩
theorem ycL_maker : Cond.codeWith mL_maker.1 mL_maker.2.1 mL_maker.2.2.1 mL_maker.2.2.2.1 mL_maker.2.2.2.2.1 ∈ zT := zT_in 690 (by decide +kernel) rfl
theorem ysL_maker : Cond.static mL_maker.1 ∈ zT := zT_in 689 (by decide +kernel) rfl
theorem yiL_had : Cond.initialized mL_had.1.cls ∈ zT ∧ plainName mL_had.1.cls = true ∧ (mL_had.1.cls ≠ "java/lang/invoke/MethodHandle" ∧ mL_had.1.cls ≠ "java/lang/invoke/VarHandle") ∧ (parseMethodDescriptor mL_had.1.desc).map (fun d => d.parameters.length) = some 4 := ⟨zT_in 41 (by decide +kernel) rfl, by decide +kernel, by decide +kernel, by decide +kernel⟩
theorem ycL_had : Cond.codeWith mL_had.1 mL_had.2.1 mL_had.2.2.1 mL_had.2.2.2.1 mL_had.2.2.2.2.1 ∈ zT := zT_in 702 (by decide +kernel) rfl
theorem ysL_had : Cond.static mL_had.1 ∈ zT := zT_in 701 (by decide +kernel) rfl
theorem yiL_since : Cond.initialized mL_since.1.cls ∈ zT ∧ plainName mL_since.1.cls = true ∧ (mL_since.1.cls ≠ "java/lang/invoke/MethodHandle" ∧ mL_since.1.cls ≠ "java/lang/invoke/VarHandle") ∧ (parseMethodDescriptor mL_since.1.desc).map (fun d => d.parameters.length) = some 4 := ⟨zT_in 41 (by decide +kernel) rfl, by decide +kernel, by decide +kernel, by decide +kernel⟩
theorem ycL_since : Cond.codeWith mL_since.1 mL_since.2.1 mL_since.2.2.1 mL_since.2.2.2.1 mL_since.2.2.2.2.1 ∈ zT := zT_in 715 (by decide +kernel) rfl
theorem ysL_since : Cond.static mL_since.1 ∈ zT := zT_in 714 (by decide +kernel) rfl
theorem yiL_common : Cond.initialized mL_common.1.cls ∈ zT ∧ plainName mL_common.1.cls = true ∧ (mL_common.1.cls ≠ "java/lang/invoke/MethodHandle" ∧ mL_common.1.cls ≠ "java/lang/invoke/VarHandle") ∧ (parseMethodDescriptor mL_common.1.desc).map (fun d => d.parameters.length) = some 4 := ⟨zT_in 41 (by decide +kernel) rfl, by decide +kernel, by decide +kernel, by decide +kernel⟩
theorem ycL_common : Cond.codeWith mL_common.1 mL_common.2.1 mL_common.2.2.1 mL_common.2.2.2.1 mL_common.2.2.2.2.1 ∈ zT := zT_in 726 (by decide +kernel) rfl
theorem ysL_common : Cond.static mL_common.1 ∈ zT := zT_in 725 (by decide +kernel) rfl
theorem yiL_apart : Cond.initialized mL_apart.1.cls ∈ zT ∧ plainName mL_apart.1.cls = true ∧ (mL_apart.1.cls ≠ "java/lang/invoke/MethodHandle" ∧ mL_apart.1.cls ≠ "java/lang/invoke/VarHandle") ∧ (parseMethodDescriptor mL_apart.1.desc).map (fun d => d.parameters.length) = some 4 := ⟨zT_in 41 (by decide +kernel) rfl, by decide +kernel, by decide +kernel, by decide +kernel⟩
theorem ycL_apart : Cond.codeWith mL_apart.1 mL_apart.2.1 mL_apart.2.2.1 mL_apart.2.2.2.1 mL_apart.2.2.2.2.1 ∈ zT := zT_in 737 (by decide +kernel) rfl
theorem ysL_apart : Cond.static mL_apart.1 ∈ zT := zT_in 736 (by decide +kernel) rfl
theorem yiL_shared : Cond.initialized mL_shared.1.cls ∈ zT ∧ plainName mL_shared.1.cls = true ∧ (mL_shared.1.cls ≠ "java/lang/invoke/MethodHandle" ∧ mL_shared.1.cls ≠ "java/lang/invoke/VarHandle") ∧ (parseMethodDescriptor mL_shared.1.desc).map (fun d => d.parameters.length) = some 4 := ⟨zT_in 41 (by decide +kernel) rfl, by decide +kernel, by decide +kernel, by decide +kernel⟩
theorem ycL_shared : Cond.codeWith mL_shared.1 mL_shared.2.1 mL_shared.2.2.1 mL_shared.2.2.2.1 mL_shared.2.2.2.2.1 ∈ zT := zT_in 745 (by decide +kernel) rfl
theorem ysL_shared : Cond.static mL_shared.1 ∈ zT := zT_in 744 (by decide +kernel) rfl
theorem yiL_isOf : Cond.initialized mL_isOf.1.cls ∈ zT ∧ plainName mL_isOf.1.cls = true ∧ (mL_isOf.1.cls ≠ "java/lang/invoke/MethodHandle" ∧ mL_isOf.1.cls ≠ "java/lang/invoke/VarHandle") ∧ (parseMethodDescriptor mL_isOf.1.desc).map (fun d => d.parameters.length) = some 4 := ⟨zT_in 41 (by decide +kernel) rfl, by decide +kernel, by decide +kernel, by decide +kernel⟩
theorem ycL_isOf : Cond.codeWith mL_isOf.1 mL_isOf.2.1 mL_isOf.2.2.1 mL_isOf.2.2.2.1 mL_isOf.2.2.2.2.1 ∈ zT := zT_in 756 (by decide +kernel) rfl
theorem ysL_isOf : Cond.static mL_isOf.1 ∈ zT := zT_in 755 (by decide +kernel) rfl
theorem yiL_users : Cond.initialized mL_users.1.cls ∈ zT ∧ plainName mL_users.1.cls = true ∧ (mL_users.1.cls ≠ "java/lang/invoke/MethodHandle" ∧ mL_users.1.cls ≠ "java/lang/invoke/VarHandle") ∧ (parseMethodDescriptor mL_users.1.desc).map (fun d => d.parameters.length) = some 4 := ⟨zT_in 41 (by decide +kernel) rfl, by decide +kernel, by decide +kernel, by decide +kernel⟩
theorem ycL_users : Cond.codeWith mL_users.1 mL_users.2.1 mL_users.2.2.1 mL_users.2.2.2.1 mL_users.2.2.2.2.1 ∈ zT := zT_in 763 (by decide +kernel) rfl
theorem ysL_users : Cond.static mL_users.1 ∈ zT := zT_in 762 (by decide +kernel) rfl
theorem yiL_wouldMake : Cond.initialized mL_wouldMake.1.cls ∈ zT ∧ plainName mL_wouldMake.1.cls = true ∧ (mL_wouldMake.1.cls ≠ "java/lang/invoke/MethodHandle" ∧ mL_wouldMake.1.cls ≠ "java/lang/invoke/VarHandle") ∧ (parseMethodDescriptor mL_wouldMake.1.desc).map (fun d => d.parameters.length) = some 4 := ⟨zT_in 41 (by decide +kernel) rfl, by decide +kernel, by decide +kernel, by decide +kernel⟩
theorem ycL_wouldMake : Cond.codeWith mL_wouldMake.1 mL_wouldMake.2.1 mL_wouldMake.2.2.1 mL_wouldMake.2.2.2.1 mL_wouldMake.2.2.2.2.1 ∈ zT := zT_in 774 (by decide +kernel) rfl
theorem ysL_wouldMake : Cond.static mL_wouldMake.1 ∈ zT := zT_in 773 (by decide +kernel) rfl
theorem yiL_alike : Cond.initialized mL_alike.1.cls ∈ zT ∧ plainName mL_alike.1.cls = true ∧ (mL_alike.1.cls ≠ "java/lang/invoke/MethodHandle" ∧ mL_alike.1.cls ≠ "java/lang/invoke/VarHandle") ∧ (parseMethodDescriptor mL_alike.1.desc).map (fun d => d.parameters.length) = some 3 := ⟨zT_in 41 (by decide +kernel) rfl, by decide +kernel, by decide +kernel, by decide +kernel⟩
theorem ycL_alike : Cond.codeWith mL_alike.1 mL_alike.2.1 mL_alike.2.2.1 mL_alike.2.2.2.1 mL_alike.2.2.2.2.1 ∈ zT := zT_in 782 (by decide +kernel) rfl
theorem ysL_alike : Cond.static mL_alike.1 ∈ zT := zT_in 781 (by decide +kernel) rfl
theorem yiL_richest : Cond.initialized mL_richest.1.cls ∈ zT ∧ plainName mL_richest.1.cls = true ∧ (mL_richest.1.cls ≠ "java/lang/invoke/MethodHandle" ∧ mL_richest.1.cls ≠ "java/lang/invoke/VarHandle") ∧ (parseMethodDescriptor mL_richest.1.desc).map (fun d => d.parameters.length) = some 3 := ⟨zT_in 41 (by decide +kernel) rfl, by decide +kernel, by decide +kernel, by decide +kernel⟩
theorem ycL_richest : Cond.codeWith mL_richest.1 mL_richest.2.1 mL_richest.2.2.1 mL_richest.2.2.2.1 mL_richest.2.2.2.2.1 ∈ zT := zT_in 793 (by decide +kernel) rfl
theorem ysL_richest : Cond.static mL_richest.1 ∈ zT := zT_in 792 (by decide +kernel) rfl
theorem yiL_busiest : Cond.initialized mL_busiest.1.cls ∈ zT ∧ plainName mL_busiest.1.cls = true ∧ (mL_busiest.1.cls ≠ "java/lang/invoke/MethodHandle" ∧ mL_busiest.1.cls ≠ "java/lang/invoke/VarHandle") ∧ (parseMethodDescriptor mL_busiest.1.desc).map (fun d => d.parameters.length) = some 2 := ⟨zT_in 41 (by decide +kernel) rfl, by decide +kernel, by decide +kernel, by decide +kernel⟩
theorem ycL_busiest : Cond.codeWith mL_busiest.1 mL_busiest.2.1 mL_busiest.2.2.1 mL_busiest.2.2.2.1 mL_busiest.2.2.2.2.1 ∈ zT := zT_in 809 (by decide +kernel) rfl
theorem ysL_busiest : Cond.static mL_busiest.1 ∈ zT := zT_in 808 (by decide +kernel) rfl
theorem yiL_append : Cond.initialized mL_append.1.cls ∈ zT ∧ plainName mL_append.1.cls = true ∧ (mL_append.1.cls ≠ "java/lang/invoke/MethodHandle" ∧ mL_append.1.cls ≠ "java/lang/invoke/VarHandle") ∧ (parseMethodDescriptor mL_append.1.desc).map (fun d => d.parameters.length) = some 3 := ⟨zT_in 41 (by decide +kernel) rfl, by decide +kernel, by decide +kernel, by decide +kernel⟩
theorem ycL_append : Cond.codeWith mL_append.1 mL_append.2.1 mL_append.2.2.1 mL_append.2.2.2.1 mL_append.2.2.2.2.1 ∈ zT := zT_in 826 (by decide +kernel) rfl
theorem ysL_append : Cond.static mL_append.1 ∈ zT := zT_in 825 (by decide +kernel) rfl
theorem yiL_commands : Cond.initialized mL_commands.1.cls ∈ zT ∧ plainName mL_commands.1.cls = true ∧ (mL_commands.1.cls ≠ "java/lang/invoke/MethodHandle" ∧ mL_commands.1.cls ≠ "java/lang/invoke/VarHandle") ∧ (parseMethodDescriptor mL_commands.1.desc).map (fun d => d.parameters.length) = some 2 := ⟨zT_in 41 (by decide +kernel) rfl, by decide +kernel, by decide +kernel, by decide +kernel⟩
theorem ycL_commands : Cond.codeWith mL_commands.1 mL_commands.2.1 mL_commands.2.2.1 mL_commands.2.2.2.1 mL_commands.2.2.2.2.1 ∈ zT := zT_in 863 (by decide +kernel) rfl
theorem ysL_commands : Cond.static mL_commands.1 ∈ zT := zT_in 862 (by decide +kernel) rfl
theorem yiL_reason : Cond.initialized mL_reason.1.cls ∈ zT ∧ plainName mL_reason.1.cls = true ∧ (mL_reason.1.cls ≠ "java/lang/invoke/MethodHandle" ∧ mL_reason.1.cls ≠ "java/lang/invoke/VarHandle") ∧ (parseMethodDescriptor mL_reason.1.desc).map (fun d => d.parameters.length) = some 3 := ⟨zT_in 41 (by decide +kernel) rfl, by decide +kernel, by decide +kernel, by decide +kernel⟩
theorem ycL_reason : Cond.codeWith mL_reason.1 mL_reason.2.1 mL_reason.2.2.1 mL_reason.2.2.2.1 mL_reason.2.2.2.2.1 ∈ zT := zT_in 983 (by decide +kernel) rfl
theorem ysL_reason : Cond.static mL_reason.1 ∈ zT := zT_in 982 (by decide +kernel) rfl
theorem yiL_line : Cond.initialized mL_line.1.cls ∈ zT ∧ plainName mL_line.1.cls = true ∧ (mL_line.1.cls ≠ "java/lang/invoke/MethodHandle" ∧ mL_line.1.cls ≠ "java/lang/invoke/VarHandle") ∧ (parseMethodDescriptor mL_line.1.desc).map (fun d => d.parameters.length) = some 3 := ⟨zT_in 41 (by decide +kernel) rfl, by decide +kernel, by decide +kernel, by decide +kernel⟩
theorem ycL_line : Cond.codeWith mL_line.1 mL_line.2.1 mL_line.2.2.1 mL_line.2.2.2.1 mL_line.2.2.2.2.1 ∈ zT := zT_in 992 (by decide +kernel) rfl
theorem ysL_line : Cond.static mL_line.1 ∈ zT := zT_in 991 (by decide +kernel) rfl
theorem yiL_lineage : Cond.initialized mL_lineage.1.cls ∈ zT ∧ plainName mL_lineage.1.cls = true ∧ (mL_lineage.1.cls ≠ "java/lang/invoke/MethodHandle" ∧ mL_lineage.1.cls ≠ "java/lang/invoke/VarHandle") ∧ (parseMethodDescriptor mL_lineage.1.desc).map (fun d => d.parameters.length) = some 3 := ⟨zT_in 41 (by decide +kernel) rfl, by decide +kernel, by decide +kernel, by decide +kernel⟩
theorem ycL_lineage : Cond.codeWith mL_lineage.1 mL_lineage.2.1 mL_lineage.2.2.1 mL_lineage.2.2.2.1 mL_lineage.2.2.2.2.1 ∈ zT := zT_in 1020 (by decide +kernel) rfl
theorem ysL_lineage : Cond.static mL_lineage.1 ∈ zT := zT_in 1019 (by decide +kernel) rfl
theorem yiL_character : Cond.initialized mL_character.1.cls ∈ zT ∧ plainName mL_character.1.cls = true ∧ (mL_character.1.cls ≠ "java/lang/invoke/MethodHandle" ∧ mL_character.1.cls ≠ "java/lang/invoke/VarHandle") ∧ (parseMethodDescriptor mL_character.1.desc).map (fun d => d.parameters.length) = some 3 := ⟨zT_in 41 (by decide +kernel) rfl, by decide +kernel, by decide +kernel, by decide +kernel⟩
theorem ycL_character : Cond.codeWith mL_character.1 mL_character.2.1 mL_character.2.2.1 mL_character.2.2.2.1 mL_character.2.2.2.2.1 ∈ zT := zT_in 1027 (by decide +kernel) rfl
theorem ysL_character : Cond.static mL_character.1 ∈ zT := zT_in 1026 (by decide +kernel) rfl
theorem yiL_mean : Cond.initialized mL_mean.1.cls ∈ zT ∧ plainName mL_mean.1.cls = true ∧ (mL_mean.1.cls ≠ "java/lang/invoke/MethodHandle" ∧ mL_mean.1.cls ≠ "java/lang/invoke/VarHandle") ∧ (parseMethodDescriptor mL_mean.1.desc).map (fun d => d.parameters.length) = some 3 := ⟨zT_in 41 (by decide +kernel) rfl, by decide +kernel, by decide +kernel, by decide +kernel⟩
theorem ycL_mean : Cond.codeWith mL_mean.1 mL_mean.2.1 mL_mean.2.2.1 mL_mean.2.2.2.1 mL_mean.2.2.2.2.1 ∈ zT := zT_in 1039 (by decide +kernel) rfl
theorem ysL_mean : Cond.static mL_mean.1 ∈ zT := zT_in 1038 (by decide +kernel) rfl
theorem yiL_account : Cond.initialized mL_account.1.cls ∈ zT ∧ plainName mL_account.1.cls = true ∧ (mL_account.1.cls ≠ "java/lang/invoke/MethodHandle" ∧ mL_account.1.cls ≠ "java/lang/invoke/VarHandle") ∧ (parseMethodDescriptor mL_account.1.desc).map (fun d => d.parameters.length) = some 3 := ⟨zT_in 41 (by decide +kernel) rfl, by decide +kernel, by decide +kernel, by decide +kernel⟩
theorem ycL_account : Cond.codeWith mL_account.1 mL_account.2.1 mL_account.2.2.1 mL_account.2.2.2.1 mL_account.2.2.2.2.1 ∈ zT := zT_in 1048 (by decide +kernel) rfl
theorem ysL_account : Cond.static mL_account.1 ∈ zT := zT_in 1047 (by decide +kernel) rfl
theorem yiL_undo : Cond.initialized mL_undo.1.cls ∈ zT ∧ plainName mL_undo.1.cls = true ∧ (mL_undo.1.cls ≠ "java/lang/invoke/MethodHandle" ∧ mL_undo.1.cls ≠ "java/lang/invoke/VarHandle") ∧ (parseMethodDescriptor mL_undo.1.desc).map (fun d => d.parameters.length) = some 2 := ⟨zT_in 41 (by decide +kernel) rfl, by decide +kernel, by decide +kernel, by decide +kernel⟩
theorem ycL_undo : Cond.codeWith mL_undo.1 mL_undo.2.1 mL_undo.2.2.1 mL_undo.2.2.2.1 mL_undo.2.2.2.2.1 ∈ zT := zT_in 1070 (by decide +kernel) rfl
theorem ysL_undo : Cond.static mL_undo.1 ∈ zT := zT_in 1069 (by decide +kernel) rfl
theorem yiL_restore : Cond.initialized mL_restore.1.cls ∈ zT ∧ plainName mL_restore.1.cls = true ∧ (mL_restore.1.cls ≠ "java/lang/invoke/MethodHandle" ∧ mL_restore.1.cls ≠ "java/lang/invoke/VarHandle") ∧ (parseMethodDescriptor mL_restore.1.desc).map (fun d => d.parameters.length) = some 2 := ⟨zT_in 41 (by decide +kernel) rfl, by decide +kernel, by decide +kernel, by decide +kernel⟩
theorem ycL_restore : Cond.codeWith mL_restore.1 mL_restore.2.1 mL_restore.2.2.1 mL_restore.2.2.2.1 mL_restore.2.2.2.2.1 ∈ zT := zT_in 1082 (by decide +kernel) rfl
theorem ysL_restore : Cond.static mL_restore.1 ∈ zT := zT_in 1081 (by decide +kernel) rfl
theorem zlX0_3 {M : zM} (h : M.1.cls = RX0) : Cond.methodLink M.1.cls 3 Lib.objectInit ∈ zT := by rw [h]; exact zT_in 83 (by decide +kernel) rfl
theorem lkX0_init_11 : zLkI mX0_init 11 mX6_init 0 := ⟨⟨yiX6_init.1, yiX6_init.2.1, yiX6_init.2.2.1, yiX6_init.2.2.2, by decide, by decide⟩, ycX6_init, zT_in 86 (by decide +kernel) rfl, yvX6_init, rfl, rfl⟩
theorem lkX0_copyFrom_32 : zLkV mX0_copyFrom 32 mX6_copyFrom 1 := ⟨⟨yiX6_copyFrom.1, yiX6_copyFrom.2.1, yiX6_copyFrom.2.2.1, yiX6_copyFrom.2.2.2, by decide, by decide⟩, ycX6_copyFrom, zT_in 283 (by decide +kernel) rfl, yvX6_copyFrom, ywX6_copyFrom⟩
theorem zlX0_36 {M : zM} (h : M.1.cls = RX0) : Cond.methodLink M.1.cls 36 arraycopyName ∈ zT := by rw [h]; exact zT_in 290 (by decide +kernel) rfl
theorem lkX0_noteIn_42 : zLkV mX0_noteIn 42 mX6_size 0 := ⟨⟨yiX6_size.1, yiX6_size.2.1, yiX6_size.2.2.1, yiX6_size.2.2.2, by decide, by decide⟩, ycX6_size, zT_in 307 (by decide +kernel) rfl, yvX6_size, ywX6_size⟩
theorem lkX0_returnTo_46 : zLkV mX0_returnTo 46 mX6_forgetFrom 1 := ⟨⟨yiX6_forgetFrom.1, yiX6_forgetFrom.2.1, yiX6_forgetFrom.2.2.1, yiX6_forgetFrom.2.2.2, by decide, by decide⟩, ycX6_forgetFrom, zT_in 381 (by decide +kernel) rfl, yvX6_forgetFrom, ywX6_forgetFrom⟩
theorem lkX0_ledgerOf_50 : zLkSN mX0_ledgerOf 50 mX7_isHouse 1 := ⟨⟨yiX7_isHouse.1, yiX7_isHouse.2.1, yiX7_isHouse.2.2.1, yiX7_isHouse.2.2.2, by decide, by decide⟩, ycX7_isHouse, ⟨"AbbeyLedgers", zNw_in 326 (by decide +kernel) rfl⟩, ysX7_isHouse⟩
theorem lkX0_giveLedger_50 : zLkSN mX0_giveLedger 50 mX7_isHouse 1 := ⟨⟨yiX7_isHouse.1, yiX7_isHouse.2.1, yiX7_isHouse.2.2.1, yiX7_isHouse.2.2.2, by decide, by decide⟩, ycX7_isHouse, ⟨"AbbeyLedgers", zNw_in 326 (by decide +kernel) rfl⟩, ysX7_isHouse⟩
theorem lkX0_giveLedger_54 : zLkV mX0_giveLedger 54 mX6_has 1 := ⟨⟨yiX6_has.1, yiX6_has.2.1, yiX6_has.2.2.1, yiX6_has.2.2.2, by decide, by decide⟩, ycX6_has, zT_in 368 (by decide +kernel) rfl, yvX6_has, ywX6_has⟩
theorem lkX0_housesWith_57 : zLkV mX0_housesWith 57 mX0_ledgerOf 1 := ⟨⟨yiX0_ledgerOf.1, yiX0_ledgerOf.2.1, yiX0_ledgerOf.2.2.1, yiX0_ledgerOf.2.2.2, by decide, by decide⟩, ycX0_ledgerOf, zT_in 686 (by decide +kernel) rfl, yvX0_ledgerOf, ywX0_ledgerOf⟩
theorem lkX0_versionsOfHouses_42 : zLkV mX0_versionsOfHouses 42 mX6_size 0 := ⟨⟨yiX6_size.1, yiX6_size.2.1, yiX6_size.2.2.1, yiX6_size.2.2.2, by decide, by decide⟩, ycX6_size, zT_in 307 (by decide +kernel) rfl, yvX6_size, ywX6_size⟩
theorem lkX0_versionsOfHouses_61 : zLkV mX0_versionsOfHouses 61 mX0_housesWith 1 := ⟨⟨yiX0_housesWith.1, yiX0_housesWith.2.1, yiX0_housesWith.2.2.1, yiX0_housesWith.2.2.2, by decide, by decide⟩, ycX0_housesWith, zT_in 1057 (by decide +kernel) rfl, yvX0_housesWith, ywX0_housesWith⟩
theorem zlX1_3 {M : zM} (h : M.1.cls = RX1) : Cond.methodLink M.1.cls 3 Lib.objectInit ∈ zT := by rw [h]; exact zT_in 77 (by decide +kernel) rfl
theorem lkX1_init_11 : zLkIN mX1_init 11 mX0_init 0 := ⟨⟨yiX0_init.1, yiX0_init.2.1, yiX0_init.2.2.1, yiX0_init.2.2.2, by decide, by decide⟩, ycX0_init, ⟨"AbbeyLedgers", zNw_in 80 (by decide +kernel) rfl⟩, yvX0_init, rfl, rfl⟩
theorem lkX1_init_20 : zLkIN mX1_init 20 mX4_init 0 := ⟨⟨yiX4_init.1, yiX4_init.2.1, yiX4_init.2.2.1, yiX4_init.2.2.2, by decide, by decide⟩, ycX4_init, ⟨"AbbeyLedgers", zNw_in 133 (by decide +kernel) rfl⟩, yvX4_init, rfl, rfl⟩
theorem lkX1_carryOut_30 : zLkV mX1_carryOut 30 mX2_number 1 := ⟨⟨yiX2_number.1, yiX2_number.2.1, yiX2_number.2.2.1, yiX2_number.2.2.2, by decide, by decide⟩, ycX2_number, zT_in 967 (by decide +kernel) rfl, yvX2_number, ywX2_number⟩
theorem lkX1_carryOut_36 : zLkV mX1_carryOut 36 mX2_kind 0 := ⟨⟨yiX2_kind.1, yiX2_kind.2.1, yiX2_kind.2.2.1, yiX2_kind.2.2.2, by decide, by decide⟩, ycX2_kind, zT_in 971 (by decide +kernel) rfl, yvX2_kind, ywX2_kind⟩
theorem lkX1_carryOut_40 : zLkV mX1_carryOut 40 mX1_enter 3 := ⟨⟨yiX1_enter.1, yiX1_enter.2.1, yiX1_enter.2.2.1, yiX1_enter.2.2.2, by decide, by decide⟩, ycX1_enter, zT_in 975 (by decide +kernel) rfl, yvX1_enter, ywX1_enter⟩
theorem lkX1_carryOut_44 : zLkV mX1_carryOut 44 mX1_copyLines 4 := ⟨⟨yiX1_copyLines.1, yiX1_copyLines.2.1, yiX1_copyLines.2.2.1, yiX1_copyLines.2.2.2, by decide, by decide⟩, ycX1_copyLines, zT_in 976 (by decide +kernel) rfl, yvX1_copyLines, ywX1_copyLines⟩
theorem lkX1_carryOut_48 : zLkV mX1_carryOut 48 mX1_takeOver 2 := ⟨⟨yiX1_takeOver.1, yiX1_takeOver.2.1, yiX1_takeOver.2.2.1, yiX1_takeOver.2.2.2, by decide, by decide⟩, ycX1_takeOver, zT_in 977 (by decide +kernel) rfl, yvX1_takeOver, ywX1_takeOver⟩
theorem lkX1_carryOut_52 : zLkV mX1_carryOut 52 mX1_goBack 2 := ⟨⟨yiX1_goBack.1, yiX1_goBack.2.1, yiX1_goBack.2.2.1, yiX1_goBack.2.2.2, by decide, by decide⟩, ycX1_goBack, zT_in 978 (by decide +kernel) rfl, yvX1_goBack, ywX1_goBack⟩
theorem lkX1_carryOut_55 : zLkV mX1_carryOut 55 mX1_letGoBy 1 := ⟨⟨yiX1_letGoBy.1, yiX1_letGoBy.2.1, yiX1_letGoBy.2.2.1, yiX1_letGoBy.2.2.2, by decide, by decide⟩, ycX1_letGoBy, zT_in 979 (by decide +kernel) rfl, yvX1_letGoBy, ywX1_letGoBy⟩
theorem lkX1_enter_58 : zLkSN mX1_enter 58 mX7_isHouse 1 := ⟨⟨yiX7_isHouse.1, yiX7_isHouse.2.1, yiX7_isHouse.2.2.1, yiX7_isHouse.2.2.2, by decide, by decide⟩, ycX7_isHouse, ⟨"AbbeyLedgers", zNw_in 312 (by decide +kernel) rfl⟩, ysX7_isHouse⟩
theorem lkX1_enter_62 : zLkSN mX1_enter 62 mX7_isLine 1 := ⟨⟨yiX7_isLine.1, yiX7_isLine.2.1, yiX7_isLine.2.2.1, yiX7_isLine.2.2.2, by decide, by decide⟩, ycX7_isLine, ⟨"AbbeyLedgers", zNw_in 315 (by decide +kernel) rfl⟩, ysX7_isLine⟩
theorem lkX1_enter_65 : zLkV mX1_enter 65 mX4_refuse 2 := ⟨⟨yiX4_refuse.1, yiX4_refuse.2.1, yiX4_refuse.2.2.1, yiX4_refuse.2.2.2, by decide, by decide⟩, ycX4_refuse, zT_in 318 (by decide +kernel) rfl, yvX4_refuse, ywX4_refuse⟩
theorem lkX1_enter_68 : zLkV mX1_enter 68 mX0_ledgerOf 1 := ⟨⟨yiX0_ledgerOf.1, yiX0_ledgerOf.2.1, yiX0_ledgerOf.2.2.1, yiX0_ledgerOf.2.2.2, by decide, by decide⟩, ycX0_ledgerOf, zT_in 322 (by decide +kernel) rfl, yvX0_ledgerOf, ywX0_ledgerOf⟩
theorem lkX1_enter_71 : zLkV mX1_enter 71 mX6_amountOn 2 := ⟨⟨yiX6_amountOn.1, yiX6_amountOn.2.1, yiX6_amountOn.2.2.1, yiX6_amountOn.2.2.2, by decide, by decide⟩, ycX6_amountOn, zT_in 327 (by decide +kernel) rfl, yvX6_amountOn, ywX6_amountOn⟩
theorem lkX1_enter_76 : zLkV mX1_enter 76 mX6_isFull 0 := ⟨⟨yiX6_isFull.1, yiX6_isFull.2.1, yiX6_isFull.2.2.1, yiX6_isFull.2.2.2, by decide, by decide⟩, ycX6_isFull, zT_in 335 (by decide +kernel) rfl, yvX6_isFull, ywX6_isFull⟩
theorem lkX1_enter_84 : zLkV mX1_enter 84 mX6_addWritten 4 := ⟨⟨yiX6_addWritten.1, yiX6_addWritten.2.1, yiX6_addWritten.2.2.1, yiX6_addWritten.2.2.2, by decide, by decide⟩, ycX6_addWritten, zT_in 339 (by decide +kernel) rfl, yvX6_addWritten, ywX6_addWritten⟩
theorem lkX1_enter_87 : zLkV mX1_enter 87 mX0_giveLedger 2 := ⟨⟨yiX0_giveLedger.1, yiX0_giveLedger.2.1, yiX0_giveLedger.2.2.1, yiX0_giveLedger.2.2.2, by decide, by decide⟩, ycX0_giveLedger, zT_in 364 (by decide +kernel) rfl, yvX0_giveLedger, ywX0_giveLedger⟩
theorem lkX1_copyLines_58 : zLkSN mX1_copyLines 58 mX7_isHouse 1 := ⟨⟨yiX7_isHouse.1, yiX7_isHouse.2.1, yiX7_isHouse.2.2.1, yiX7_isHouse.2.2.2, by decide, by decide⟩, ycX7_isHouse, ⟨"AbbeyLedgers", zNw_in 312 (by decide +kernel) rfl⟩, ysX7_isHouse⟩
theorem lkX1_copyLines_62 : zLkSN mX1_copyLines 62 mX7_isLine 1 := ⟨⟨yiX7_isLine.1, yiX7_isLine.2.1, yiX7_isLine.2.2.1, yiX7_isLine.2.2.2, by decide, by decide⟩, ycX7_isLine, ⟨"AbbeyLedgers", zNw_in 315 (by decide +kernel) rfl⟩, ysX7_isLine⟩
theorem lkX1_copyLines_65 : zLkV mX1_copyLines 65 mX4_refuse 2 := ⟨⟨yiX4_refuse.1, yiX4_refuse.2.1, yiX4_refuse.2.2.1, yiX4_refuse.2.2.2, by decide, by decide⟩, ycX4_refuse, zT_in 318 (by decide +kernel) rfl, yvX4_refuse, ywX4_refuse⟩
theorem lkX1_copyLines_94 : zLkV mX1_copyLines 94 mX6_has 1 := ⟨⟨yiX6_has.1, yiX6_has.2.1, yiX6_has.2.2.1, yiX6_has.2.2.2, by decide, by decide⟩, ycX6_has, zT_in 471 (by decide +kernel) rfl, yvX6_has, ywX6_has⟩
theorem lkX1_copyLines_97 : zLkV mX1_copyLines 97 mX6_size 0 := ⟨⟨yiX6_size.1, yiX6_size.2.1, yiX6_size.2.2.1, yiX6_size.2.2.2, by decide, by decide⟩, ycX6_size, zT_in 472 (by decide +kernel) rfl, yvX6_size, ywX6_size⟩
theorem lkX1_copyLines_68 : zLkV mX1_copyLines 68 mX0_ledgerOf 1 := ⟨⟨yiX0_ledgerOf.1, yiX0_ledgerOf.2.1, yiX0_ledgerOf.2.2.1, yiX0_ledgerOf.2.2.2, by decide, by decide⟩, ycX0_ledgerOf, zT_in 322 (by decide +kernel) rfl, yvX0_ledgerOf, ywX0_ledgerOf⟩
theorem lkX1_copyLines_101 : zLkV mX1_copyLines 101 mX6_linesApart 4 := ⟨⟨yiX6_linesApart.1, yiX6_linesApart.2.1, yiX6_linesApart.2.2.1, yiX6_linesApart.2.2.2, by decide, by decide⟩, ycX6_linesApart, zT_in 473 (by decide +kernel) rfl, yvX6_linesApart, ywX6_linesApart⟩
theorem lkX1_copyLines_76 : zLkV mX1_copyLines 76 mX6_isFull 0 := ⟨⟨yiX6_isFull.1, yiX6_isFull.2.1, yiX6_isFull.2.2.1, yiX6_isFull.2.2.2, by decide, by decide⟩, ycX6_isFull, zT_in 335 (by decide +kernel) rfl, yvX6_isFull, ywX6_isFull⟩
theorem lkX1_copyLines_104 : zLkV mX1_copyLines 104 mX6_addGrafted 5 := ⟨⟨yiX6_addGrafted.1, yiX6_addGrafted.2.1, yiX6_addGrafted.2.2.1, yiX6_addGrafted.2.2.2, by decide, by decide⟩, ycX6_addGrafted, zT_in 478 (by decide +kernel) rfl, yvX6_addGrafted, ywX6_addGrafted⟩
theorem lkX1_copyLines_87 : zLkV mX1_copyLines 87 mX0_giveLedger 2 := ⟨⟨yiX0_giveLedger.1, yiX0_giveLedger.2.1, yiX0_giveLedger.2.2.1, yiX0_giveLedger.2.2.2, by decide, by decide⟩, ycX0_giveLedger, zT_in 364 (by decide +kernel) rfl, yvX0_giveLedger, ywX0_giveLedger⟩
theorem lkX1_takeOver_58 : zLkSN mX1_takeOver 58 mX7_isHouse 1 := ⟨⟨yiX7_isHouse.1, yiX7_isHouse.2.1, yiX7_isHouse.2.2.1, yiX7_isHouse.2.2.2, by decide, by decide⟩, ycX7_isHouse, ⟨"AbbeyLedgers", zNw_in 312 (by decide +kernel) rfl⟩, ysX7_isHouse⟩
theorem lkX1_takeOver_65 : zLkV mX1_takeOver 65 mX4_refuse 2 := ⟨⟨yiX4_refuse.1, yiX4_refuse.2.1, yiX4_refuse.2.2.1, yiX4_refuse.2.2.2, by decide, by decide⟩, ycX4_refuse, zT_in 318 (by decide +kernel) rfl, yvX4_refuse, ywX4_refuse⟩
theorem lkX1_takeOver_68 : zLkV mX1_takeOver 68 mX0_ledgerOf 1 := ⟨⟨yiX0_ledgerOf.1, yiX0_ledgerOf.2.1, yiX0_ledgerOf.2.2.1, yiX0_ledgerOf.2.2.2, by decide, by decide⟩, ycX0_ledgerOf, zT_in 322 (by decide +kernel) rfl, yvX0_ledgerOf, ywX0_ledgerOf⟩
theorem lkX1_takeOver_87 : zLkV mX1_takeOver 87 mX0_giveLedger 2 := ⟨⟨yiX0_giveLedger.1, yiX0_giveLedger.2.1, yiX0_giveLedger.2.2.1, yiX0_giveLedger.2.2.2, by decide, by decide⟩, ycX0_giveLedger, zT_in 364 (by decide +kernel) rfl, yvX0_giveLedger, ywX0_giveLedger⟩
theorem lkX1_goBack_58 : zLkSN mX1_goBack 58 mX7_isHouse 1 := ⟨⟨yiX7_isHouse.1, yiX7_isHouse.2.1, yiX7_isHouse.2.2.1, yiX7_isHouse.2.2.2, by decide, by decide⟩, ycX7_isHouse, ⟨"AbbeyLedgers", zNw_in 312 (by decide +kernel) rfl⟩, ysX7_isHouse⟩
theorem lkX1_goBack_65 : zLkV mX1_goBack 65 mX4_refuse 2 := ⟨⟨yiX4_refuse.1, yiX4_refuse.2.1, yiX4_refuse.2.2.1, yiX4_refuse.2.2.2, by decide, by decide⟩, ycX4_refuse, zT_in 318 (by decide +kernel) rfl, yvX4_refuse, ywX4_refuse⟩
theorem lkX1_goBack_68 : zLkV mX1_goBack 68 mX0_ledgerOf 1 := ⟨⟨yiX0_ledgerOf.1, yiX0_ledgerOf.2.1, yiX0_ledgerOf.2.2.1, yiX0_ledgerOf.2.2.2, by decide, by decide⟩, ycX0_ledgerOf, zT_in 322 (by decide +kernel) rfl, yvX0_ledgerOf, ywX0_ledgerOf⟩
theorem lkX1_goBack_111 : zLkV mX1_goBack 111 mX6_ancestorsOf 1 := ⟨⟨yiX6_ancestorsOf.1, yiX6_ancestorsOf.2.1, yiX6_ancestorsOf.2.2.1, yiX6_ancestorsOf.2.2.2, by decide, by decide⟩, ycX6_ancestorsOf, zT_in 511 (by decide +kernel) rfl, yvX6_ancestorsOf, ywX6_ancestorsOf⟩
theorem lkX1_goBack_114 : zLkV mX1_goBack 114 mX6_earlier 2 := ⟨⟨yiX6_earlier.1, yiX6_earlier.2.1, yiX6_earlier.2.2.1, yiX6_earlier.2.2.2, by decide, by decide⟩, ycX6_earlier, zT_in 519 (by decide +kernel) rfl, yvX6_earlier, ywX6_earlier⟩
theorem lkX1_goBack_87 : zLkV mX1_goBack 87 mX0_giveLedger 2 := ⟨⟨yiX0_giveLedger.1, yiX0_giveLedger.2.1, yiX0_giveLedger.2.2.1, yiX0_giveLedger.2.2.2, by decide, by decide⟩, ycX0_giveLedger, zT_in 364 (by decide +kernel) rfl, yvX0_giveLedger, ywX0_giveLedger⟩
theorem lkX1_letGoBy_65 : zLkV mX1_letGoBy 65 mX4_refuse 2 := ⟨⟨yiX4_refuse.1, yiX4_refuse.2.1, yiX4_refuse.2.2.1, yiX4_refuse.2.2.2, by decide, by decide⟩, ycX4_refuse, zT_in 318 (by decide +kernel) rfl, yvX4_refuse, ywX4_refuse⟩
theorem zlX2_3 {M : zM} (h : M.1.cls = RX2) : Cond.methodLink M.1.cls 3 Lib.objectInit ∈ zT := by rw [h]; exact zT_in 182 (by decide +kernel) rfl
theorem lkX2_put_30 : zLkV mX2_put 30 mX2_isFull 0 := ⟨⟨yiX2_isFull.1, yiX2_isFull.2.1, yiX2_isFull.2.2.1, yiX2_isFull.2.2.2, by decide, by decide⟩, ycX2_isFull, zT_in 856 (by decide +kernel) rfl, yvX2_isFull, ywX2_isFull⟩
theorem lkX2_findFault_34 : zLkV mX2_findFault 34 mX2_rewind 0 := ⟨⟨yiX2_rewind.1, yiX2_rewind.2.1, yiX2_rewind.2.2.1, yiX2_rewind.2.2.2, by decide, by decide⟩, ycX2_rewind, zT_in 872 (by decide +kernel) rfl, yvX2_rewind, ywX2_rewind⟩
theorem lkX2_findFault_37 : zLkV mX2_findFault 37 mX2_readCommand 0 := ⟨⟨yiX2_readCommand.1, yiX2_readCommand.2.1, yiX2_readCommand.2.2.1, yiX2_readCommand.2.2.2, by decide, by decide⟩, ycX2_readCommand, zT_in 876 (by decide +kernel) rfl, yvX2_readCommand, ywX2_readCommand⟩
theorem lkX2_findFault_40 : zLkV mX2_findFault 40 mX2_readSign 1 := ⟨⟨yiX2_readSign.1, yiX2_readSign.2.1, yiX2_readSign.2.2.1, yiX2_readSign.2.2.2, by decide, by decide⟩, ycX2_readSign, zT_in 952 (by decide +kernel) rfl, yvX2_readSign, ywX2_readSign⟩
theorem lkX2_readCommand_44 : zLkV mX2_readCommand 44 mX2_signAhead 0 := ⟨⟨yiX2_signAhead.1, yiX2_signAhead.2.1, yiX2_signAhead.2.2.1, yiX2_signAhead.2.2.2, by decide, by decide⟩, ycX2_signAhead, zT_in 880 (by decide +kernel) rfl, yvX2_signAhead, ywX2_signAhead⟩
theorem lkX2_readCommand_48 : zLkS mX2_readCommand 48 mX2_formOf 1 := ⟨⟨yiX2_formOf.1, yiX2_formOf.2.1, yiX2_formOf.2.2.1, yiX2_formOf.2.2.2, by decide, by decide⟩, ycX2_formOf, zT_in 884 (by decide +kernel) rfl, ysX2_formOf⟩
theorem lkX2_readCommand_52 : zLkV mX2_readCommand 52 mJ0_isEmpty_aae02 0 := ⟨⟨yiJ0_isEmpty_aae02.1, yiJ0_isEmpty_aae02.2.1, yiJ0_isEmpty_aae02.2.2.1, yiJ0_isEmpty_aae02.2.2.2, by decide, by decide⟩, ycJ0_isEmpty_aae02, zT_in 893 (by decide +kernel) rfl, yvJ0_isEmpty_aae02, ywJ0_isEmpty_aae02⟩
theorem lkX2_readCommand_57 : zLkV mX2_readCommand 57 mJ0_length_8abf5 0 := ⟨⟨yiJ0_length_8abf5.1, yiJ0_length_8abf5.2.1, yiJ0_length_8abf5.2.2.1, yiJ0_length_8abf5.2.2.2, by decide, by decide⟩, ycJ0_length_8abf5, zT_in 897 (by decide +kernel) rfl, yvJ0_length_8abf5, ywJ0_length_8abf5⟩
theorem lkX2_readCommand_60 : zLkV mX2_readCommand 60 mJ0_charAt_5068e 1 := ⟨⟨yiJ0_charAt_5068e.1, yiJ0_charAt_5068e.2.1, yiJ0_charAt_5068e.2.2.1, yiJ0_charAt_5068e.2.2.2, by decide, by decide⟩, ycJ0_charAt_5068e, zT_in 907 (by decide +kernel) rfl, yvJ0_charAt_5068e, ywJ0_charAt_5068e⟩
theorem lkX2_readCommand_64 : zLkSN mX2_readCommand 64 mX7_isDigit 1 := ⟨⟨yiX7_isDigit.1, yiX7_isDigit.2.1, yiX7_isDigit.2.2.1, yiX7_isDigit.2.2.2, by decide, by decide⟩, ycX7_isDigit, ⟨"AbbeyLedgers", zNw_in 945 (by decide +kernel) rfl⟩, ysX7_isDigit⟩
theorem lkX2_readCommand_67 : zLkV mX2_readCommand 67 mX2_readNumber 2 := ⟨⟨yiX2_readNumber.1, yiX2_readNumber.2.1, yiX2_readNumber.2.2.1, yiX2_readNumber.2.2.2, by decide, by decide⟩, ycX2_readNumber, zT_in 948 (by decide +kernel) rfl, yvX2_readNumber, ywX2_readNumber⟩
theorem lkX2_readCommand_40 : zLkV mX2_readCommand 40 mX2_readSign 1 := ⟨⟨yiX2_readSign.1, yiX2_readSign.2.1, yiX2_readSign.2.2.1, yiX2_readSign.2.2.2, by decide, by decide⟩, ycX2_readSign, zT_in 952 (by decide +kernel) rfl, yvX2_readSign, ywX2_readSign⟩
theorem lkX2_readSign_44 : zLkV mX2_readSign 44 mX2_signAhead 0 := ⟨⟨yiX2_signAhead.1, yiX2_signAhead.2.1, yiX2_signAhead.2.2.1, yiX2_signAhead.2.2.2, by decide, by decide⟩, ycX2_signAhead, zT_in 880 (by decide +kernel) rfl, yvX2_signAhead, ywX2_signAhead⟩
theorem lkX2_readNumber_44 : zLkV mX2_readNumber 44 mX2_signAhead 0 := ⟨⟨yiX2_signAhead.1, yiX2_signAhead.2.1, yiX2_signAhead.2.2.1, yiX2_signAhead.2.2.2, by decide, by decide⟩, ycX2_signAhead, zT_in 880 (by decide +kernel) rfl, yvX2_signAhead, ywX2_signAhead⟩
theorem lkX2_readNumber_64 : zLkSN mX2_readNumber 64 mX7_isDigit 1 := ⟨⟨yiX7_isDigit.1, yiX7_isDigit.2.1, yiX7_isDigit.2.2.1, yiX7_isDigit.2.2.2, by decide, by decide⟩, ycX7_isDigit, ⟨"AbbeyLedgers", zNw_in 945 (by decide +kernel) rfl⟩, ysX7_isDigit⟩
theorem zlX3_3 {M : zM} (h : M.1.cls = RX3) : Cond.methodLink M.1.cls 3 Lib.objectInit ∈ zT := by rw [h]; exact zT_in 169 (by decide +kernel) rfl
theorem lkX3_note_21 : zLkV mX3_note 21 mX0_noteIn 2 := ⟨⟨yiX0_noteIn.1, yiX0_noteIn.2.1, yiX0_noteIn.2.2.1, yiX0_noteIn.2.2.2, by decide, by decide⟩, ycX0_noteIn, zT_in 303 (by decide +kernel) rfl, yvX0_noteIn, ywX0_noteIn⟩
theorem lkX3_takeBack_25 : zLkV mX3_takeBack 25 mX0_returnTo 2 := ⟨⟨yiX0_returnTo.1, yiX0_returnTo.2.1, yiX0_returnTo.2.2.1, yiX0_returnTo.2.2.2, by decide, by decide⟩, ycX0_returnTo, zT_in 377 (by decide +kernel) rfl, yvX0_returnTo, ywX0_returnTo⟩
theorem zlX3_28 {M : zM} (h : M.1.cls = RX3) : Cond.methodLink M.1.cls 28 arraycopyName ∈ zT := by rw [h]; exact zT_in 459 (by decide +kernel) rfl
theorem zlX4_3 {M : zM} (h : M.1.cls = RX4) : Cond.methodLink M.1.cls 3 Lib.objectInit ∈ zT := by rw [h]; exact zT_in 136 (by decide +kernel) rfl
theorem zlX5_3 {M : zM} (h : M.1.cls = RX5) : Cond.methodLink M.1.cls 3 Lib.objectInit ∈ zT := by rw [h]; exact zT_in 205 (by decide +kernel) rfl
theorem lkX5_separate_19 : zLkV mX5_separate 19 mX5_put 1 := ⟨⟨yiX5_put.1, yiX5_put.2.1, yiX5_put.2.2.1, yiX5_put.2.2.2, by decide, by decide⟩, ycX5_put, zT_in 1005 (by decide +kernel) rfl, yvX5_put, ywX5_put⟩
theorem lkX5_putNumber_19 : zLkV mX5_putNumber 19 mX5_put 1 := ⟨⟨yiX5_put.1, yiX5_put.2.1, yiX5_put.2.2.1, yiX5_put.2.2.2, by decide, by decide⟩, ycX5_put, zT_in 1005 (by decide +kernel) rfl, yvX5_put, ywX5_put⟩
theorem zlX6_3 {M : zM} (h : M.1.cls = RX6) : Cond.methodLink M.1.cls 3 Lib.objectInit ∈ zT := by rw [h]; exact zT_in 89 (by decide +kernel) rfl
theorem zlX6_28 {M : zM} (h : M.1.cls = RX6) : Cond.methodLink M.1.cls 28 arraycopyName ∈ zT := by rw [h]; exact zT_in 287 (by decide +kernel) rfl
theorem lkX6_parentOf_34 : zLkV mX6_parentOf 34 mX6_has 1 := ⟨⟨yiX6_has.1, yiX6_has.2.1, yiX6_has.2.2.1, yiX6_has.2.2.2, by decide, by decide⟩, ycX6_has, zT_in 268 (by decide +kernel) rfl, yvX6_has, ywX6_has⟩
theorem lkX6_yearOf_34 : zLkV mX6_yearOf 34 mX6_has 1 := ⟨⟨yiX6_has.1, yiX6_has.2.1, yiX6_has.2.2.1, yiX6_has.2.2.2, by decide, by decide⟩, ycX6_has, zT_in 268 (by decide +kernel) rfl, yvX6_has, ywX6_has⟩
theorem lkX6_makerOf_34 : zLkV mX6_makerOf 34 mX6_has 1 := ⟨⟨yiX6_has.1, yiX6_has.2.1, yiX6_has.2.2.1, yiX6_has.2.2.2, by decide, by decide⟩, ycX6_has, zT_in 268 (by decide +kernel) rfl, yvX6_has, ywX6_has⟩
theorem lkX6_makerOf_38 : zLkSN mX6_makerOf 38 mX7_isSpan 1 := ⟨⟨yiX7_isSpan.1, yiX7_isSpan.2.1, yiX7_isSpan.2.2.1, yiX7_isSpan.2.2.2, by decide, by decide⟩, ycX7_isSpan, ⟨"AbbeyLedgers", zNw_in 272 (by decide +kernel) rfl⟩, ysX7_isSpan⟩
theorem lkX6_totalOf_34 : zLkV mX6_totalOf 34 mX6_has 1 := ⟨⟨yiX6_has.1, yiX6_has.2.1, yiX6_has.2.2.1, yiX6_has.2.2.2, by decide, by decide⟩, ycX6_has, zT_in 268 (by decide +kernel) rfl, yvX6_has, ywX6_has⟩
theorem lkX6_totalOf_38 : zLkSN mX6_totalOf 38 mX7_isSpan 1 := ⟨⟨yiX7_isSpan.1, yiX7_isSpan.2.1, yiX7_isSpan.2.2.1, yiX7_isSpan.2.2.2, by decide, by decide⟩, ycX7_isSpan, ⟨"AbbeyLedgers", zNw_in 272 (by decide +kernel) rfl⟩, ysX7_isSpan⟩
theorem lkX6_amountOn_41 : zLkV mX6_amountOn 41 mX6_totalOf 2 := ⟨⟨yiX6_totalOf.1, yiX6_totalOf.2.1, yiX6_totalOf.2.2.1, yiX6_totalOf.2.2.2, by decide, by decide⟩, ycX6_totalOf, zT_in 331 (by decide +kernel) rfl, yvX6_totalOf, ywX6_totalOf⟩
theorem lkX6_addWritten_45 : zLkV mX6_addWritten 45 mX6_addChild 2 := ⟨⟨yiX6_addChild.1, yiX6_addChild.2.1, yiX6_addChild.2.2.1, yiX6_addChild.2.2.2, by decide, by decide⟩, ycX6_addChild, zT_in 343 (by decide +kernel) rfl, yvX6_addChild, ywX6_addChild⟩
theorem lkX6_addWritten_48 : zLkV mX6_addWritten 48 mX6_makePage 3 := ⟨⟨yiX6_makePage.1, yiX6_makePage.2.1, yiX6_makePage.2.2.1, yiX6_makePage.2.2.2, by decide, by decide⟩, ycX6_makePage, zT_in 348 (by decide +kernel) rfl, yvX6_makePage, ywX6_makePage⟩
theorem lkX6_addWritten_52 : zLkSN mX6_addWritten 52 mX7_isCut 3 := ⟨⟨yiX7_isCut.1, yiX7_isCut.2.1, yiX7_isCut.2.2.1, yiX7_isCut.2.2.2, by decide, by decide⟩, ycX7_isCut, ⟨"AbbeyLedgers", zNw_in 352 (by decide +kernel) rfl⟩, ysX7_isCut⟩
theorem lkX6_addWritten_56 : zLkV mX6_addWritten 56 mX6_totalOfHalves 2 := ⟨⟨yiX6_totalOfHalves.1, yiX6_totalOfHalves.2.1, yiX6_totalOfHalves.2.2.1, yiX6_totalOfHalves.2.2.2, by decide, by decide⟩, ycX6_totalOfHalves, zT_in 360 (by decide +kernel) rfl, yvX6_totalOfHalves, ywX6_totalOfHalves⟩
theorem lkX6_addGrafted_45 : zLkV mX6_addGrafted 45 mX6_addChild 2 := ⟨⟨yiX6_addChild.1, yiX6_addChild.2.1, yiX6_addChild.2.2.1, yiX6_addChild.2.2.2, by decide, by decide⟩, ycX6_addChild, zT_in 343 (by decide +kernel) rfl, yvX6_addChild, ywX6_addChild⟩
theorem lkX6_addGrafted_59 : zLkSN mX6_addGrafted 59 mX7_isInside 3 := ⟨⟨yiX7_isInside.1, yiX7_isInside.2.1, yiX7_isInside.2.2.1, yiX7_isInside.2.2.2, by decide, by decide⟩, ycX7_isInside, ⟨"AbbeyLedgers", zNw_in 482 (by decide +kernel) rfl⟩, ysX7_isInside⟩
theorem lkX6_addGrafted_62 : zLkV mX6_addGrafted 62 mX6_takePage 3 := ⟨⟨yiX6_takePage.1, yiX6_takePage.2.1, yiX6_takePage.2.2.1, yiX6_takePage.2.2.2, by decide, by decide⟩, ycX6_takePage, zT_in 485 (by decide +kernel) rfl, yvX6_takePage, ywX6_takePage⟩
theorem lkX6_addGrafted_52 : zLkSN mX6_addGrafted 52 mX7_isCut 3 := ⟨⟨yiX7_isCut.1, yiX7_isCut.2.1, yiX7_isCut.2.2.1, yiX7_isCut.2.2.2, by decide, by decide⟩, ycX7_isCut, ⟨"AbbeyLedgers", zNw_in 352 (by decide +kernel) rfl⟩, ysX7_isCut⟩
theorem lkX6_addGrafted_56 : zLkV mX6_addGrafted 56 mX6_totalOfHalves 2 := ⟨⟨yiX6_totalOfHalves.1, yiX6_totalOfHalves.2.1, yiX6_totalOfHalves.2.2.1, yiX6_totalOfHalves.2.2.2, by decide, by decide⟩, ycX6_totalOfHalves, zT_in 360 (by decide +kernel) rfl, yvX6_totalOfHalves, ywX6_totalOfHalves⟩
theorem lkX6_addGrafted_48 : zLkV mX6_addGrafted 48 mX6_makePage 3 := ⟨⟨yiX6_makePage.1, yiX6_makePage.2.1, yiX6_makePage.2.2.1, yiX6_makePage.2.2.2, by decide, by decide⟩, ycX6_makePage, zT_in 348 (by decide +kernel) rfl, yvX6_makePage, ywX6_makePage⟩
theorem lkX6_addChild_65 : zLkV mX6_addChild 65 mX6_isFull 0 := ⟨⟨yiX6_isFull.1, yiX6_isFull.2.1, yiX6_isFull.2.2.1, yiX6_isFull.2.2.2, by decide, by decide⟩, ycX6_isFull, zT_in 347 (by decide +kernel) rfl, yvX6_isFull, ywX6_isFull⟩
theorem lkX6_addChild_34 : zLkV mX6_addChild 34 mX6_has 1 := ⟨⟨yiX6_has.1, yiX6_has.2.1, yiX6_has.2.2.1, yiX6_has.2.2.2, by decide, by decide⟩, ycX6_has, zT_in 268 (by decide +kernel) rfl, yvX6_has, ywX6_has⟩
theorem lkX6_makePage_34 : zLkV mX6_makePage 34 mX6_has 1 := ⟨⟨yiX6_has.1, yiX6_has.2.1, yiX6_has.2.2.1, yiX6_has.2.2.2, by decide, by decide⟩, ycX6_has, zT_in 268 (by decide +kernel) rfl, yvX6_has, ywX6_has⟩
theorem lkX6_makePage_38 : zLkSN mX6_makePage 38 mX7_isSpan 1 := ⟨⟨yiX7_isSpan.1, yiX7_isSpan.2.1, yiX7_isSpan.2.2.1, yiX7_isSpan.2.2.2, by decide, by decide⟩, ycX7_isSpan, ⟨"AbbeyLedgers", zNw_in 272 (by decide +kernel) rfl⟩, ysX7_isSpan⟩
theorem lkX6_takePage_34 : zLkV mX6_takePage 34 mX6_has 1 := ⟨⟨yiX6_has.1, yiX6_has.2.1, yiX6_has.2.2.1, yiX6_has.2.2.2, by decide, by decide⟩, ycX6_has, zT_in 268 (by decide +kernel) rfl, yvX6_has, ywX6_has⟩
theorem lkX6_takePage_38 : zLkSN mX6_takePage 38 mX7_isSpan 1 := ⟨⟨yiX7_isSpan.1, yiX7_isSpan.2.1, yiX7_isSpan.2.2.1, yiX7_isSpan.2.2.2, by decide, by decide⟩, ycX7_isSpan, ⟨"AbbeyLedgers", zNw_in 272 (by decide +kernel) rfl⟩, ysX7_isSpan⟩
theorem lkX6_totalOfHalves_41 : zLkV mX6_totalOfHalves 41 mX6_totalOf 2 := ⟨⟨yiX6_totalOf.1, yiX6_totalOf.2.1, yiX6_totalOf.2.2.1, yiX6_totalOf.2.2.2, by decide, by decide⟩, ycX6_totalOf, zT_in 331 (by decide +kernel) rfl, yvX6_totalOf, ywX6_totalOf⟩
theorem lkX6_sumByPages_59 : zLkSN mX6_sumByPages 59 mX7_isInside 3 := ⟨⟨yiX7_isInside.1, yiX7_isInside.2.1, yiX7_isInside.2.2.1, yiX7_isInside.2.2.2, by decide, by decide⟩, ycX7_isInside, ⟨"AbbeyLedgers", zNw_in 482 (by decide +kernel) rfl⟩, ysX7_isInside⟩
theorem lkX6_sumByPages_41 : zLkV mX6_sumByPages 41 mX6_totalOf 2 := ⟨⟨yiX6_totalOf.1, yiX6_totalOf.2.1, yiX6_totalOf.2.2.1, yiX6_totalOf.2.2.2, by decide, by decide⟩, ycX6_totalOf, zT_in 331 (by decide +kernel) rfl, yvX6_totalOf, ywX6_totalOf⟩
theorem lkX6_sumByLines_69 : zLkV mX6_sumByLines 69 mX6_amountOn 2 := ⟨⟨yiX6_amountOn.1, yiX6_amountOn.2.1, yiX6_amountOn.2.2.1, yiX6_amountOn.2.2.2, by decide, by decide⟩, ycX6_amountOn, zT_in 477 (by decide +kernel) rfl, yvX6_amountOn, ywX6_amountOn⟩
theorem lkX6_lineWithMost_69 : zLkV mX6_lineWithMost 69 mX6_amountOn 2 := ⟨⟨yiX6_amountOn.1, yiX6_amountOn.2.1, yiX6_amountOn.2.2.1, yiX6_amountOn.2.2.2, by decide, by decide⟩, ycX6_amountOn, zT_in 477 (by decide +kernel) rfl, yvX6_amountOn, ywX6_amountOn⟩
theorem lkX6_lineReaching_69 : zLkV mX6_lineReaching 69 mX6_amountOn 2 := ⟨⟨yiX6_amountOn.1, yiX6_amountOn.2.1, yiX6_amountOn.2.2.1, yiX6_amountOn.2.2.2, by decide, by decide⟩, ycX6_amountOn, zT_in 477 (by decide +kernel) rfl, yvX6_amountOn, ywX6_amountOn⟩
theorem lkX6_earlier_72 : zLkV mX6_earlier 72 mX6_parentOf 1 := ⟨⟨yiX6_parentOf.1, yiX6_parentOf.2.1, yiX6_parentOf.2.2.1, yiX6_parentOf.2.2.2, by decide, by decide⟩, ycX6_parentOf, zT_in 515 (by decide +kernel) rfl, yvX6_parentOf, ywX6_parentOf⟩
theorem lkX6_ancestorsOf_72 : zLkV mX6_ancestorsOf 72 mX6_parentOf 1 := ⟨⟨yiX6_parentOf.1, yiX6_parentOf.2.1, yiX6_parentOf.2.2.1, yiX6_parentOf.2.2.2, by decide, by decide⟩, ycX6_parentOf, zT_in 515 (by decide +kernel) rfl, yvX6_parentOf, ywX6_parentOf⟩
theorem lkX6_childrenOf_72 : zLkV mX6_childrenOf 72 mX6_parentOf 1 := ⟨⟨yiX6_parentOf.1, yiX6_parentOf.2.1, yiX6_parentOf.2.2.1, yiX6_parentOf.2.2.2, by decide, by decide⟩, ycX6_parentOf, zT_in 515 (by decide +kernel) rfl, yvX6_parentOf, ywX6_parentOf⟩
theorem lkX6_withoutChildren_76 : zLkV mX6_withoutChildren 76 mX6_childrenOf 1 := ⟨⟨yiX6_childrenOf.1, yiX6_childrenOf.2.1, yiX6_childrenOf.2.2.1, yiX6_childrenOf.2.2.2, by decide, by decide⟩, ycX6_childrenOf, zT_in 1062 (by decide +kernel) rfl, yvX6_childrenOf, ywX6_childrenOf⟩
theorem lkX6_pagesMadeBy_79 : zLkV mX6_pagesMadeBy 79 mX6_makerOf 2 := ⟨⟨yiX6_makerOf.1, yiX6_makerOf.2.1, yiX6_makerOf.2.2.1, yiX6_makerOf.2.2.2, by decide, by decide⟩, ycX6_makerOf, zT_in 264 (by decide +kernel) rfl, yvX6_makerOf, ywX6_makerOf⟩
theorem lkX6_pagesMade_82 : zLkV mX6_pagesMade 82 mX6_pagesMadeBy 1 := ⟨⟨yiX6_pagesMadeBy.1, yiX6_pagesMadeBy.2.1, yiX6_pagesMadeBy.2.2.1, yiX6_pagesMadeBy.2.2.2, by decide, by decide⟩, ycX6_pagesMadeBy, zT_in 260 (by decide +kernel) rfl, yvX6_pagesMadeBy, ywX6_pagesMadeBy⟩
theorem lkX6_linesNewIn_72 : zLkV mX6_linesNewIn 72 mX6_parentOf 1 := ⟨⟨yiX6_parentOf.1, yiX6_parentOf.2.1, yiX6_parentOf.2.2.1, yiX6_parentOf.2.2.2, by decide, by decide⟩, ycX6_parentOf, zT_in 515 (by decide +kernel) rfl, yvX6_parentOf, ywX6_parentOf⟩
theorem lkX6_linesNewIn_85 : zLkV mX6_linesNewIn 85 mX6_linesApart 4 := ⟨⟨yiX6_linesApart.1, yiX6_linesApart.2.1, yiX6_linesApart.2.2.1, yiX6_linesApart.2.2.2, by decide, by decide⟩, ycX6_linesApart, zT_in 681 (by decide +kernel) rfl, yvX6_linesApart, ywX6_linesApart⟩
theorem lkX6_linesApart_69 : zLkV mX6_linesApart 69 mX6_amountOn 2 := ⟨⟨yiX6_amountOn.1, yiX6_amountOn.2.1, yiX6_amountOn.2.2.1, yiX6_amountOn.2.2.2, by decide, by decide⟩, ycX6_amountOn, zT_in 477 (by decide +kernel) rfl, yvX6_amountOn, ywX6_amountOn⟩
theorem lkX6_othersAlike_85 : zLkV mX6_othersAlike 85 mX6_linesApart 4 := ⟨⟨yiX6_linesApart.1, yiX6_linesApart.2.1, yiX6_linesApart.2.2.1, yiX6_linesApart.2.2.2, by decide, by decide⟩, ycX6_linesApart, zT_in 681 (by decide +kernel) rfl, yvX6_linesApart, ywX6_linesApart⟩
theorem lkX6_latestByYear_89 : zLkV mX6_latestByYear 89 mX6_yearOf 1 := ⟨⟨yiX6_yearOf.1, yiX6_yearOf.2.1, yiX6_yearOf.2.2.1, yiX6_yearOf.2.2.2, by decide, by decide⟩, ycX6_yearOf, zT_in 712 (by decide +kernel) rfl, yvX6_yearOf, ywX6_yearOf⟩
theorem lkX6_latestByYear_72 : zLkV mX6_latestByYear 72 mX6_parentOf 1 := ⟨⟨yiX6_parentOf.1, yiX6_parentOf.2.1, yiX6_parentOf.2.2.1, yiX6_parentOf.2.2.2, by decide, by decide⟩, ycX6_parentOf, zT_in 515 (by decide +kernel) rfl, yvX6_parentOf, ywX6_parentOf⟩
theorem lkX6_earliestWithAmountOf_69 : zLkV mX6_earliestWithAmountOf 69 mX6_amountOn 2 := ⟨⟨yiX6_amountOn.1, yiX6_amountOn.2.1, yiX6_amountOn.2.2.1, yiX6_amountOn.2.2.2, by decide, by decide⟩, ycX6_amountOn, zT_in 477 (by decide +kernel) rfl, yvX6_amountOn, ywX6_amountOn⟩
theorem lkX6_earliestWithAmountOf_72 : zLkV mX6_earliestWithAmountOf 72 mX6_parentOf 1 := ⟨⟨yiX6_parentOf.1, yiX6_parentOf.2.1, yiX6_parentOf.2.2.1, yiX6_parentOf.2.2.2, by decide, by decide⟩, ycX6_parentOf, zT_in 515 (by decide +kernel) rfl, yvX6_parentOf, ywX6_parentOf⟩
theorem lkX6_latestCommon_72 : zLkV mX6_latestCommon 72 mX6_parentOf 1 := ⟨⟨yiX6_parentOf.1, yiX6_parentOf.2.1, yiX6_parentOf.2.2.1, yiX6_parentOf.2.2.2, by decide, by decide⟩, ycX6_parentOf, zT_in 515 (by decide +kernel) rfl, yvX6_parentOf, ywX6_parentOf⟩
theorem lkX6_pagesInBoth_79 : zLkV mX6_pagesInBoth 79 mX6_makerOf 2 := ⟨⟨yiX6_makerOf.1, yiX6_makerOf.2.1, yiX6_makerOf.2.2.1, yiX6_makerOf.2.2.2, by decide, by decide⟩, ycX6_makerOf, zT_in 264 (by decide +kernel) rfl, yvX6_makerOf, ywX6_makerOf⟩
theorem lkX6_usersOf_79 : zLkV mX6_usersOf 79 mX6_makerOf 2 := ⟨⟨yiX6_makerOf.1, yiX6_makerOf.2.1, yiX6_makerOf.2.2.1, yiX6_makerOf.2.2.2, by decide, by decide⟩, ycX6_makerOf, zT_in 264 (by decide +kernel) rfl, yvX6_makerOf, ywX6_makerOf⟩
theorem lkX6_atPlace_92 : zLkV mX6_atPlace 92 mX6_versionsAheadOf 1 := ⟨⟨yiX6_versionsAheadOf.1, yiX6_versionsAheadOf.2.1, yiX6_versionsAheadOf.2.2.1, yiX6_versionsAheadOf.2.2.2, by decide, by decide⟩, ycX6_versionsAheadOf, zT_in 802 (by decide +kernel) rfl, yvX6_versionsAheadOf, ywX6_versionsAheadOf⟩
theorem lkX6_versionsAheadOf_41 : zLkV mX6_versionsAheadOf 41 mX6_totalOf 2 := ⟨⟨yiX6_totalOf.1, yiX6_totalOf.2.1, yiX6_totalOf.2.2.1, yiX6_totalOf.2.2.2, by decide, by decide⟩, ycX6_totalOf, zT_in 331 (by decide +kernel) rfl, yvX6_totalOf, ywX6_totalOf⟩
theorem lkX6_withMostPagesOfOthers_95 : zLkV mX6_withMostPagesOfOthers 95 mX6_pagesOfOthersMadeBy 1 := ⟨⟨yiX6_pagesOfOthersMadeBy.1, yiX6_pagesOfOthersMadeBy.2.1, yiX6_pagesOfOthersMadeBy.2.2.1, yiX6_pagesOfOthersMadeBy.2.2.2, by decide, by decide⟩, ycX6_pagesOfOthersMadeBy, zT_in 819 (by decide +kernel) rfl, yvX6_pagesOfOthersMadeBy, ywX6_pagesOfOthersMadeBy⟩
theorem lkX6_pagesOfOthersMadeBy_79 : zLkV mX6_pagesOfOthersMadeBy 79 mX6_makerOf 2 := ⟨⟨yiX6_makerOf.1, yiX6_makerOf.2.1, yiX6_makerOf.2.2.1, yiX6_makerOf.2.2.2, by decide, by decide⟩, ycX6_makerOf, zT_in 264 (by decide +kernel) rfl, yvX6_makerOf, ywX6_makerOf⟩
theorem lkX6_pagesOfOthersMadeBy_98 : zLkV mX6_pagesOfOthersMadeBy 98 mX6_usersOf 2 := ⟨⟨yiX6_usersOf.1, yiX6_usersOf.2.1, yiX6_usersOf.2.2.1, yiX6_usersOf.2.2.2, by decide, by decide⟩, ycX6_usersOf, zT_in 823 (by decide +kernel) rfl, yvX6_usersOf, ywX6_usersOf⟩
theorem zlX7_1 {M : zM} (h : M.1.cls = RX7) : Cond.methodLink M.1.cls 1 Lib.objectInit ∈ zT := by rw [h]; exact zT_in 69 (by decide +kernel) rfl
theorem lkX7_init_9 : zLkIN mX7_init 9 mX1_init 0 := ⟨⟨yiX1_init.1, yiX1_init.2.1, yiX1_init.2.2.1, yiX1_init.2.2.2, by decide, by decide⟩, ycX1_init, ⟨"AbbeyLedgers", zNw_in 74 (by decide +kernel) rfl⟩, yvX1_init, rfl, rfl⟩
theorem lkX7_init_33 : zLkIN mX7_init 33 mX0_init 0 := ⟨⟨yiX0_init.1, yiX0_init.2.1, yiX0_init.2.2.1, yiX0_init.2.2.2, by decide, by decide⟩, ycX0_init, ⟨"AbbeyLedgers", zNw_in 163 (by decide +kernel) rfl⟩, yvX0_init, rfl, rfl⟩
theorem lkX7_init_43 : zLkIN mX7_init 43 mX3_init 0 := ⟨⟨yiX3_init.1, yiX3_init.2.1, yiX3_init.2.2.1, yiX3_init.2.2.2, by decide, by decide⟩, ycX3_init, ⟨"AbbeyLedgers", zNw_in 166 (by decide +kernel) rfl⟩, yvX3_init, rfl, rfl⟩
theorem lkX7_init_50 : zLkIN mX7_init 50 mX2_init 0 := ⟨⟨yiX2_init.1, yiX2_init.2.1, yiX2_init.2.2.1, yiX2_init.2.2.2, by decide, by decide⟩, ycX2_init, ⟨"AbbeyLedgers", zNw_in 179 (by decide +kernel) rfl⟩, yvX2_init, rfl, rfl⟩
theorem lkX7_init_61 : zLkIN mX7_init 61 mX5_init 0 := ⟨⟨yiX5_init.1, yiX5_init.2.1, yiX5_init.2.2.1, yiX5_init.2.2.2, by decide, by decide⟩, ycX5_init, ⟨"AbbeyLedgers", zNw_in 202 (by decide +kernel) rfl⟩, yvX5_init, rfl, rfl⟩
theorem lkX7_write_66 : zLkV mX7_write 66 mX3_note 1 := ⟨⟨yiX3_note.1, yiX3_note.2.1, yiX3_note.2.2.1, yiX3_note.2.2.2, by decide, by decide⟩, ycX3_note, zT_in 299 (by decide +kernel) rfl, yvX3_note, ywX3_note⟩
theorem lkX7_write_70 : zLkV mX7_write 70 mX1_enter 3 := ⟨⟨yiX1_enter.1, yiX1_enter.2.1, yiX1_enter.2.2.1, yiX1_enter.2.2.2, by decide, by decide⟩, ycX1_enter, zT_in 308 (by decide +kernel) rfl, yvX1_enter, ywX1_enter⟩
theorem lkX7_write_74 : zLkV mX7_write 74 mX7_settled 1 := ⟨⟨yiX7_settled.1, yiX7_settled.2.1, yiX7_settled.2.2.1, yiX7_settled.2.2.2, by decide, by decide⟩, ycX7_settled, zT_in 369 (by decide +kernel) rfl, yvX7_settled, ywX7_settled⟩
theorem lkX7_graft_66 : zLkV mX7_graft 66 mX3_note 1 := ⟨⟨yiX3_note.1, yiX3_note.2.1, yiX3_note.2.2.1, yiX3_note.2.2.2, by decide, by decide⟩, ycX3_note, zT_in 299 (by decide +kernel) rfl, yvX3_note, ywX3_note⟩
theorem lkX7_graft_78 : zLkV mX7_graft 78 mX1_copyLines 4 := ⟨⟨yiX1_copyLines.1, yiX1_copyLines.2.1, yiX1_copyLines.2.2.1, yiX1_copyLines.2.2.2, by decide, by decide⟩, ycX1_copyLines, zT_in 467 (by decide +kernel) rfl, yvX1_copyLines, ywX1_copyLines⟩
theorem lkX7_graft_74 : zLkV mX7_graft 74 mX7_settled 1 := ⟨⟨yiX7_settled.1, yiX7_settled.2.1, yiX7_settled.2.2.1, yiX7_settled.2.2.2, by decide, by decide⟩, ycX7_settled, zT_in 369 (by decide +kernel) rfl, yvX7_settled, ywX7_settled⟩
theorem lkX7_fork_66 : zLkV mX7_fork 66 mX3_note 1 := ⟨⟨yiX3_note.1, yiX3_note.2.1, yiX3_note.2.2.1, yiX3_note.2.2.2, by decide, by decide⟩, ycX3_note, zT_in 299 (by decide +kernel) rfl, yvX3_note, ywX3_note⟩
theorem lkX7_fork_82 : zLkV mX7_fork 82 mX1_takeOver 2 := ⟨⟨yiX1_takeOver.1, yiX1_takeOver.2.1, yiX1_takeOver.2.2.1, yiX1_takeOver.2.2.2, by decide, by decide⟩, ycX1_takeOver, zT_in 496 (by decide +kernel) rfl, yvX1_takeOver, ywX1_takeOver⟩
theorem lkX7_fork_74 : zLkV mX7_fork 74 mX7_settled 1 := ⟨⟨yiX7_settled.1, yiX7_settled.2.1, yiX7_settled.2.2.1, yiX7_settled.2.2.2, by decide, by decide⟩, ycX7_settled, zT_in 369 (by decide +kernel) rfl, yvX7_settled, ywX7_settled⟩
theorem lkX7_back_66 : zLkV mX7_back 66 mX3_note 1 := ⟨⟨yiX3_note.1, yiX3_note.2.1, yiX3_note.2.2.1, yiX3_note.2.2.2, by decide, by decide⟩, ycX3_note, zT_in 299 (by decide +kernel) rfl, yvX3_note, ywX3_note⟩
theorem lkX7_back_86 : zLkV mX7_back 86 mX1_goBack 2 := ⟨⟨yiX1_goBack.1, yiX1_goBack.2.1, yiX1_goBack.2.2.1, yiX1_goBack.2.2.2, by decide, by decide⟩, ycX1_goBack, zT_in 507 (by decide +kernel) rfl, yvX1_goBack, ywX1_goBack⟩
theorem lkX7_back_74 : zLkV mX7_back 74 mX7_settled 1 := ⟨⟨yiX7_settled.1, yiX7_settled.2.1, yiX7_settled.2.2.1, yiX7_settled.2.2.2, by decide, by decide⟩, ycX7_settled, zT_in 369 (by decide +kernel) rfl, yvX7_settled, ywX7_settled⟩
theorem lkX7_pass_66 : zLkV mX7_pass 66 mX3_note 1 := ⟨⟨yiX3_note.1, yiX3_note.2.1, yiX3_note.2.2.1, yiX3_note.2.2.2, by decide, by decide⟩, ycX3_note, zT_in 299 (by decide +kernel) rfl, yvX3_note, ywX3_note⟩
theorem lkX7_pass_89 : zLkV mX7_pass 89 mX1_letGoBy 1 := ⟨⟨yiX1_letGoBy.1, yiX1_letGoBy.2.1, yiX1_letGoBy.2.2.1, yiX1_letGoBy.2.2.2, by decide, by decide⟩, ycX1_letGoBy, zT_in 530 (by decide +kernel) rfl, yvX1_letGoBy, ywX1_letGoBy⟩
theorem lkX7_pass_74 : zLkV mX7_pass 74 mX7_settled 1 := ⟨⟨yiX7_settled.1, yiX7_settled.2.1, yiX7_settled.2.2.1, yiX7_settled.2.2.2, by decide, by decide⟩, ycX7_settled, zT_in 369 (by decide +kernel) rfl, yvX7_settled, ywX7_settled⟩
theorem lkX7_ledger_92 : zLkS mX7_ledger 92 mX7_checkHouse 1 := ⟨⟨yiX7_checkHouse.1, yiX7_checkHouse.2.1, yiX7_checkHouse.2.2.1, yiX7_checkHouse.2.2.2, by decide, by decide⟩, ycX7_checkHouse, zT_in 542 (by decide +kernel) rfl, ysX7_checkHouse⟩
theorem lkX7_ledger_96 : zLkV mX7_ledger 96 mX0_ledgerOf 1 := ⟨⟨yiX0_ledgerOf.1, yiX0_ledgerOf.2.1, yiX0_ledgerOf.2.2.1, yiX0_ledgerOf.2.2.2, by decide, by decide⟩, ycX0_ledgerOf, zT_in 562 (by decide +kernel) rfl, yvX0_ledgerOf, ywX0_ledgerOf⟩
theorem lkX7_amount_99 : zLkV mX7_amount 99 mX7_checkVersion 1 := ⟨⟨yiX7_checkVersion.1, yiX7_checkVersion.2.1, yiX7_checkVersion.2.2.1, yiX7_checkVersion.2.2.2, by decide, by decide⟩, ycX7_checkVersion, zT_in 571 (by decide +kernel) rfl, yvX7_checkVersion, ywX7_checkVersion⟩
theorem lkX7_amount_102 : zLkS mX7_amount 102 mX7_checkLines 2 := ⟨⟨yiX7_checkLines.1, yiX7_checkLines.2.1, yiX7_checkLines.2.2.1, yiX7_checkLines.2.2.2, by decide, by decide⟩, ycX7_checkLines, zT_in 577 (by decide +kernel) rfl, ysX7_checkLines⟩
theorem lkX7_amount_106 : zLkV mX7_amount 106 mX6_amountOn 2 := ⟨⟨yiX6_amountOn.1, yiX6_amountOn.2.1, yiX6_amountOn.2.2.1, yiX6_amountOn.2.2.2, by decide, by decide⟩, ycX6_amountOn, zT_in 597 (by decide +kernel) rfl, yvX6_amountOn, ywX6_amountOn⟩
theorem lkX7_sum_99 : zLkV mX7_sum 99 mX7_checkVersion 1 := ⟨⟨yiX7_checkVersion.1, yiX7_checkVersion.2.1, yiX7_checkVersion.2.2.1, yiX7_checkVersion.2.2.2, by decide, by decide⟩, ycX7_checkVersion, zT_in 571 (by decide +kernel) rfl, yvX7_checkVersion, ywX7_checkVersion⟩
theorem lkX7_sum_102 : zLkS mX7_sum 102 mX7_checkLines 2 := ⟨⟨yiX7_checkLines.1, yiX7_checkLines.2.1, yiX7_checkLines.2.2.1, yiX7_checkLines.2.2.2, by decide, by decide⟩, ycX7_checkLines, zT_in 577 (by decide +kernel) rfl, ysX7_checkLines⟩
theorem lkX7_sum_111 : zLkV mX7_sum 111 mX6_sumByPages 3 := ⟨⟨yiX6_sumByPages.1, yiX6_sumByPages.2.1, yiX6_sumByPages.2.2.1, yiX6_sumByPages.2.2.2, by decide, by decide⟩, ycX6_sumByPages, zT_in 605 (by decide +kernel) rfl, yvX6_sumByPages, ywX6_sumByPages⟩
theorem lkX7_sumAgain_99 : zLkV mX7_sumAgain 99 mX7_checkVersion 1 := ⟨⟨yiX7_checkVersion.1, yiX7_checkVersion.2.1, yiX7_checkVersion.2.2.1, yiX7_checkVersion.2.2.2, by decide, by decide⟩, ycX7_checkVersion, zT_in 571 (by decide +kernel) rfl, yvX7_checkVersion, ywX7_checkVersion⟩
theorem lkX7_sumAgain_102 : zLkS mX7_sumAgain 102 mX7_checkLines 2 := ⟨⟨yiX7_checkLines.1, yiX7_checkLines.2.1, yiX7_checkLines.2.2.1, yiX7_checkLines.2.2.2, by decide, by decide⟩, ycX7_checkLines, zT_in 577 (by decide +kernel) rfl, ysX7_checkLines⟩
theorem lkX7_sumAgain_114 : zLkV mX7_sumAgain 114 mX6_sumByLines 3 := ⟨⟨yiX6_sumByLines.1, yiX6_sumByLines.2.1, yiX6_sumByLines.2.2.1, yiX6_sumByLines.2.2.2, by decide, by decide⟩, ycX6_sumByLines, zT_in 616 (by decide +kernel) rfl, yvX6_sumByLines, ywX6_sumByLines⟩
theorem lkX7_most_99 : zLkV mX7_most 99 mX7_checkVersion 1 := ⟨⟨yiX7_checkVersion.1, yiX7_checkVersion.2.1, yiX7_checkVersion.2.2.1, yiX7_checkVersion.2.2.2, by decide, by decide⟩, ycX7_checkVersion, zT_in 571 (by decide +kernel) rfl, yvX7_checkVersion, ywX7_checkVersion⟩
theorem lkX7_most_102 : zLkS mX7_most 102 mX7_checkLines 2 := ⟨⟨yiX7_checkLines.1, yiX7_checkLines.2.1, yiX7_checkLines.2.2.1, yiX7_checkLines.2.2.2, by decide, by decide⟩, ycX7_checkLines, zT_in 577 (by decide +kernel) rfl, ysX7_checkLines⟩
theorem lkX7_most_117 : zLkV mX7_most 117 mX6_lineWithMost 3 := ⟨⟨yiX6_lineWithMost.1, yiX6_lineWithMost.2.1, yiX6_lineWithMost.2.2.1, yiX6_lineWithMost.2.2.2, by decide, by decide⟩, ycX6_lineWithMost, zT_in 627 (by decide +kernel) rfl, yvX6_lineWithMost, ywX6_lineWithMost⟩
theorem lkX7_reached_99 : zLkV mX7_reached 99 mX7_checkVersion 1 := ⟨⟨yiX7_checkVersion.1, yiX7_checkVersion.2.1, yiX7_checkVersion.2.2.1, yiX7_checkVersion.2.2.2, by decide, by decide⟩, ycX7_checkVersion, zT_in 571 (by decide +kernel) rfl, yvX7_checkVersion, ywX7_checkVersion⟩
theorem lkX7_reached_120 : zLkV mX7_reached 120 mX6_lineReaching 2 := ⟨⟨yiX6_lineReaching.1, yiX6_lineReaching.2.1, yiX6_lineReaching.2.2.1, yiX6_lineReaching.2.2.2, by decide, by decide⟩, ycX6_lineReaching, zT_in 639 (by decide +kernel) rfl, yvX6_lineReaching, ywX6_lineReaching⟩
theorem lkX7_versionOf_99 : zLkV mX7_versionOf 99 mX7_checkVersion 1 := ⟨⟨yiX7_checkVersion.1, yiX7_checkVersion.2.1, yiX7_checkVersion.2.2.1, yiX7_checkVersion.2.2.2, by decide, by decide⟩, ycX7_checkVersion, zT_in 571 (by decide +kernel) rfl, yvX7_checkVersion, ywX7_checkVersion⟩
theorem lkX7_versionOf_130 : zLkV mX7_versionOf 130 mX6_parentOf 1 := ⟨⟨yiX6_parentOf.1, yiX6_parentOf.2.1, yiX6_parentOf.2.2.1, yiX6_parentOf.2.2.2, by decide, by decide⟩, ycX6_parentOf, zT_in 666 (by decide +kernel) rfl, yvX6_parentOf, ywX6_parentOf⟩
theorem lkX7_versionOf_133 : zLkV mX7_versionOf 133 mX6_yearOf 1 := ⟨⟨yiX6_yearOf.1, yiX6_yearOf.2.1, yiX6_yearOf.2.2.1, yiX6_yearOf.2.2.2, by decide, by decide⟩, ycX6_yearOf, zT_in 667 (by decide +kernel) rfl, yvX6_yearOf, ywX6_yearOf⟩
theorem lkX7_versionOf_136 : zLkV mX7_versionOf 136 mX6_ancestorsOf 1 := ⟨⟨yiX6_ancestorsOf.1, yiX6_ancestorsOf.2.1, yiX6_ancestorsOf.2.2.1, yiX6_ancestorsOf.2.2.2, by decide, by decide⟩, ycX6_ancestorsOf, zT_in 671 (by decide +kernel) rfl, yvX6_ancestorsOf, ywX6_ancestorsOf⟩
theorem lkX7_versionOf_139 : zLkV mX7_versionOf 139 mX6_childrenOf 1 := ⟨⟨yiX6_childrenOf.1, yiX6_childrenOf.2.1, yiX6_childrenOf.2.2.1, yiX6_childrenOf.2.2.2, by decide, by decide⟩, ycX6_childrenOf, zT_in 672 (by decide +kernel) rfl, yvX6_childrenOf, ywX6_childrenOf⟩
theorem lkX7_versionOf_142 : zLkV mX7_versionOf 142 mX6_pagesMadeBy 1 := ⟨⟨yiX6_pagesMadeBy.1, yiX6_pagesMadeBy.2.1, yiX6_pagesMadeBy.2.2.1, yiX6_pagesMadeBy.2.2.2, by decide, by decide⟩, ycX6_pagesMadeBy, zT_in 676 (by decide +kernel) rfl, yvX6_pagesMadeBy, ywX6_pagesMadeBy⟩
theorem lkX7_versionOf_145 : zLkV mX7_versionOf 145 mX6_linesNewIn 1 := ⟨⟨yiX6_linesNewIn.1, yiX6_linesNewIn.2.1, yiX6_linesNewIn.2.2.1, yiX6_linesNewIn.2.2.2, by decide, by decide⟩, ycX6_linesNewIn, zT_in 677 (by decide +kernel) rfl, yvX6_linesNewIn, ywX6_linesNewIn⟩
theorem lkX7_versionOf_148 : zLkV mX7_versionOf 148 mX0_housesWith 1 := ⟨⟨yiX0_housesWith.1, yiX0_housesWith.2.1, yiX0_housesWith.2.2.1, yiX0_housesWith.2.2.2, by decide, by decide⟩, ycX0_housesWith, zT_in 682 (by decide +kernel) rfl, yvX0_housesWith, ywX0_housesWith⟩
theorem lkX7_maker_99 : zLkV mX7_maker 99 mX7_checkVersion 1 := ⟨⟨yiX7_checkVersion.1, yiX7_checkVersion.2.1, yiX7_checkVersion.2.2.1, yiX7_checkVersion.2.2.2, by decide, by decide⟩, ycX7_checkVersion, zT_in 571 (by decide +kernel) rfl, yvX7_checkVersion, ywX7_checkVersion⟩
theorem lkX7_maker_156 : zLkS mX7_maker 156 mX7_checkSpan 1 := ⟨⟨yiX7_checkSpan.1, yiX7_checkSpan.2.1, yiX7_checkSpan.2.2.1, yiX7_checkSpan.2.2.2, by decide, by decide⟩, ycX7_checkSpan, zT_in 695 (by decide +kernel) rfl, ysX7_checkSpan⟩
theorem lkX7_maker_159 : zLkV mX7_maker 159 mX6_makerOf 2 := ⟨⟨yiX6_makerOf.1, yiX6_makerOf.2.1, yiX6_makerOf.2.2.1, yiX6_makerOf.2.2.2, by decide, by decide⟩, ycX6_makerOf, zT_in 699 (by decide +kernel) rfl, yvX6_makerOf, ywX6_makerOf⟩
theorem lkX7_had_92 : zLkS mX7_had 92 mX7_checkHouse 1 := ⟨⟨yiX7_checkHouse.1, yiX7_checkHouse.2.1, yiX7_checkHouse.2.2.1, yiX7_checkHouse.2.2.2, by decide, by decide⟩, ycX7_checkHouse, zT_in 542 (by decide +kernel) rfl, ysX7_checkHouse⟩
theorem lkX7_had_96 : zLkV mX7_had 96 mX0_ledgerOf 1 := ⟨⟨yiX0_ledgerOf.1, yiX0_ledgerOf.2.1, yiX0_ledgerOf.2.2.1, yiX0_ledgerOf.2.2.2, by decide, by decide⟩, ycX0_ledgerOf, zT_in 562 (by decide +kernel) rfl, yvX0_ledgerOf, ywX0_ledgerOf⟩
theorem lkX7_had_164 : zLkV mX7_had 164 mX6_latestByYear 2 := ⟨⟨yiX6_latestByYear.1, yiX6_latestByYear.2.1, yiX6_latestByYear.2.2.1, yiX6_latestByYear.2.2.2, by decide, by decide⟩, ycX6_latestByYear, zT_in 708 (by decide +kernel) rfl, yvX6_latestByYear, ywX6_latestByYear⟩
theorem lkX7_since_99 : zLkV mX7_since 99 mX7_checkVersion 1 := ⟨⟨yiX7_checkVersion.1, yiX7_checkVersion.2.1, yiX7_checkVersion.2.2.1, yiX7_checkVersion.2.2.2, by decide, by decide⟩, ycX7_checkVersion, zT_in 571 (by decide +kernel) rfl, yvX7_checkVersion, ywX7_checkVersion⟩
theorem lkX7_since_102 : zLkS mX7_since 102 mX7_checkLines 2 := ⟨⟨yiX7_checkLines.1, yiX7_checkLines.2.1, yiX7_checkLines.2.2.1, yiX7_checkLines.2.2.2, by decide, by decide⟩, ycX7_checkLines, zT_in 577 (by decide +kernel) rfl, ysX7_checkLines⟩
theorem lkX7_since_167 : zLkV mX7_since 167 mX6_earliestWithAmountOf 2 := ⟨⟨yiX6_earliestWithAmountOf.1, yiX6_earliestWithAmountOf.2.1, yiX6_earliestWithAmountOf.2.2.1, yiX6_earliestWithAmountOf.2.2.2, by decide, by decide⟩, ycX6_earliestWithAmountOf, zT_in 720 (by decide +kernel) rfl, yvX6_earliestWithAmountOf, ywX6_earliestWithAmountOf⟩
theorem lkX7_common_99 : zLkV mX7_common 99 mX7_checkVersion 1 := ⟨⟨yiX7_checkVersion.1, yiX7_checkVersion.2.1, yiX7_checkVersion.2.2.1, yiX7_checkVersion.2.2.2, by decide, by decide⟩, ycX7_checkVersion, zT_in 571 (by decide +kernel) rfl, yvX7_checkVersion, ywX7_checkVersion⟩
theorem lkX7_common_170 : zLkV mX7_common 170 mX6_latestCommon 2 := ⟨⟨yiX6_latestCommon.1, yiX6_latestCommon.2.1, yiX6_latestCommon.2.2.1, yiX6_latestCommon.2.2.2, by decide, by decide⟩, ycX6_latestCommon, zT_in 731 (by decide +kernel) rfl, yvX6_latestCommon, ywX6_latestCommon⟩
theorem lkX7_apart_99 : zLkV mX7_apart 99 mX7_checkVersion 1 := ⟨⟨yiX7_checkVersion.1, yiX7_checkVersion.2.1, yiX7_checkVersion.2.2.1, yiX7_checkVersion.2.2.2, by decide, by decide⟩, ycX7_checkVersion, zT_in 571 (by decide +kernel) rfl, yvX7_checkVersion, ywX7_checkVersion⟩
theorem lkX7_apart_173 : zLkV mX7_apart 173 mX6_linesApart 4 := ⟨⟨yiX6_linesApart.1, yiX6_linesApart.2.1, yiX6_linesApart.2.2.1, yiX6_linesApart.2.2.2, by decide, by decide⟩, ycX6_linesApart, zT_in 742 (by decide +kernel) rfl, yvX6_linesApart, ywX6_linesApart⟩
theorem lkX7_shared_99 : zLkV mX7_shared 99 mX7_checkVersion 1 := ⟨⟨yiX7_checkVersion.1, yiX7_checkVersion.2.1, yiX7_checkVersion.2.2.1, yiX7_checkVersion.2.2.2, by decide, by decide⟩, ycX7_checkVersion, zT_in 571 (by decide +kernel) rfl, yvX7_checkVersion, ywX7_checkVersion⟩
theorem lkX7_shared_176 : zLkV mX7_shared 176 mX6_pagesInBoth 2 := ⟨⟨yiX6_pagesInBoth.1, yiX6_pagesInBoth.2.1, yiX6_pagesInBoth.2.2.1, yiX6_pagesInBoth.2.2.2, by decide, by decide⟩, ycX6_pagesInBoth, zT_in 750 (by decide +kernel) rfl, yvX6_pagesInBoth, ywX6_pagesInBoth⟩
theorem lkX7_isOf_99 : zLkV mX7_isOf 99 mX7_checkVersion 1 := ⟨⟨yiX7_checkVersion.1, yiX7_checkVersion.2.1, yiX7_checkVersion.2.2.1, yiX7_checkVersion.2.2.2, by decide, by decide⟩, ycX7_checkVersion, zT_in 571 (by decide +kernel) rfl, yvX7_checkVersion, ywX7_checkVersion⟩
theorem lkX7_isOf_170 : zLkV mX7_isOf 170 mX6_latestCommon 2 := ⟨⟨yiX6_latestCommon.1, yiX6_latestCommon.2.1, yiX6_latestCommon.2.2.1, yiX6_latestCommon.2.2.2, by decide, by decide⟩, ycX6_latestCommon, zT_in 731 (by decide +kernel) rfl, yvX6_latestCommon, ywX6_latestCommon⟩
theorem lkX7_users_99 : zLkV mX7_users 99 mX7_checkVersion 1 := ⟨⟨yiX7_checkVersion.1, yiX7_checkVersion.2.1, yiX7_checkVersion.2.2.1, yiX7_checkVersion.2.2.2, by decide, by decide⟩, ycX7_checkVersion, zT_in 571 (by decide +kernel) rfl, yvX7_checkVersion, ywX7_checkVersion⟩
theorem lkX7_users_156 : zLkS mX7_users 156 mX7_checkSpan 1 := ⟨⟨yiX7_checkSpan.1, yiX7_checkSpan.2.1, yiX7_checkSpan.2.2.1, yiX7_checkSpan.2.2.2, by decide, by decide⟩, ycX7_checkSpan, zT_in 695 (by decide +kernel) rfl, ysX7_checkSpan⟩
theorem lkX7_users_159 : zLkV mX7_users 159 mX6_makerOf 2 := ⟨⟨yiX6_makerOf.1, yiX6_makerOf.2.1, yiX6_makerOf.2.2.1, yiX6_makerOf.2.2.2, by decide, by decide⟩, ycX6_makerOf, zT_in 699 (by decide +kernel) rfl, yvX6_makerOf, ywX6_makerOf⟩
theorem lkX7_users_179 : zLkV mX7_users 179 mX6_usersOf 2 := ⟨⟨yiX6_usersOf.1, yiX6_usersOf.2.1, yiX6_usersOf.2.2.1, yiX6_usersOf.2.2.2, by decide, by decide⟩, ycX6_usersOf, zT_in 768 (by decide +kernel) rfl, yvX6_usersOf, ywX6_usersOf⟩
theorem lkX7_wouldMake_102 : zLkS mX7_wouldMake 102 mX7_checkLines 2 := ⟨⟨yiX7_checkLines.1, yiX7_checkLines.2.1, yiX7_checkLines.2.2.1, yiX7_checkLines.2.2.2, by decide, by decide⟩, ycX7_checkLines, zT_in 577 (by decide +kernel) rfl, ysX7_checkLines⟩
theorem lkX7_wouldMake_182 : zLkS mX7_wouldMake 182 mX7_isCut 3 := ⟨⟨yiX7_isCut.1, yiX7_isCut.2.1, yiX7_isCut.2.2.1, yiX7_isCut.2.2.2, by decide, by decide⟩, ycX7_isCut, zT_in 779 (by decide +kernel) rfl, ysX7_isCut⟩
theorem lkX7_alike_99 : zLkV mX7_alike 99 mX7_checkVersion 1 := ⟨⟨yiX7_checkVersion.1, yiX7_checkVersion.2.1, yiX7_checkVersion.2.2.1, yiX7_checkVersion.2.2.2, by decide, by decide⟩, ycX7_checkVersion, zT_in 571 (by decide +kernel) rfl, yvX7_checkVersion, ywX7_checkVersion⟩
theorem lkX7_alike_186 : zLkV mX7_alike 186 mX6_othersAlike 1 := ⟨⟨yiX6_othersAlike.1, yiX6_othersAlike.2.1, yiX6_othersAlike.2.2.1, yiX6_othersAlike.2.2.2, by decide, by decide⟩, ycX6_othersAlike, zT_in 787 (by decide +kernel) rfl, yvX6_othersAlike, ywX6_othersAlike⟩
theorem lkX7_richest_189 : zLkV mX7_richest 189 mX6_atPlace 1 := ⟨⟨yiX6_atPlace.1, yiX6_atPlace.2.1, yiX6_atPlace.2.2.1, yiX6_atPlace.2.2.2, by decide, by decide⟩, ycX6_atPlace, zT_in 798 (by decide +kernel) rfl, yvX6_atPlace, ywX6_atPlace⟩
theorem lkX7_busiest_194 : zLkV mX7_busiest 194 mX6_size 0 := ⟨⟨yiX6_size.1, yiX6_size.2.1, yiX6_size.2.2.1, yiX6_size.2.2.2, by decide, by decide⟩, ycX6_size, zT_in 252 (by decide +kernel) rfl, yvX6_size, ywX6_size⟩
theorem lkX7_busiest_200 : zLkV mX7_busiest 200 mX6_withMostPagesOfOthers 0 := ⟨⟨yiX6_withMostPagesOfOthers.1, yiX6_withMostPagesOfOthers.2.1, yiX6_withMostPagesOfOthers.2.2.1, yiX6_withMostPagesOfOthers.2.2.2, by decide, by decide⟩, ycX6_withMostPagesOfOthers, zT_in 815 (by decide +kernel) rfl, yvX6_withMostPagesOfOthers, ywX6_withMostPagesOfOthers⟩
theorem lkX7_append_203 : zLkV mX7_append 203 mX2_isFull 0 := ⟨⟨yiX2_isFull.1, yiX2_isFull.2.1, yiX2_isFull.2.2.1, yiX2_isFull.2.2.2, by decide, by decide⟩, ycX2_isFull, zT_in 832 (by decide +kernel) rfl, yvX2_isFull, ywX2_isFull⟩
theorem lkX7_append_212 : zLkV mX7_append 212 mX2_put 1 := ⟨⟨yiX2_put.1, yiX2_put.2.1, yiX2_put.2.2.1, yiX2_put.2.2.2, by decide, by decide⟩, ycX2_put, zT_in 852 (by decide +kernel) rfl, yvX2_put, ywX2_put⟩
theorem lkX7_append_216 : zLkV mX7_append 216 mX2_size 0 := ⟨⟨yiX2_size.1, yiX2_size.2.1, yiX2_size.2.2.1, yiX2_size.2.2.2, by decide, by decide⟩, ycX2_size, zT_in 857 (by decide +kernel) rfl, yvX2_size, ywX2_size⟩
theorem lkX7_commands_217 : zLkV mX7_commands 217 mX2_findFault 0 := ⟨⟨yiX2_findFault.1, yiX2_findFault.2.1, yiX2_findFault.2.2.1, yiX2_findFault.2.2.2, by decide, by decide⟩, ycX2_findFault, zT_in 868 (by decide +kernel) rfl, yvX2_findFault, ywX2_findFault⟩
theorem lkX7_commands_220 : zLkV mX7_commands 220 mX2_clear 0 := ⟨⟨yiX2_clear.1, yiX2_clear.2.1, yiX2_clear.2.2.1, yiX2_clear.2.2.2, by decide, by decide⟩, ycX2_clear, zT_in 956 (by decide +kernel) rfl, yvX2_clear, ywX2_clear⟩
theorem lkX7_commands_66 : zLkV mX7_commands 66 mX3_note 1 := ⟨⟨yiX3_note.1, yiX3_note.2.1, yiX3_note.2.2.1, yiX3_note.2.2.2, by decide, by decide⟩, ycX3_note, zT_in 299 (by decide +kernel) rfl, yvX3_note, ywX3_note⟩
theorem lkX7_commands_225 : zLkV mX7_commands 225 mX2_rewind 0 := ⟨⟨yiX2_rewind.1, yiX2_rewind.2.1, yiX2_rewind.2.2.1, yiX2_rewind.2.2.2, by decide, by decide⟩, ycX2_rewind, zT_in 961 (by decide +kernel) rfl, yvX2_rewind, ywX2_rewind⟩
theorem lkX7_commands_228 : zLkV mX7_commands 228 mX2_readCommand 0 := ⟨⟨yiX2_readCommand.1, yiX2_readCommand.2.1, yiX2_readCommand.2.2.1, yiX2_readCommand.2.2.2, by decide, by decide⟩, ycX2_readCommand, zT_in 962 (by decide +kernel) rfl, yvX2_readCommand, ywX2_readCommand⟩
theorem lkX7_commands_231 : zLkV mX7_commands 231 mX1_carryOut 1 := ⟨⟨yiX1_carryOut.1, yiX1_carryOut.2.1, yiX1_carryOut.2.2.1, yiX1_carryOut.2.2.2, by decide, by decide⟩, ycX1_carryOut, zT_in 963 (by decide +kernel) rfl, yvX1_carryOut, ywX1_carryOut⟩
theorem lkX7_commands_240 : zLkV mX7_commands 240 mX2_readSign 1 := ⟨⟨yiX2_readSign.1, yiX2_readSign.2.1, yiX2_readSign.2.2.1, yiX2_readSign.2.2.2, by decide, by decide⟩, ycX2_readSign, zT_in 980 (by decide +kernel) rfl, yvX2_readSign, ywX2_readSign⟩
theorem lkX7_commands_74 : zLkV mX7_commands 74 mX7_settled 1 := ⟨⟨yiX7_settled.1, yiX7_settled.2.1, yiX7_settled.2.2.1, yiX7_settled.2.2.2, by decide, by decide⟩, ycX7_settled, zT_in 369 (by decide +kernel) rfl, yvX7_settled, ywX7_settled⟩
theorem lkX7_line_99 : zLkV mX7_line 99 mX7_checkVersion 1 := ⟨⟨yiX7_checkVersion.1, yiX7_checkVersion.2.1, yiX7_checkVersion.2.2.1, yiX7_checkVersion.2.2.2, by decide, by decide⟩, ycX7_checkVersion, zT_in 571 (by decide +kernel) rfl, yvX7_checkVersion, ywX7_checkVersion⟩
theorem lkX7_line_254 : zLkV mX7_line 254 mX5_clear 0 := ⟨⟨yiX5_clear.1, yiX5_clear.2.1, yiX5_clear.2.2.1, yiX5_clear.2.2.2, by decide, by decide⟩, ycX5_clear, zT_in 997 (by decide +kernel) rfl, yvX5_clear, ywX5_clear⟩
theorem lkX7_line_106 : zLkV mX7_line 106 mX6_amountOn 2 := ⟨⟨yiX6_amountOn.1, yiX6_amountOn.2.1, yiX6_amountOn.2.2.1, yiX6_amountOn.2.2.2, by decide, by decide⟩, ycX6_amountOn, zT_in 597 (by decide +kernel) rfl, yvX6_amountOn, ywX6_amountOn⟩
theorem lkX7_line_255 : zLkV mX7_line 255 mX5_separate 1 := ⟨⟨yiX5_separate.1, yiX5_separate.2.1, yiX5_separate.2.2.1, yiX5_separate.2.2.2, by decide, by decide⟩, ycX5_separate, zT_in 1001 (by decide +kernel) rfl, yvX5_separate, ywX5_separate⟩
theorem lkX7_line_258 : zLkV mX7_line 258 mX5_putNumber 1 := ⟨⟨yiX5_putNumber.1, yiX5_putNumber.2.1, yiX5_putNumber.2.2.1, yiX5_putNumber.2.2.2, by decide, by decide⟩, ycX5_putNumber, zT_in 1009 (by decide +kernel) rfl, yvX5_putNumber, ywX5_putNumber⟩
theorem lkX7_line_261 : zLkV mX7_line 261 mX5_put 1 := ⟨⟨yiX5_put.1, yiX5_put.2.1, yiX5_put.2.2.1, yiX5_put.2.2.2, by decide, by decide⟩, ycX5_put, zT_in 1013 (by decide +kernel) rfl, yvX5_put, ywX5_put⟩
theorem lkX7_line_262 : zLkV mX7_line 262 mX5_size 0 := ⟨⟨yiX5_size.1, yiX5_size.2.1, yiX5_size.2.2.1, yiX5_size.2.2.2, by decide, by decide⟩, ycX5_size, zT_in 1014 (by decide +kernel) rfl, yvX5_size, ywX5_size⟩
theorem lkX7_lineage_99 : zLkV mX7_lineage 99 mX7_checkVersion 1 := ⟨⟨yiX7_checkVersion.1, yiX7_checkVersion.2.1, yiX7_checkVersion.2.2.1, yiX7_checkVersion.2.2.2, by decide, by decide⟩, ycX7_checkVersion, zT_in 571 (by decide +kernel) rfl, yvX7_checkVersion, ywX7_checkVersion⟩
theorem lkX7_lineage_254 : zLkV mX7_lineage 254 mX5_clear 0 := ⟨⟨yiX5_clear.1, yiX5_clear.2.1, yiX5_clear.2.2.1, yiX5_clear.2.2.2, by decide, by decide⟩, ycX5_clear, zT_in 997 (by decide +kernel) rfl, yvX5_clear, ywX5_clear⟩
theorem lkX7_lineage_255 : zLkV mX7_lineage 255 mX5_separate 1 := ⟨⟨yiX5_separate.1, yiX5_separate.2.1, yiX5_separate.2.2.1, yiX5_separate.2.2.2, by decide, by decide⟩, ycX5_separate, zT_in 1001 (by decide +kernel) rfl, yvX5_separate, ywX5_separate⟩
theorem lkX7_lineage_258 : zLkV mX7_lineage 258 mX5_putNumber 1 := ⟨⟨yiX5_putNumber.1, yiX5_putNumber.2.1, yiX5_putNumber.2.2.1, yiX5_putNumber.2.2.2, by decide, by decide⟩, ycX5_putNumber, zT_in 1009 (by decide +kernel) rfl, yvX5_putNumber, ywX5_putNumber⟩
theorem lkX7_lineage_130 : zLkV mX7_lineage 130 mX6_parentOf 1 := ⟨⟨yiX6_parentOf.1, yiX6_parentOf.2.1, yiX6_parentOf.2.2.1, yiX6_parentOf.2.2.2, by decide, by decide⟩, ycX6_parentOf, zT_in 666 (by decide +kernel) rfl, yvX6_parentOf, ywX6_parentOf⟩
theorem lkX7_lineage_262 : zLkV mX7_lineage 262 mX5_size 0 := ⟨⟨yiX5_size.1, yiX5_size.2.1, yiX5_size.2.2.1, yiX5_size.2.2.2, by decide, by decide⟩, ycX5_size, zT_in 1014 (by decide +kernel) rfl, yvX5_size, ywX5_size⟩
theorem lkX7_character_262 : zLkV mX7_character 262 mX5_size 0 := ⟨⟨yiX5_size.1, yiX5_size.2.1, yiX5_size.2.2.1, yiX5_size.2.2.2, by decide, by decide⟩, ycX5_size, zT_in 1014 (by decide +kernel) rfl, yvX5_size, ywX5_size⟩
theorem lkX7_character_268 : zLkV mX7_character 268 mX5_signAt 1 := ⟨⟨yiX5_signAt.1, yiX5_signAt.2.1, yiX5_signAt.2.2.1, yiX5_signAt.2.2.2, by decide, by decide⟩, ycX5_signAt, zT_in 1033 (by decide +kernel) rfl, yvX5_signAt, ywX5_signAt⟩
theorem lkX7_mean_99 : zLkV mX7_mean 99 mX7_checkVersion 1 := ⟨⟨yiX7_checkVersion.1, yiX7_checkVersion.2.1, yiX7_checkVersion.2.2.1, yiX7_checkVersion.2.2.2, by decide, by decide⟩, ycX7_checkVersion, zT_in 571 (by decide +kernel) rfl, yvX7_checkVersion, ywX7_checkVersion⟩
theorem lkX7_mean_272 : zLkV mX7_mean 272 mX6_totalOf 2 := ⟨⟨yiX6_totalOf.1, yiX6_totalOf.2.1, yiX6_totalOf.2.2.1, yiX6_totalOf.2.2.2, by decide, by decide⟩, ycX6_totalOf, zT_in 1044 (by decide +kernel) rfl, yvX6_totalOf, ywX6_totalOf⟩
theorem lkX7_spared_194 : zLkV mX7_spared 194 mX6_size 0 := ⟨⟨yiX6_size.1, yiX6_size.2.1, yiX6_size.2.2.1, yiX6_size.2.2.2, by decide, by decide⟩, ycX6_size, zT_in 252 (by decide +kernel) rfl, yvX6_size, ywX6_size⟩
theorem lkX7_spared_277 : zLkV mX7_spared 277 mX6_pagesMade 0 := ⟨⟨yiX6_pagesMade.1, yiX6_pagesMade.2.1, yiX6_pagesMade.2.2.1, yiX6_pagesMade.2.2.2, by decide, by decide⟩, ycX6_pagesMade, zT_in 256 (by decide +kernel) rfl, yvX6_pagesMade, ywX6_pagesMade⟩
theorem lkX7_account_194 : zLkV mX7_account 194 mX6_size 0 := ⟨⟨yiX6_size.1, yiX6_size.2.1, yiX6_size.2.2.1, yiX6_size.2.2.2, by decide, by decide⟩, ycX6_size, zT_in 252 (by decide +kernel) rfl, yvX6_size, ywX6_size⟩
theorem lkX7_account_277 : zLkV mX7_account 277 mX6_pagesMade 0 := ⟨⟨yiX6_pagesMade.1, yiX6_pagesMade.2.1, yiX6_pagesMade.2.2.1, yiX6_pagesMade.2.2.2, by decide, by decide⟩, ycX6_pagesMade, zT_in 256 (by decide +kernel) rfl, yvX6_pagesMade, ywX6_pagesMade⟩
theorem lkX7_account_283 : zLkV mX7_account 283 mX0_versionsOfHouses 0 := ⟨⟨yiX0_versionsOfHouses.1, yiX0_versionsOfHouses.2.1, yiX0_versionsOfHouses.2.2.1, yiX0_versionsOfHouses.2.2.2, by decide, by decide⟩, ycX0_versionsOfHouses, zT_in 1053 (by decide +kernel) rfl, yvX0_versionsOfHouses, ywX0_versionsOfHouses⟩
theorem lkX7_account_286 : zLkV mX7_account 286 mX6_withoutChildren 0 := ⟨⟨yiX6_withoutChildren.1, yiX6_withoutChildren.2.1, yiX6_withoutChildren.2.2.1, yiX6_withoutChildren.2.2.2, by decide, by decide⟩, ycX6_withoutChildren, zT_in 1058 (by decide +kernel) rfl, yvX6_withoutChildren, ywX6_withoutChildren⟩
theorem lkX7_account_295 : zLkV mX7_account 295 mX3_size 0 := ⟨⟨yiX3_size.1, yiX3_size.2.1, yiX3_size.2.2.1, yiX3_size.2.2.2, by decide, by decide⟩, ycX3_size, zT_in 1063 (by decide +kernel) rfl, yvX3_size, ywX3_size⟩
theorem lkX7_account_216 : zLkV mX7_account 216 mX2_size 0 := ⟨⟨yiX2_size.1, yiX2_size.2.1, yiX2_size.2.2.1, yiX2_size.2.2.2, by decide, by decide⟩, ycX2_size, zT_in 857 (by decide +kernel) rfl, yvX2_size, ywX2_size⟩
theorem lkX7_undo_295 : zLkV mX7_undo 295 mX3_size 0 := ⟨⟨yiX3_size.1, yiX3_size.2.1, yiX3_size.2.2.1, yiX3_size.2.2.2, by decide, by decide⟩, ycX3_size, zT_in 1063 (by decide +kernel) rfl, yvX3_size, ywX3_size⟩
theorem lkX7_undo_300 : zLkV mX7_undo 300 mX3_dropLatest 0 := ⟨⟨yiX3_dropLatest.1, yiX3_dropLatest.2.1, yiX3_dropLatest.2.2.1, yiX3_dropLatest.2.2.2, by decide, by decide⟩, ycX3_dropLatest, zT_in 1076 (by decide +kernel) rfl, yvX3_dropLatest, ywX3_dropLatest⟩
theorem lkX7_undo_303 : zLkV mX7_undo 303 mX3_takeBack 1 := ⟨⟨yiX3_takeBack.1, yiX3_takeBack.2.1, yiX3_takeBack.2.2.1, yiX3_takeBack.2.2.2, by decide, by decide⟩, ycX3_takeBack, zT_in 373 (by decide +kernel) rfl, yvX3_takeBack, ywX3_takeBack⟩
theorem lkX7_save_306 : zLkV mX7_save 306 mX0_copyFrom 1 := ⟨⟨yiX0_copyFrom.1, yiX0_copyFrom.2.1, yiX0_copyFrom.2.2.1, yiX0_copyFrom.2.2.2, by decide, by decide⟩, ycX0_copyFrom, zT_in 279 (by decide +kernel) rfl, yvX0_copyFrom, ywX0_copyFrom⟩
theorem lkX7_save_194 : zLkV mX7_save 194 mX6_size 0 := ⟨⟨yiX6_size.1, yiX6_size.2.1, yiX6_size.2.2.1, yiX6_size.2.2.2, by decide, by decide⟩, ycX6_size, zT_in 252 (by decide +kernel) rfl, yvX6_size, ywX6_size⟩
theorem lkX7_restore_306 : zLkV mX7_restore 306 mX0_copyFrom 1 := ⟨⟨yiX0_copyFrom.1, yiX0_copyFrom.2.1, yiX0_copyFrom.2.2.1, yiX0_copyFrom.2.2.2, by decide, by decide⟩, ycX0_copyFrom, zT_in 279 (by decide +kernel) rfl, yvX0_copyFrom, ywX0_copyFrom⟩
theorem lkX7_restore_311 : zLkV mX7_restore 311 mX3_forget 0 := ⟨⟨yiX3_forget.1, yiX3_forget.2.1, yiX3_forget.2.2.1, yiX3_forget.2.2.2, by decide, by decide⟩, ycX3_forget, zT_in 1088 (by decide +kernel) rfl, yvX3_forget, ywX3_forget⟩
theorem lkX7_restore_194 : zLkV mX7_restore 194 mX6_size 0 := ⟨⟨yiX6_size.1, yiX6_size.2.1, yiX6_size.2.2.1, yiX6_size.2.2.2, by decide, by decide⟩, ycX6_size, zT_in 252 (by decide +kernel) rfl, yvX6_size, ywX6_size⟩
theorem lkX7_settled_303 : zLkV mX7_settled 303 mX3_takeBack 1 := ⟨⟨yiX3_takeBack.1, yiX3_takeBack.2.1, yiX3_takeBack.2.2.1, yiX3_takeBack.2.2.2, by decide, by decide⟩, ycX3_takeBack, zT_in 373 (by decide +kernel) rfl, yvX3_takeBack, ywX3_takeBack⟩
theorem lkX7_settled_319 : zLkV mX7_settled 319 mX3_keep 0 := ⟨⟨yiX3_keep.1, yiX3_keep.2.1, yiX3_keep.2.2.1, yiX3_keep.2.2.2, by decide, by decide⟩, ycX3_keep, zT_in 455 (by decide +kernel) rfl, yvX3_keep, ywX3_keep⟩
theorem lkX7_checkVersion_322 : zLkV mX7_checkVersion 322 mX6_has 1 := ⟨⟨yiX6_has.1, yiX6_has.2.1, yiX6_has.2.2.1, yiX6_has.2.2.2, by decide, by decide⟩, ycX6_has, zT_in 575 (by decide +kernel) rfl, yvX6_has, ywX6_has⟩
theorem lkX7_checkHouse_328 : zLkS mX7_checkHouse 328 mX7_isHouse 1 := ⟨⟨yiX7_isHouse.1, yiX7_isHouse.2.1, yiX7_isHouse.2.2.1, yiX7_isHouse.2.2.2, by decide, by decide⟩, ycX7_isHouse, zT_in 545 (by decide +kernel) rfl, ysX7_isHouse⟩
theorem lkX7_checkLines_333 : zLkS mX7_checkLines 333 mX7_isLine 1 := ⟨⟨yiX7_isLine.1, yiX7_isLine.2.1, yiX7_isLine.2.2.1, yiX7_isLine.2.2.2, by decide, by decide⟩, ycX7_isLine, zT_in 580 (by decide +kernel) rfl, ysX7_isLine⟩
theorem lkX7_checkSpan_338 : zLkS mX7_checkSpan 338 mX7_isSpan 1 := ⟨⟨yiX7_isSpan.1, yiX7_isSpan.2.1, yiX7_isSpan.2.2.1, yiX7_isSpan.2.2.2, by decide, by decide⟩, ycX7_isSpan, zT_in 355 (by decide +kernel) rfl, ysX7_isSpan⟩
theorem lkX7_isInside_338 : zLkS mX7_isInside 338 mX7_isSpan 1 := ⟨⟨yiX7_isSpan.1, yiX7_isSpan.2.1, yiX7_isSpan.2.2.1, yiX7_isSpan.2.2.2, by decide, by decide⟩, ycX7_isSpan, zT_in 355 (by decide +kernel) rfl, ysX7_isSpan⟩
theorem lkX7_isCut_338 : zLkS mX7_isCut 338 mX7_isSpan 1 := ⟨⟨yiX7_isSpan.1, yiX7_isSpan.2.1, yiX7_isSpan.2.2.1, yiX7_isSpan.2.2.2, by decide, by decide⟩, ycX7_isSpan, zT_in 355 (by decide +kernel) rfl, ysX7_isSpan⟩
theorem zlX8_1 {M : zM} (h : M.1.cls = RX8) : Cond.methodLink M.1.cls 1 Lib.objectInit ∈ zT := by rw [h]; exact zT_in 1097 (by decide +kernel) rfl
theorem lkX8_keeps_64 : zLkS mX8_keeps 64 mX8_copies 4 := ⟨⟨yiX8_copies.1, yiX8_copies.2.1, yiX8_copies.2.2.1, yiX8_copies.2.2.2, by decide, by decide⟩, ycX8_copies, zT_in 1198 (by decide +kernel) rfl, ysX8_copies⟩
theorem lkX8_isVersion_68 : zLkS mX8_isVersion 68 mX8_in 3 := ⟨⟨yiX8_in.1, yiX8_in.2.1, yiX8_in.2.2.1, yiX8_in.2.2.2, by decide, by decide⟩, ycX8_in, zT_in 1176 (by decide +kernel) rfl, ysX8_in⟩
theorem lkX8_isHouse_68 : zLkS mX8_isHouse 68 mX8_in 3 := ⟨⟨yiX8_in.1, yiX8_in.2.1, yiX8_in.2.2.1, yiX8_in.2.2.2, by decide, by decide⟩, ycX8_in, zT_in 1176 (by decide +kernel) rfl, ysX8_in⟩
theorem lkX8_isLine_68 : zLkS mX8_isLine 68 mX8_in 3 := ⟨⟨yiX8_in.1, yiX8_in.2.1, yiX8_in.2.2.1, yiX8_in.2.2.2, by decide, by decide⟩, ycX8_in, zT_in 1176 (by decide +kernel) rfl, ysX8_in⟩
theorem lkX8_amountOf_72 : zLkV mX8_amountOf 72 mX8_of 2 := ⟨⟨yiX8_of.1, yiX8_of.2.1, yiX8_of.2.2.1, yiX8_of.2.2.2, by decide, by decide⟩, ycX8_of, zT_in 1190 (by decide +kernel) rfl, yvX8_of, ywX8_of⟩
theorem lkX8_comes_72 : zLkV mX8_comes 72 mX8_of 2 := ⟨⟨yiX8_of.1, yiX8_of.2.1, yiX8_of.2.2.1, yiX8_of.2.2.2, by decide, by decide⟩, ycX8_of, zT_in 1190 (by decide +kernel) rfl, yvX8_of, ywX8_of⟩
theorem lkX8_comes_76 : zLkV mX8_comes 76 mX8_lays 3 := ⟨⟨yiX8_lays.1, yiX8_lays.2.1, yiX8_lays.2.2.1, yiX8_lays.2.2.2, by decide, by decide⟩, ycX8_lays, zT_in 1205 (by decide +kernel) rfl, yvX8_lays, ywX8_lays⟩
theorem lkX8_write_80 : zLkS mX8_write 80 mX8_isHouse 1 := ⟨⟨yiX8_isHouse.1, yiX8_isHouse.2.1, yiX8_isHouse.2.2.1, yiX8_isHouse.2.2.2, by decide, by decide⟩, ycX8_isHouse, zT_in 1173 (by decide +kernel) rfl, ysX8_isHouse⟩
theorem lkX8_write_84 : zLkS mX8_write 84 mX8_isLine 1 := ⟨⟨yiX8_isLine.1, yiX8_isLine.2.1, yiX8_isLine.2.2.1, yiX8_isLine.2.2.2, by decide, by decide⟩, ycX8_isLine, zT_in 1179 (by decide +kernel) rfl, ysX8_isLine⟩
theorem lkX8_write_68 : zLkS mX8_write 68 mX8_in 3 := ⟨⟨yiX8_in.1, yiX8_in.2.1, yiX8_in.2.2.1, yiX8_in.2.2.2, by decide, by decide⟩, ycX8_in, zT_in 1176 (by decide +kernel) rfl, ysX8_in⟩
theorem lkX8_write_87 : zLkV mX8_write 87 mX8_refuses 2 := ⟨⟨yiX8_refuses.1, yiX8_refuses.2.1, yiX8_refuses.2.2.1, yiX8_refuses.2.2.2, by decide, by decide⟩, ycX8_refuses, zT_in 1182 (by decide +kernel) rfl, yvX8_refuses, ywX8_refuses⟩
theorem lkX8_write_90 : zLkV mX8_write 90 mX8_amountOf 2 := ⟨⟨yiX8_amountOf.1, yiX8_amountOf.2.1, yiX8_amountOf.2.2.1, yiX8_amountOf.2.2.2, by decide, by decide⟩, ycX8_amountOf, zT_in 1186 (by decide +kernel) rfl, yvX8_amountOf, ywX8_amountOf⟩
theorem lkX8_write_93 : zLkV mX8_write 93 mX8_keeps 1 := ⟨⟨yiX8_keeps.1, yiX8_keeps.2.1, yiX8_keeps.2.2.1, yiX8_keeps.2.2.2, by decide, by decide⟩, ycX8_keeps, zT_in 1194 (by decide +kernel) rfl, yvX8_keeps, ywX8_keeps⟩
theorem lkX8_write_97 : zLkV mX8_write 97 mX8_comes 1 := ⟨⟨yiX8_comes.1, yiX8_comes.2.1, yiX8_comes.2.2.1, yiX8_comes.2.2.2, by decide, by decide⟩, ycX8_comes, zT_in 1201 (by decide +kernel) rfl, yvX8_comes, ywX8_comes⟩
theorem lkX8_write_76 : zLkV mX8_write 76 mX8_lays 3 := ⟨⟨yiX8_lays.1, yiX8_lays.2.1, yiX8_lays.2.2.1, yiX8_lays.2.2.2, by decide, by decide⟩, ycX8_lays, zT_in 1205 (by decide +kernel) rfl, yvX8_lays, ywX8_lays⟩
theorem lkX8_write_101 : zLkV mX8_write 101 mX8_has 3 := ⟨⟨yiX8_has.1, yiX8_has.2.1, yiX8_has.2.2.1, yiX8_has.2.2.2, by decide, by decide⟩, ycX8_has, zT_in 1209 (by decide +kernel) rfl, yvX8_has, ywX8_has⟩
theorem lkX8_areLike_90 : zLkV mX8_areLike 90 mX8_amountOf 2 := ⟨⟨yiX8_amountOf.1, yiX8_amountOf.2.1, yiX8_amountOf.2.2.1, yiX8_amountOf.2.2.2, by decide, by decide⟩, ycX8_amountOf, zT_in 1186 (by decide +kernel) rfl, yvX8_amountOf, ywX8_amountOf⟩
theorem lkX8_graft_80 : zLkS mX8_graft 80 mX8_isHouse 1 := ⟨⟨yiX8_isHouse.1, yiX8_isHouse.2.1, yiX8_isHouse.2.2.1, yiX8_isHouse.2.2.2, by decide, by decide⟩, ycX8_isHouse, zT_in 1173 (by decide +kernel) rfl, ysX8_isHouse⟩
theorem lkX8_graft_84 : zLkS mX8_graft 84 mX8_isLine 1 := ⟨⟨yiX8_isLine.1, yiX8_isLine.2.1, yiX8_isLine.2.2.1, yiX8_isLine.2.2.2, by decide, by decide⟩, ycX8_isLine, zT_in 1179 (by decide +kernel) rfl, ysX8_isLine⟩
theorem lkX8_graft_87 : zLkV mX8_graft 87 mX8_refuses 2 := ⟨⟨yiX8_refuses.1, yiX8_refuses.2.1, yiX8_refuses.2.2.1, yiX8_refuses.2.2.2, by decide, by decide⟩, ycX8_refuses, zT_in 1182 (by decide +kernel) rfl, yvX8_refuses, ywX8_refuses⟩
theorem lkX8_graft_104 : zLkV mX8_graft 104 mX8_isVersion 1 := ⟨⟨yiX8_isVersion.1, yiX8_isVersion.2.1, yiX8_isVersion.2.2.1, yiX8_isVersion.2.2.2, by decide, by decide⟩, ycX8_isVersion, zT_in 1217 (by decide +kernel) rfl, yvX8_isVersion, ywX8_isVersion⟩
theorem lkX8_graft_107 : zLkV mX8_graft 107 mX8_areLike 4 := ⟨⟨yiX8_areLike.1, yiX8_areLike.2.1, yiX8_areLike.2.2.1, yiX8_areLike.2.2.2, by decide, by decide⟩, ycX8_areLike, zT_in 1221 (by decide +kernel) rfl, yvX8_areLike, ywX8_areLike⟩
theorem lkX8_graft_93 : zLkV mX8_graft 93 mX8_keeps 1 := ⟨⟨yiX8_keeps.1, yiX8_keeps.2.1, yiX8_keeps.2.2.1, yiX8_keeps.2.2.2, by decide, by decide⟩, ycX8_keeps, zT_in 1194 (by decide +kernel) rfl, yvX8_keeps, ywX8_keeps⟩
theorem lkX8_graft_97 : zLkV mX8_graft 97 mX8_comes 1 := ⟨⟨yiX8_comes.1, yiX8_comes.2.1, yiX8_comes.2.2.1, yiX8_comes.2.2.2, by decide, by decide⟩, ycX8_comes, zT_in 1201 (by decide +kernel) rfl, yvX8_comes, ywX8_comes⟩
theorem lkX8_graft_90 : zLkV mX8_graft 90 mX8_amountOf 2 := ⟨⟨yiX8_amountOf.1, yiX8_amountOf.2.1, yiX8_amountOf.2.2.1, yiX8_amountOf.2.2.2, by decide, by decide⟩, ycX8_amountOf, zT_in 1186 (by decide +kernel) rfl, yvX8_amountOf, ywX8_amountOf⟩
theorem lkX8_graft_76 : zLkV mX8_graft 76 mX8_lays 3 := ⟨⟨yiX8_lays.1, yiX8_lays.2.1, yiX8_lays.2.2.1, yiX8_lays.2.2.2, by decide, by decide⟩, ycX8_lays, zT_in 1205 (by decide +kernel) rfl, yvX8_lays, ywX8_lays⟩
theorem lkX8_graft_101 : zLkV mX8_graft 101 mX8_has 3 := ⟨⟨yiX8_has.1, yiX8_has.2.1, yiX8_has.2.2.1, yiX8_has.2.2.2, by decide, by decide⟩, ycX8_has, zT_in 1209 (by decide +kernel) rfl, yvX8_has, ywX8_has⟩
theorem lkX8_graft_111 : zLkV mX8_graft 111 mX8_isWithin0 3 := ⟨⟨yiX8_isWithin0.1, yiX8_isWithin0.2.1, yiX8_isWithin0.2.2.1, yiX8_isWithin0.2.2.2, by decide, by decide⟩, ycX8_isWithin0, zT_in 1225 (by decide +kernel) rfl, yvX8_isWithin0, ywX8_isWithin0⟩
theorem lkX8_graft_72 : zLkV mX8_graft 72 mX8_of 2 := ⟨⟨yiX8_of.1, yiX8_of.2.1, yiX8_of.2.2.1, yiX8_of.2.2.2, by decide, by decide⟩, ycX8_of, zT_in 1190 (by decide +kernel) rfl, yvX8_of, ywX8_of⟩
theorem lkX8_fork_80 : zLkS mX8_fork 80 mX8_isHouse 1 := ⟨⟨yiX8_isHouse.1, yiX8_isHouse.2.1, yiX8_isHouse.2.2.1, yiX8_isHouse.2.2.2, by decide, by decide⟩, ycX8_isHouse, zT_in 1173 (by decide +kernel) rfl, ysX8_isHouse⟩
theorem lkX8_fork_87 : zLkV mX8_fork 87 mX8_refuses 2 := ⟨⟨yiX8_refuses.1, yiX8_refuses.2.1, yiX8_refuses.2.2.1, yiX8_refuses.2.2.2, by decide, by decide⟩, ycX8_refuses, zT_in 1182 (by decide +kernel) rfl, yvX8_refuses, ywX8_refuses⟩
theorem lkX8_fork_93 : zLkV mX8_fork 93 mX8_keeps 1 := ⟨⟨yiX8_keeps.1, yiX8_keeps.2.1, yiX8_keeps.2.2.1, yiX8_keeps.2.2.2, by decide, by decide⟩, ycX8_keeps, zT_in 1194 (by decide +kernel) rfl, yvX8_keeps, ywX8_keeps⟩
theorem lkX8_ancestors_72 : zLkV mX8_ancestors 72 mX8_of 2 := ⟨⟨yiX8_of.1, yiX8_of.2.1, yiX8_of.2.2.1, yiX8_of.2.2.2, by decide, by decide⟩, ycX8_of, zT_in 1190 (by decide +kernel) rfl, yvX8_of, ywX8_of⟩
theorem lkX8_back_80 : zLkS mX8_back 80 mX8_isHouse 1 := ⟨⟨yiX8_isHouse.1, yiX8_isHouse.2.1, yiX8_isHouse.2.2.1, yiX8_isHouse.2.2.2, by decide, by decide⟩, ycX8_isHouse, zT_in 1173 (by decide +kernel) rfl, ysX8_isHouse⟩
theorem lkX8_back_68 : zLkS mX8_back 68 mX8_in 3 := ⟨⟨yiX8_in.1, yiX8_in.2.1, yiX8_in.2.2.1, yiX8_in.2.2.2, by decide, by decide⟩, ycX8_in, zT_in 1176 (by decide +kernel) rfl, ysX8_in⟩
theorem lkX8_back_87 : zLkV mX8_back 87 mX8_refuses 2 := ⟨⟨yiX8_refuses.1, yiX8_refuses.2.1, yiX8_refuses.2.2.1, yiX8_refuses.2.2.2, by decide, by decide⟩, ycX8_refuses, zT_in 1182 (by decide +kernel) rfl, yvX8_refuses, ywX8_refuses⟩
theorem lkX8_back_114 : zLkV mX8_back 114 mX8_ancestors 1 := ⟨⟨yiX8_ancestors.1, yiX8_ancestors.2.1, yiX8_ancestors.2.2.1, yiX8_ancestors.2.2.2, by decide, by decide⟩, ycX8_ancestors, zT_in 1237 (by decide +kernel) rfl, yvX8_ancestors, ywX8_ancestors⟩
theorem lkX8_back_93 : zLkV mX8_back 93 mX8_keeps 1 := ⟨⟨yiX8_keeps.1, yiX8_keeps.2.1, yiX8_keeps.2.2.1, yiX8_keeps.2.2.2, by decide, by decide⟩, ycX8_keeps, zT_in 1194 (by decide +kernel) rfl, yvX8_keeps, ywX8_keeps⟩
theorem lkX8_back_72 : zLkV mX8_back 72 mX8_of 2 := ⟨⟨yiX8_of.1, yiX8_of.2.1, yiX8_of.2.2.1, yiX8_of.2.2.2, by decide, by decide⟩, ycX8_of, zT_in 1190 (by decide +kernel) rfl, yvX8_of, ywX8_of⟩
theorem lkX8_pass_68 : zLkS mX8_pass 68 mX8_in 3 := ⟨⟨yiX8_in.1, yiX8_in.2.1, yiX8_in.2.2.1, yiX8_in.2.2.2, by decide, by decide⟩, ycX8_in, zT_in 1176 (by decide +kernel) rfl, ysX8_in⟩
theorem lkX8_pass_87 : zLkV mX8_pass 87 mX8_refuses 2 := ⟨⟨yiX8_refuses.1, yiX8_refuses.2.1, yiX8_refuses.2.2.1, yiX8_refuses.2.2.2, by decide, by decide⟩, ycX8_refuses, zT_in 1182 (by decide +kernel) rfl, yvX8_refuses, ywX8_refuses⟩
theorem lkX8_pass_93 : zLkV mX8_pass 93 mX8_keeps 1 := ⟨⟨yiX8_keeps.1, yiX8_keeps.2.1, yiX8_keeps.2.2.1, yiX8_keeps.2.2.2, by decide, by decide⟩, ycX8_keeps, zT_in 1194 (by decide +kernel) rfl, yvX8_keeps, ywX8_keeps⟩
theorem lkX8_ledger_80 : zLkS mX8_ledger 80 mX8_isHouse 1 := ⟨⟨yiX8_isHouse.1, yiX8_isHouse.2.1, yiX8_isHouse.2.2.1, yiX8_isHouse.2.2.2, by decide, by decide⟩, ycX8_isHouse, zT_in 1173 (by decide +kernel) rfl, ysX8_isHouse⟩
theorem lkX8_ledger_117 : zLkV mX8_ledger 117 mX8_fails 1 := ⟨⟨yiX8_fails.1, yiX8_fails.2.1, yiX8_fails.2.2.1, yiX8_fails.2.2.2, by decide, by decide⟩, ycX8_fails, zT_in 1249 (by decide +kernel) rfl, yvX8_fails, ywX8_fails⟩
theorem lkX8_amount_104 : zLkV mX8_amount 104 mX8_isVersion 1 := ⟨⟨yiX8_isVersion.1, yiX8_isVersion.2.1, yiX8_isVersion.2.2.1, yiX8_isVersion.2.2.2, by decide, by decide⟩, ycX8_isVersion, zT_in 1217 (by decide +kernel) rfl, yvX8_isVersion, ywX8_isVersion⟩
theorem lkX8_amount_84 : zLkS mX8_amount 84 mX8_isLine 1 := ⟨⟨yiX8_isLine.1, yiX8_isLine.2.1, yiX8_isLine.2.2.1, yiX8_isLine.2.2.2, by decide, by decide⟩, ycX8_isLine, zT_in 1179 (by decide +kernel) rfl, ysX8_isLine⟩
theorem lkX8_amount_117 : zLkV mX8_amount 117 mX8_fails 1 := ⟨⟨yiX8_fails.1, yiX8_fails.2.1, yiX8_fails.2.2.1, yiX8_fails.2.2.2, by decide, by decide⟩, ycX8_fails, zT_in 1249 (by decide +kernel) rfl, yvX8_fails, ywX8_fails⟩
theorem lkX8_amount_90 : zLkV mX8_amount 90 mX8_amountOf 2 := ⟨⟨yiX8_amountOf.1, yiX8_amountOf.2.1, yiX8_amountOf.2.2.1, yiX8_amountOf.2.2.2, by decide, by decide⟩, ycX8_amountOf, zT_in 1186 (by decide +kernel) rfl, yvX8_amountOf, ywX8_amountOf⟩
theorem lkX8_sumOf_90 : zLkV mX8_sumOf 90 mX8_amountOf 2 := ⟨⟨yiX8_amountOf.1, yiX8_amountOf.2.1, yiX8_amountOf.2.2.1, yiX8_amountOf.2.2.2, by decide, by decide⟩, ycX8_amountOf, zT_in 1186 (by decide +kernel) rfl, yvX8_amountOf, ywX8_amountOf⟩
theorem lkX8_areLines_84 : zLkS mX8_areLines 84 mX8_isLine 1 := ⟨⟨yiX8_isLine.1, yiX8_isLine.2.1, yiX8_isLine.2.2.1, yiX8_isLine.2.2.2, by decide, by decide⟩, ycX8_isLine, zT_in 1179 (by decide +kernel) rfl, ysX8_isLine⟩
theorem lkX8_sum_104 : zLkV mX8_sum 104 mX8_isVersion 1 := ⟨⟨yiX8_isVersion.1, yiX8_isVersion.2.1, yiX8_isVersion.2.2.1, yiX8_isVersion.2.2.2, by decide, by decide⟩, ycX8_isVersion, zT_in 1217 (by decide +kernel) rfl, yvX8_isVersion, ywX8_isVersion⟩
theorem lkX8_sum_120 : zLkS mX8_sum 120 mX8_areLines 2 := ⟨⟨yiX8_areLines.1, yiX8_areLines.2.1, yiX8_areLines.2.2.1, yiX8_areLines.2.2.2, by decide, by decide⟩, ycX8_areLines, zT_in 1261 (by decide +kernel) rfl, ysX8_areLines⟩
theorem lkX8_sum_117 : zLkV mX8_sum 117 mX8_fails 1 := ⟨⟨yiX8_fails.1, yiX8_fails.2.1, yiX8_fails.2.2.1, yiX8_fails.2.2.2, by decide, by decide⟩, ycX8_fails, zT_in 1249 (by decide +kernel) rfl, yvX8_fails, ywX8_fails⟩
theorem lkX8_sum_124 : zLkV mX8_sum 124 mX8_sumOf 3 := ⟨⟨yiX8_sumOf.1, yiX8_sumOf.2.1, yiX8_sumOf.2.2.1, yiX8_sumOf.2.2.2, by decide, by decide⟩, ycX8_sumOf, zT_in 1264 (by decide +kernel) rfl, yvX8_sumOf, ywX8_sumOf⟩
theorem lkX8_sumAgain_128 : zLkV mX8_sumAgain 128 mX8_sum 3 := ⟨⟨yiX8_sum.1, yiX8_sum.2.1, yiX8_sum.2.2.1, yiX8_sum.2.2.2, by decide, by decide⟩, ycX8_sum, zT_in 1272 (by decide +kernel) rfl, yvX8_sum, ywX8_sum⟩
theorem lkX8_most_104 : zLkV mX8_most 104 mX8_isVersion 1 := ⟨⟨yiX8_isVersion.1, yiX8_isVersion.2.1, yiX8_isVersion.2.2.1, yiX8_isVersion.2.2.2, by decide, by decide⟩, ycX8_isVersion, zT_in 1217 (by decide +kernel) rfl, yvX8_isVersion, ywX8_isVersion⟩
theorem lkX8_most_120 : zLkS mX8_most 120 mX8_areLines 2 := ⟨⟨yiX8_areLines.1, yiX8_areLines.2.1, yiX8_areLines.2.2.1, yiX8_areLines.2.2.2, by decide, by decide⟩, ycX8_areLines, zT_in 1261 (by decide +kernel) rfl, ysX8_areLines⟩
theorem lkX8_most_117 : zLkV mX8_most 117 mX8_fails 1 := ⟨⟨yiX8_fails.1, yiX8_fails.2.1, yiX8_fails.2.2.1, yiX8_fails.2.2.2, by decide, by decide⟩, ycX8_fails, zT_in 1249 (by decide +kernel) rfl, yvX8_fails, ywX8_fails⟩
theorem lkX8_most_90 : zLkV mX8_most 90 mX8_amountOf 2 := ⟨⟨yiX8_amountOf.1, yiX8_amountOf.2.1, yiX8_amountOf.2.2.1, yiX8_amountOf.2.2.2, by decide, by decide⟩, ycX8_amountOf, zT_in 1186 (by decide +kernel) rfl, yvX8_amountOf, ywX8_amountOf⟩
theorem lkX8_reached_104 : zLkV mX8_reached 104 mX8_isVersion 1 := ⟨⟨yiX8_isVersion.1, yiX8_isVersion.2.1, yiX8_isVersion.2.2.1, yiX8_isVersion.2.2.2, by decide, by decide⟩, ycX8_isVersion, zT_in 1217 (by decide +kernel) rfl, yvX8_isVersion, ywX8_isVersion⟩
theorem lkX8_reached_117 : zLkV mX8_reached 117 mX8_fails 1 := ⟨⟨yiX8_fails.1, yiX8_fails.2.1, yiX8_fails.2.2.1, yiX8_fails.2.2.2, by decide, by decide⟩, ycX8_fails, zT_in 1249 (by decide +kernel) rfl, yvX8_fails, ywX8_fails⟩
theorem lkX8_reached_124 : zLkV mX8_reached 124 mX8_sumOf 3 := ⟨⟨yiX8_sumOf.1, yiX8_sumOf.2.1, yiX8_sumOf.2.2.1, yiX8_sumOf.2.2.2, by decide, by decide⟩, ycX8_sumOf, zT_in 1264 (by decide +kernel) rfl, yvX8_sumOf, ywX8_sumOf⟩
theorem lkX8_children_72 : zLkV mX8_children 72 mX8_of 2 := ⟨⟨yiX8_of.1, yiX8_of.2.1, yiX8_of.2.2.1, yiX8_of.2.2.2, by decide, by decide⟩, ycX8_of, zT_in 1190 (by decide +kernel) rfl, yvX8_of, ywX8_of⟩
theorem lkX8_made_72 : zLkV mX8_made 72 mX8_of 2 := ⟨⟨yiX8_of.1, yiX8_of.2.1, yiX8_of.2.2.1, yiX8_of.2.2.2, by decide, by decide⟩, ycX8_of, zT_in 1190 (by decide +kernel) rfl, yvX8_of, ywX8_of⟩
theorem lkX8_apart0_90 : zLkV mX8_apart0 90 mX8_amountOf 2 := ⟨⟨yiX8_amountOf.1, yiX8_amountOf.2.1, yiX8_amountOf.2.2.1, yiX8_amountOf.2.2.2, by decide, by decide⟩, ycX8_amountOf, zT_in 1186 (by decide +kernel) rfl, yvX8_amountOf, ywX8_amountOf⟩
theorem lkX8_versionOf_104 : zLkV mX8_versionOf 104 mX8_isVersion 1 := ⟨⟨yiX8_isVersion.1, yiX8_isVersion.2.1, yiX8_isVersion.2.2.1, yiX8_isVersion.2.2.2, by decide, by decide⟩, ycX8_isVersion, zT_in 1217 (by decide +kernel) rfl, yvX8_isVersion, ywX8_isVersion⟩
theorem lkX8_versionOf_68 : zLkS mX8_versionOf 68 mX8_in 3 := ⟨⟨yiX8_in.1, yiX8_in.2.1, yiX8_in.2.2.1, yiX8_in.2.2.2, by decide, by decide⟩, ycX8_in, zT_in 1176 (by decide +kernel) rfl, ysX8_in⟩
theorem lkX8_versionOf_117 : zLkV mX8_versionOf 117 mX8_fails 1 := ⟨⟨yiX8_fails.1, yiX8_fails.2.1, yiX8_fails.2.2.1, yiX8_fails.2.2.2, by decide, by decide⟩, ycX8_fails, zT_in 1249 (by decide +kernel) rfl, yvX8_fails, ywX8_fails⟩
theorem lkX8_versionOf_72 : zLkV mX8_versionOf 72 mX8_of 2 := ⟨⟨yiX8_of.1, yiX8_of.2.1, yiX8_of.2.2.1, yiX8_of.2.2.2, by decide, by decide⟩, ycX8_of, zT_in 1190 (by decide +kernel) rfl, yvX8_of, ywX8_of⟩
theorem lkX8_versionOf_114 : zLkV mX8_versionOf 114 mX8_ancestors 1 := ⟨⟨yiX8_ancestors.1, yiX8_ancestors.2.1, yiX8_ancestors.2.2.1, yiX8_ancestors.2.2.2, by decide, by decide⟩, ycX8_ancestors, zT_in 1237 (by decide +kernel) rfl, yvX8_ancestors, ywX8_ancestors⟩
theorem lkX8_versionOf_131 : zLkV mX8_versionOf 131 mX8_children 1 := ⟨⟨yiX8_children.1, yiX8_children.2.1, yiX8_children.2.2.1, yiX8_children.2.2.2, by decide, by decide⟩, ycX8_children, zT_in 1285 (by decide +kernel) rfl, yvX8_children, ywX8_children⟩
theorem lkX8_versionOf_134 : zLkV mX8_versionOf 134 mX8_made 1 := ⟨⟨yiX8_made.1, yiX8_made.2.1, yiX8_made.2.2.1, yiX8_made.2.2.2, by decide, by decide⟩, ycX8_made, zT_in 1289 (by decide +kernel) rfl, yvX8_made, ywX8_made⟩
theorem lkX8_versionOf_137 : zLkV mX8_versionOf 137 mX8_apart0 2 := ⟨⟨yiX8_apart0.1, yiX8_apart0.2.1, yiX8_apart0.2.2.1, yiX8_apart0.2.2.2, by decide, by decide⟩, ycX8_apart0, zT_in 1293 (by decide +kernel) rfl, yvX8_apart0, ywX8_apart0⟩
theorem lkX8_versionOf_140 : zLkV mX8_versionOf 140 mX8_houses 1 := ⟨⟨yiX8_houses.1, yiX8_houses.2.1, yiX8_houses.2.2.1, yiX8_houses.2.2.2, by decide, by decide⟩, ycX8_houses, zT_in 1297 (by decide +kernel) rfl, yvX8_houses, ywX8_houses⟩
theorem lkX8_maker_104 : zLkV mX8_maker 104 mX8_isVersion 1 := ⟨⟨yiX8_isVersion.1, yiX8_isVersion.2.1, yiX8_isVersion.2.2.1, yiX8_isVersion.2.2.2, by decide, by decide⟩, ycX8_isVersion, zT_in 1217 (by decide +kernel) rfl, yvX8_isVersion, ywX8_isVersion⟩
theorem lkX8_maker_68 : zLkS mX8_maker 68 mX8_in 3 := ⟨⟨yiX8_in.1, yiX8_in.2.1, yiX8_in.2.2.1, yiX8_in.2.2.2, by decide, by decide⟩, ycX8_in, zT_in 1176 (by decide +kernel) rfl, ysX8_in⟩
theorem lkX8_maker_117 : zLkV mX8_maker 117 mX8_fails 1 := ⟨⟨yiX8_fails.1, yiX8_fails.2.1, yiX8_fails.2.2.1, yiX8_fails.2.2.2, by decide, by decide⟩, ycX8_fails, zT_in 1249 (by decide +kernel) rfl, yvX8_fails, ywX8_fails⟩
theorem lkX8_maker_72 : zLkV mX8_maker 72 mX8_of 2 := ⟨⟨yiX8_of.1, yiX8_of.2.1, yiX8_of.2.2.1, yiX8_of.2.2.2, by decide, by decide⟩, ycX8_of, zT_in 1190 (by decide +kernel) rfl, yvX8_of, ywX8_of⟩
theorem lkX8_had_80 : zLkS mX8_had 80 mX8_isHouse 1 := ⟨⟨yiX8_isHouse.1, yiX8_isHouse.2.1, yiX8_isHouse.2.2.1, yiX8_isHouse.2.2.2, by decide, by decide⟩, ycX8_isHouse, zT_in 1173 (by decide +kernel) rfl, ysX8_isHouse⟩
theorem lkX8_had_68 : zLkS mX8_had 68 mX8_in 3 := ⟨⟨yiX8_in.1, yiX8_in.2.1, yiX8_in.2.2.1, yiX8_in.2.2.2, by decide, by decide⟩, ycX8_in, zT_in 1176 (by decide +kernel) rfl, ysX8_in⟩
theorem lkX8_had_117 : zLkV mX8_had 117 mX8_fails 1 := ⟨⟨yiX8_fails.1, yiX8_fails.2.1, yiX8_fails.2.2.1, yiX8_fails.2.2.2, by decide, by decide⟩, ycX8_fails, zT_in 1249 (by decide +kernel) rfl, yvX8_fails, ywX8_fails⟩
theorem lkX8_had_72 : zLkV mX8_had 72 mX8_of 2 := ⟨⟨yiX8_of.1, yiX8_of.2.1, yiX8_of.2.2.1, yiX8_of.2.2.2, by decide, by decide⟩, ycX8_of, zT_in 1190 (by decide +kernel) rfl, yvX8_of, ywX8_of⟩
theorem lkX8_since_104 : zLkV mX8_since 104 mX8_isVersion 1 := ⟨⟨yiX8_isVersion.1, yiX8_isVersion.2.1, yiX8_isVersion.2.2.1, yiX8_isVersion.2.2.2, by decide, by decide⟩, ycX8_isVersion, zT_in 1217 (by decide +kernel) rfl, yvX8_isVersion, ywX8_isVersion⟩
theorem lkX8_since_84 : zLkS mX8_since 84 mX8_isLine 1 := ⟨⟨yiX8_isLine.1, yiX8_isLine.2.1, yiX8_isLine.2.2.1, yiX8_isLine.2.2.2, by decide, by decide⟩, ycX8_isLine, zT_in 1179 (by decide +kernel) rfl, ysX8_isLine⟩
theorem lkX8_since_117 : zLkV mX8_since 117 mX8_fails 1 := ⟨⟨yiX8_fails.1, yiX8_fails.2.1, yiX8_fails.2.2.1, yiX8_fails.2.2.2, by decide, by decide⟩, ycX8_fails, zT_in 1249 (by decide +kernel) rfl, yvX8_fails, ywX8_fails⟩
theorem lkX8_since_72 : zLkV mX8_since 72 mX8_of 2 := ⟨⟨yiX8_of.1, yiX8_of.2.1, yiX8_of.2.2.1, yiX8_of.2.2.2, by decide, by decide⟩, ycX8_of, zT_in 1190 (by decide +kernel) rfl, yvX8_of, ywX8_of⟩
theorem lkX8_since_90 : zLkV mX8_since 90 mX8_amountOf 2 := ⟨⟨yiX8_amountOf.1, yiX8_amountOf.2.1, yiX8_amountOf.2.2.1, yiX8_amountOf.2.2.2, by decide, by decide⟩, ycX8_amountOf, zT_in 1186 (by decide +kernel) rfl, yvX8_amountOf, ywX8_amountOf⟩
theorem lkX8_areVersions_104 : zLkV mX8_areVersions 104 mX8_isVersion 1 := ⟨⟨yiX8_isVersion.1, yiX8_isVersion.2.1, yiX8_isVersion.2.2.1, yiX8_isVersion.2.2.2, by decide, by decide⟩, ycX8_isVersion, zT_in 1217 (by decide +kernel) rfl, yvX8_isVersion, ywX8_isVersion⟩
theorem lkX8_areVersions_117 : zLkV mX8_areVersions 117 mX8_fails 1 := ⟨⟨yiX8_fails.1, yiX8_fails.2.1, yiX8_fails.2.2.1, yiX8_fails.2.2.2, by decide, by decide⟩, ycX8_fails, zT_in 1249 (by decide +kernel) rfl, yvX8_fails, ywX8_fails⟩
theorem lkX8_common_143 : zLkV mX8_common 143 mX8_areVersions 2 := ⟨⟨yiX8_areVersions.1, yiX8_areVersions.2.1, yiX8_areVersions.2.2.1, yiX8_areVersions.2.2.2, by decide, by decide⟩, ycX8_areVersions, zT_in 1317 (by decide +kernel) rfl, yvX8_areVersions, ywX8_areVersions⟩
theorem lkX8_common_72 : zLkV mX8_common 72 mX8_of 2 := ⟨⟨yiX8_of.1, yiX8_of.2.1, yiX8_of.2.2.1, yiX8_of.2.2.2, by decide, by decide⟩, ycX8_of, zT_in 1190 (by decide +kernel) rfl, yvX8_of, ywX8_of⟩
theorem lkX8_apart_143 : zLkV mX8_apart 143 mX8_areVersions 2 := ⟨⟨yiX8_areVersions.1, yiX8_areVersions.2.1, yiX8_areVersions.2.2.1, yiX8_areVersions.2.2.2, by decide, by decide⟩, ycX8_areVersions, zT_in 1317 (by decide +kernel) rfl, yvX8_areVersions, ywX8_areVersions⟩
theorem lkX8_apart_137 : zLkV mX8_apart 137 mX8_apart0 2 := ⟨⟨yiX8_apart0.1, yiX8_apart0.2.1, yiX8_apart0.2.2.1, yiX8_apart0.2.2.2, by decide, by decide⟩, ycX8_apart0, zT_in 1293 (by decide +kernel) rfl, yvX8_apart0, ywX8_apart0⟩
theorem lkX8_shared_143 : zLkV mX8_shared 143 mX8_areVersions 2 := ⟨⟨yiX8_areVersions.1, yiX8_areVersions.2.1, yiX8_areVersions.2.2.1, yiX8_areVersions.2.2.2, by decide, by decide⟩, ycX8_areVersions, zT_in 1317 (by decide +kernel) rfl, yvX8_areVersions, ywX8_areVersions⟩
theorem lkX8_shared_72 : zLkV mX8_shared 72 mX8_of 2 := ⟨⟨yiX8_of.1, yiX8_of.2.1, yiX8_of.2.2.1, yiX8_of.2.2.2, by decide, by decide⟩, ycX8_of, zT_in 1190 (by decide +kernel) rfl, yvX8_of, ywX8_of⟩
theorem lkX8_isOf_143 : zLkV mX8_isOf 143 mX8_areVersions 2 := ⟨⟨yiX8_areVersions.1, yiX8_areVersions.2.1, yiX8_areVersions.2.2.1, yiX8_areVersions.2.2.2, by decide, by decide⟩, ycX8_areVersions, zT_in 1317 (by decide +kernel) rfl, yvX8_areVersions, ywX8_areVersions⟩
theorem lkX8_isOf_72 : zLkV mX8_isOf 72 mX8_of 2 := ⟨⟨yiX8_of.1, yiX8_of.2.1, yiX8_of.2.2.1, yiX8_of.2.2.2, by decide, by decide⟩, ycX8_of, zT_in 1190 (by decide +kernel) rfl, yvX8_of, ywX8_of⟩
theorem lkX8_usersOf_72 : zLkV mX8_usersOf 72 mX8_of 2 := ⟨⟨yiX8_of.1, yiX8_of.2.1, yiX8_of.2.2.1, yiX8_of.2.2.2, by decide, by decide⟩, ycX8_of, zT_in 1190 (by decide +kernel) rfl, yvX8_of, ywX8_of⟩
theorem lkX8_users_104 : zLkV mX8_users 104 mX8_isVersion 1 := ⟨⟨yiX8_isVersion.1, yiX8_isVersion.2.1, yiX8_isVersion.2.2.1, yiX8_isVersion.2.2.2, by decide, by decide⟩, ycX8_isVersion, zT_in 1217 (by decide +kernel) rfl, yvX8_isVersion, ywX8_isVersion⟩
theorem lkX8_users_68 : zLkS mX8_users 68 mX8_in 3 := ⟨⟨yiX8_in.1, yiX8_in.2.1, yiX8_in.2.2.1, yiX8_in.2.2.2, by decide, by decide⟩, ycX8_in, zT_in 1176 (by decide +kernel) rfl, ysX8_in⟩
theorem lkX8_users_117 : zLkV mX8_users 117 mX8_fails 1 := ⟨⟨yiX8_fails.1, yiX8_fails.2.1, yiX8_fails.2.2.1, yiX8_fails.2.2.2, by decide, by decide⟩, ycX8_fails, zT_in 1249 (by decide +kernel) rfl, yvX8_fails, ywX8_fails⟩
theorem lkX8_users_72 : zLkV mX8_users 72 mX8_of 2 := ⟨⟨yiX8_of.1, yiX8_of.2.1, yiX8_of.2.2.1, yiX8_of.2.2.2, by decide, by decide⟩, ycX8_of, zT_in 1190 (by decide +kernel) rfl, yvX8_of, ywX8_of⟩
theorem lkX8_users_146 : zLkV mX8_users 146 mX8_usersOf 2 := ⟨⟨yiX8_usersOf.1, yiX8_usersOf.2.1, yiX8_usersOf.2.2.1, yiX8_usersOf.2.2.2, by decide, by decide⟩, ycX8_usersOf, zT_in 1337 (by decide +kernel) rfl, yvX8_usersOf, ywX8_usersOf⟩
theorem lkX8_wouldMake_120 : zLkS mX8_wouldMake 120 mX8_areLines 2 := ⟨⟨yiX8_areLines.1, yiX8_areLines.2.1, yiX8_areLines.2.2.1, yiX8_areLines.2.2.2, by decide, by decide⟩, ycX8_areLines, zT_in 1261 (by decide +kernel) rfl, ysX8_areLines⟩
theorem lkX8_wouldMake_117 : zLkV mX8_wouldMake 117 mX8_fails 1 := ⟨⟨yiX8_fails.1, yiX8_fails.2.1, yiX8_fails.2.2.1, yiX8_fails.2.2.2, by decide, by decide⟩, ycX8_fails, zT_in 1249 (by decide +kernel) rfl, yvX8_fails, ywX8_fails⟩
theorem lkX8_wouldMake_101 : zLkV mX8_wouldMake 101 mX8_has 3 := ⟨⟨yiX8_has.1, yiX8_has.2.1, yiX8_has.2.2.1, yiX8_has.2.2.2, by decide, by decide⟩, ycX8_has, zT_in 1209 (by decide +kernel) rfl, yvX8_has, ywX8_has⟩
theorem lkX8_wouldMake_111 : zLkV mX8_wouldMake 111 mX8_isWithin0 3 := ⟨⟨yiX8_isWithin0.1, yiX8_isWithin0.2.1, yiX8_isWithin0.2.2.1, yiX8_isWithin0.2.2.2, by decide, by decide⟩, ycX8_isWithin0, zT_in 1225 (by decide +kernel) rfl, yvX8_isWithin0, ywX8_isWithin0⟩
theorem lkX8_alike_104 : zLkV mX8_alike 104 mX8_isVersion 1 := ⟨⟨yiX8_isVersion.1, yiX8_isVersion.2.1, yiX8_isVersion.2.2.1, yiX8_isVersion.2.2.2, by decide, by decide⟩, ycX8_isVersion, zT_in 1217 (by decide +kernel) rfl, yvX8_isVersion, ywX8_isVersion⟩
theorem lkX8_alike_117 : zLkV mX8_alike 117 mX8_fails 1 := ⟨⟨yiX8_fails.1, yiX8_fails.2.1, yiX8_fails.2.2.1, yiX8_fails.2.2.2, by decide, by decide⟩, ycX8_fails, zT_in 1249 (by decide +kernel) rfl, yvX8_fails, ywX8_fails⟩
theorem lkX8_alike_137 : zLkV mX8_alike 137 mX8_apart0 2 := ⟨⟨yiX8_apart0.1, yiX8_apart0.2.1, yiX8_apart0.2.2.1, yiX8_apart0.2.2.2, by decide, by decide⟩, ycX8_apart0, zT_in 1293 (by decide +kernel) rfl, yvX8_apart0, ywX8_apart0⟩
theorem lkX8_richest_124 : zLkV mX8_richest 124 mX8_sumOf 3 := ⟨⟨yiX8_sumOf.1, yiX8_sumOf.2.1, yiX8_sumOf.2.2.1, yiX8_sumOf.2.2.2, by decide, by decide⟩, ycX8_sumOf, zT_in 1264 (by decide +kernel) rfl, yvX8_sumOf, ywX8_sumOf⟩
theorem lkX8_lent_72 : zLkV mX8_lent 72 mX8_of 2 := ⟨⟨yiX8_of.1, yiX8_of.2.1, yiX8_of.2.2.1, yiX8_of.2.2.2, by decide, by decide⟩, ycX8_of, zT_in 1190 (by decide +kernel) rfl, yvX8_of, ywX8_of⟩
theorem lkX8_lent_146 : zLkV mX8_lent 146 mX8_usersOf 2 := ⟨⟨yiX8_usersOf.1, yiX8_usersOf.2.1, yiX8_usersOf.2.2.1, yiX8_usersOf.2.2.2, by decide, by decide⟩, ycX8_usersOf, zT_in 1337 (by decide +kernel) rfl, yvX8_usersOf, ywX8_usersOf⟩
theorem lkX8_busiest_117 : zLkV mX8_busiest 117 mX8_fails 1 := ⟨⟨yiX8_fails.1, yiX8_fails.2.1, yiX8_fails.2.2.1, yiX8_fails.2.2.2, by decide, by decide⟩, ycX8_fails, zT_in 1249 (by decide +kernel) rfl, yvX8_fails, ywX8_fails⟩
theorem lkX8_busiest_149 : zLkV mX8_busiest 149 mX8_lent 1 := ⟨⟨yiX8_lent.1, yiX8_lent.2.1, yiX8_lent.2.2.1, yiX8_lent.2.2.2, by decide, by decide⟩, ycX8_lent, zT_in 1357 (by decide +kernel) rfl, yvX8_lent, ywX8_lent⟩
theorem lkX8_append_117 : zLkV mX8_append 117 mX8_fails 1 := ⟨⟨yiX8_fails.1, yiX8_fails.2.1, yiX8_fails.2.2.1, yiX8_fails.2.2.2, by decide, by decide⟩, ycX8_fails, zT_in 1249 (by decide +kernel) rfl, yvX8_fails, ywX8_fails⟩
theorem lkX8_skips_158 : zLkV mX8_skips 158 mX8_here 0 := ⟨⟨yiX8_here.1, yiX8_here.2.1, yiX8_here.2.2.1, yiX8_here.2.2.2, by decide, by decide⟩, ycX8_here, zT_in 1377 (by decide +kernel) rfl, yvX8_here, ywX8_here⟩
theorem lkX8_figures_158 : zLkV mX8_figures 158 mX8_here 0 := ⟨⟨yiX8_here.1, yiX8_here.2.1, yiX8_here.2.2.1, yiX8_here.2.2.2, by decide, by decide⟩, ycX8_here, zT_in 1377 (by decide +kernel) rfl, yvX8_here, ywX8_here⟩
theorem lkX8_figures_68 : zLkS mX8_figures 68 mX8_in 3 := ⟨⟨yiX8_in.1, yiX8_in.2.1, yiX8_in.2.2.1, yiX8_in.2.2.2, by decide, by decide⟩, ycX8_in, zT_in 1176 (by decide +kernel) rfl, ysX8_in⟩
theorem lkX8_commandHere_158 : zLkV mX8_commandHere 158 mX8_here 0 := ⟨⟨yiX8_here.1, yiX8_here.2.1, yiX8_here.2.2.1, yiX8_here.2.2.2, by decide, by decide⟩, ycX8_here, zT_in 1377 (by decide +kernel) rfl, yvX8_here, ywX8_here⟩
theorem lkX8_commandHere_165 : zLkV mX8_commandHere 165 mX8_skips 1 := ⟨⟨yiX8_skips.1, yiX8_skips.2.1, yiX8_skips.2.2.1, yiX8_skips.2.2.2, by decide, by decide⟩, ycX8_skips, zT_in 1381 (by decide +kernel) rfl, yvX8_skips, ywX8_skips⟩
theorem lkX8_commandHere_168 : zLkV mX8_commandHere 168 mX8_figures 2 := ⟨⟨yiX8_figures.1, yiX8_figures.2.1, yiX8_figures.2.2.1, yiX8_figures.2.2.2, by decide, by decide⟩, ycX8_figures, zT_in 1385 (by decide +kernel) rfl, yvX8_figures, ywX8_figures⟩
theorem lkX8_isText_171 : zLkV mX8_isText 171 mX8_commandHere 0 := ⟨⟨yiX8_commandHere.1, yiX8_commandHere.2.1, yiX8_commandHere.2.2.1, yiX8_commandHere.2.2.2, by decide, by decide⟩, ycX8_commandHere, zT_in 1373 (by decide +kernel) rfl, yvX8_commandHere, ywX8_commandHere⟩
theorem lkX8_isText_165 : zLkV mX8_isText 165 mX8_skips 1 := ⟨⟨yiX8_skips.1, yiX8_skips.2.1, yiX8_skips.2.2.1, yiX8_skips.2.2.2, by decide, by decide⟩, ycX8_skips, zT_in 1381 (by decide +kernel) rfl, yvX8_skips, ywX8_skips⟩
theorem lkX8_carries_175 : zLkV mX8_carries 175 mX8_write 3 := ⟨⟨yiX8_write.1, yiX8_write.2.1, yiX8_write.2.2.1, yiX8_write.2.2.2, by decide, by decide⟩, ycX8_write, zT_in 1393 (by decide +kernel) rfl, yvX8_write, ywX8_write⟩
theorem lkX8_carries_178 : zLkV mX8_carries 178 mX8_graft 4 := ⟨⟨yiX8_graft.1, yiX8_graft.2.1, yiX8_graft.2.2.1, yiX8_graft.2.2.2, by decide, by decide⟩, ycX8_graft, zT_in 1394 (by decide +kernel) rfl, yvX8_graft, ywX8_graft⟩
theorem lkX8_carries_182 : zLkV mX8_carries 182 mX8_fork 2 := ⟨⟨yiX8_fork.1, yiX8_fork.2.1, yiX8_fork.2.2.1, yiX8_fork.2.2.2, by decide, by decide⟩, ycX8_fork, zT_in 1395 (by decide +kernel) rfl, yvX8_fork, ywX8_fork⟩
theorem lkX8_carries_185 : zLkV mX8_carries 185 mX8_back 2 := ⟨⟨yiX8_back.1, yiX8_back.2.1, yiX8_back.2.2.1, yiX8_back.2.2.2, by decide, by decide⟩, ycX8_back, zT_in 1396 (by decide +kernel) rfl, yvX8_back, ywX8_back⟩
theorem lkX8_carries_188 : zLkV mX8_carries 188 mX8_pass 1 := ⟨⟨yiX8_pass.1, yiX8_pass.2.1, yiX8_pass.2.2.1, yiX8_pass.2.2.2, by decide, by decide⟩, ycX8_pass, zT_in 1397 (by decide +kernel) rfl, yvX8_pass, ywX8_pass⟩
theorem lkX8_commands_191 : zLkV mX8_commands 191 mX8_isText 0 := ⟨⟨yiX8_isText.1, yiX8_isText.2.1, yiX8_isText.2.2.1, yiX8_isText.2.2.2, by decide, by decide⟩, ycX8_isText, zT_in 1369 (by decide +kernel) rfl, yvX8_isText, ywX8_isText⟩
theorem lkX8_commands_117 : zLkV mX8_commands 117 mX8_fails 1 := ⟨⟨yiX8_fails.1, yiX8_fails.2.1, yiX8_fails.2.2.1, yiX8_fails.2.2.2, by decide, by decide⟩, ycX8_fails, zT_in 1249 (by decide +kernel) rfl, yvX8_fails, ywX8_fails⟩
theorem lkX8_commands_64 : zLkS mX8_commands 64 mX8_copies 4 := ⟨⟨yiX8_copies.1, yiX8_copies.2.1, yiX8_copies.2.2.1, yiX8_copies.2.2.2, by decide, by decide⟩, ycX8_copies, zT_in 1198 (by decide +kernel) rfl, ysX8_copies⟩
theorem lkX8_commands_194 : zLkV mX8_commands 194 mX8_carries 1 := ⟨⟨yiX8_carries.1, yiX8_carries.2.1, yiX8_carries.2.2.1, yiX8_carries.2.2.2, by decide, by decide⟩, ycX8_carries, zT_in 1389 (by decide +kernel) rfl, yvX8_carries, ywX8_carries⟩
theorem lkX8_commands_93 : zLkV mX8_commands 93 mX8_keeps 1 := ⟨⟨yiX8_keeps.1, yiX8_keeps.2.1, yiX8_keeps.2.2.1, yiX8_keeps.2.2.2, by decide, by decide⟩, ycX8_keeps, zT_in 1194 (by decide +kernel) rfl, yvX8_keeps, ywX8_keeps⟩
theorem lkX8_reason_68 : zLkS mX8_reason 68 mX8_in 3 := ⟨⟨yiX8_in.1, yiX8_in.2.1, yiX8_in.2.2.1, yiX8_in.2.2.2, by decide, by decide⟩, ycX8_in, zT_in 1176 (by decide +kernel) rfl, ysX8_in⟩
theorem lkX8_reason_117 : zLkV mX8_reason 117 mX8_fails 1 := ⟨⟨yiX8_fails.1, yiX8_fails.2.1, yiX8_fails.2.2.1, yiX8_fails.2.2.2, by decide, by decide⟩, ycX8_fails, zT_in 1249 (by decide +kernel) rfl, yvX8_fails, ywX8_fails⟩
theorem lkX8_writesNumber_200 : zLkV mX8_writesNumber 200 mX8_writes 1 := ⟨⟨yiX8_writes.1, yiX8_writes.2.1, yiX8_writes.2.2.1, yiX8_writes.2.2.2, by decide, by decide⟩, ycX8_writes, zT_in 1410 (by decide +kernel) rfl, yvX8_writes, ywX8_writes⟩
theorem lkX8_line_104 : zLkV mX8_line 104 mX8_isVersion 1 := ⟨⟨yiX8_isVersion.1, yiX8_isVersion.2.1, yiX8_isVersion.2.2.1, yiX8_isVersion.2.2.2, by decide, by decide⟩, ycX8_isVersion, zT_in 1217 (by decide +kernel) rfl, yvX8_isVersion, ywX8_isVersion⟩
theorem lkX8_line_117 : zLkV mX8_line 117 mX8_fails 1 := ⟨⟨yiX8_fails.1, yiX8_fails.2.1, yiX8_fails.2.2.1, yiX8_fails.2.2.2, by decide, by decide⟩, ycX8_fails, zT_in 1249 (by decide +kernel) rfl, yvX8_fails, ywX8_fails⟩
theorem lkX8_line_90 : zLkV mX8_line 90 mX8_amountOf 2 := ⟨⟨yiX8_amountOf.1, yiX8_amountOf.2.1, yiX8_amountOf.2.2.1, yiX8_amountOf.2.2.2, by decide, by decide⟩, ycX8_amountOf, zT_in 1186 (by decide +kernel) rfl, yvX8_amountOf, ywX8_amountOf⟩
theorem lkX8_line_200 : zLkV mX8_line 200 mX8_writes 1 := ⟨⟨yiX8_writes.1, yiX8_writes.2.1, yiX8_writes.2.2.1, yiX8_writes.2.2.2, by decide, by decide⟩, ycX8_writes, zT_in 1410 (by decide +kernel) rfl, yvX8_writes, ywX8_writes⟩
theorem lkX8_line_204 : zLkV mX8_line 204 mX8_writesNumber 1 := ⟨⟨yiX8_writesNumber.1, yiX8_writesNumber.2.1, yiX8_writesNumber.2.2.1, yiX8_writesNumber.2.2.2, by decide, by decide⟩, ycX8_writesNumber, zT_in 1414 (by decide +kernel) rfl, yvX8_writesNumber, ywX8_writesNumber⟩
theorem lkX8_lineage_104 : zLkV mX8_lineage 104 mX8_isVersion 1 := ⟨⟨yiX8_isVersion.1, yiX8_isVersion.2.1, yiX8_isVersion.2.2.1, yiX8_isVersion.2.2.2, by decide, by decide⟩, ycX8_isVersion, zT_in 1217 (by decide +kernel) rfl, yvX8_isVersion, ywX8_isVersion⟩
theorem lkX8_lineage_117 : zLkV mX8_lineage 117 mX8_fails 1 := ⟨⟨yiX8_fails.1, yiX8_fails.2.1, yiX8_fails.2.2.1, yiX8_fails.2.2.2, by decide, by decide⟩, ycX8_fails, zT_in 1249 (by decide +kernel) rfl, yvX8_fails, ywX8_fails⟩
theorem lkX8_lineage_200 : zLkV mX8_lineage 200 mX8_writes 1 := ⟨⟨yiX8_writes.1, yiX8_writes.2.1, yiX8_writes.2.2.1, yiX8_writes.2.2.2, by decide, by decide⟩, ycX8_writes, zT_in 1410 (by decide +kernel) rfl, yvX8_writes, ywX8_writes⟩
theorem lkX8_lineage_204 : zLkV mX8_lineage 204 mX8_writesNumber 1 := ⟨⟨yiX8_writesNumber.1, yiX8_writesNumber.2.1, yiX8_writesNumber.2.2.1, yiX8_writesNumber.2.2.2, by decide, by decide⟩, ycX8_writesNumber, zT_in 1414 (by decide +kernel) rfl, yvX8_writesNumber, ywX8_writesNumber⟩
theorem lkX8_lineage_72 : zLkV mX8_lineage 72 mX8_of 2 := ⟨⟨yiX8_of.1, yiX8_of.2.1, yiX8_of.2.2.1, yiX8_of.2.2.2, by decide, by decide⟩, ycX8_of, zT_in 1190 (by decide +kernel) rfl, yvX8_of, ywX8_of⟩
theorem lkX8_character_68 : zLkS mX8_character 68 mX8_in 3 := ⟨⟨yiX8_in.1, yiX8_in.2.1, yiX8_in.2.2.1, yiX8_in.2.2.2, by decide, by decide⟩, ycX8_in, zT_in 1176 (by decide +kernel) rfl, ysX8_in⟩
theorem lkX8_character_117 : zLkV mX8_character 117 mX8_fails 1 := ⟨⟨yiX8_fails.1, yiX8_fails.2.1, yiX8_fails.2.2.1, yiX8_fails.2.2.2, by decide, by decide⟩, ycX8_fails, zT_in 1249 (by decide +kernel) rfl, yvX8_fails, ywX8_fails⟩
theorem lkX8_mean_104 : zLkV mX8_mean 104 mX8_isVersion 1 := ⟨⟨yiX8_isVersion.1, yiX8_isVersion.2.1, yiX8_isVersion.2.2.1, yiX8_isVersion.2.2.2, by decide, by decide⟩, ycX8_isVersion, zT_in 1217 (by decide +kernel) rfl, yvX8_isVersion, ywX8_isVersion⟩
theorem lkX8_mean_117 : zLkV mX8_mean 117 mX8_fails 1 := ⟨⟨yiX8_fails.1, yiX8_fails.2.1, yiX8_fails.2.2.1, yiX8_fails.2.2.2, by decide, by decide⟩, ycX8_fails, zT_in 1249 (by decide +kernel) rfl, yvX8_fails, ywX8_fails⟩
theorem lkX8_mean_124 : zLkV mX8_mean 124 mX8_sumOf 3 := ⟨⟨yiX8_sumOf.1, yiX8_sumOf.2.1, yiX8_sumOf.2.2.1, yiX8_sumOf.2.2.2, by decide, by decide⟩, ycX8_sumOf, zT_in 1264 (by decide +kernel) rfl, yvX8_sumOf, ywX8_sumOf⟩
theorem lkX8_allMade_134 : zLkV mX8_allMade 134 mX8_made 1 := ⟨⟨yiX8_made.1, yiX8_made.2.1, yiX8_made.2.2.1, yiX8_made.2.2.2, by decide, by decide⟩, ycX8_made, zT_in 1289 (by decide +kernel) rfl, yvX8_made, ywX8_made⟩
theorem lkX8_spared_209 : zLkV mX8_spared 209 mX8_allMade 0 := ⟨⟨yiX8_allMade.1, yiX8_allMade.2.1, yiX8_allMade.2.2.1, yiX8_allMade.2.2.2, by decide, by decide⟩, ycX8_allMade, zT_in 1435 (by decide +kernel) rfl, yvX8_allMade, ywX8_allMade⟩
theorem lkX8_versionsThat_140 : zLkV mX8_versionsThat 140 mX8_houses 1 := ⟨⟨yiX8_houses.1, yiX8_houses.2.1, yiX8_houses.2.2.1, yiX8_houses.2.2.2, by decide, by decide⟩, ycX8_houses, zT_in 1297 (by decide +kernel) rfl, yvX8_houses, ywX8_houses⟩
theorem lkX8_versionsThat_131 : zLkV mX8_versionsThat 131 mX8_children 1 := ⟨⟨yiX8_children.1, yiX8_children.2.1, yiX8_children.2.2.1, yiX8_children.2.2.2, by decide, by decide⟩, ycX8_children, zT_in 1285 (by decide +kernel) rfl, yvX8_children, ywX8_children⟩
theorem lkX8_account_68 : zLkS mX8_account 68 mX8_in 3 := ⟨⟨yiX8_in.1, yiX8_in.2.1, yiX8_in.2.2.1, yiX8_in.2.2.2, by decide, by decide⟩, ycX8_in, zT_in 1176 (by decide +kernel) rfl, ysX8_in⟩
theorem lkX8_account_117 : zLkV mX8_account 117 mX8_fails 1 := ⟨⟨yiX8_fails.1, yiX8_fails.2.1, yiX8_fails.2.2.1, yiX8_fails.2.2.2, by decide, by decide⟩, ycX8_fails, zT_in 1249 (by decide +kernel) rfl, yvX8_fails, ywX8_fails⟩
theorem lkX8_account_209 : zLkV mX8_account 209 mX8_allMade 0 := ⟨⟨yiX8_allMade.1, yiX8_allMade.2.1, yiX8_allMade.2.2.1, yiX8_allMade.2.2.2, by decide, by decide⟩, ycX8_allMade, zT_in 1435 (by decide +kernel) rfl, yvX8_allMade, ywX8_allMade⟩
theorem lkX8_account_212 : zLkV mX8_account 212 mX8_versionsThat 1 := ⟨⟨yiX8_versionsThat.1, yiX8_versionsThat.2.1, yiX8_versionsThat.2.2.1, yiX8_versionsThat.2.2.2, by decide, by decide⟩, ycX8_versionsThat, zT_in 1443 (by decide +kernel) rfl, yvX8_versionsThat, ywX8_versionsThat⟩
theorem lkX8_undo_117 : zLkV mX8_undo 117 mX8_fails 1 := ⟨⟨yiX8_fails.1, yiX8_fails.2.1, yiX8_fails.2.2.1, yiX8_fails.2.2.2, by decide, by decide⟩, ycX8_fails, zT_in 1249 (by decide +kernel) rfl, yvX8_fails, ywX8_fails⟩
theorem lkX8_undo_64 : zLkS mX8_undo 64 mX8_copies 4 := ⟨⟨yiX8_copies.1, yiX8_copies.2.1, yiX8_copies.2.2.1, yiX8_copies.2.2.2, by decide, by decide⟩, ycX8_copies, zT_in 1198 (by decide +kernel) rfl, ysX8_copies⟩
theorem lkX8_save_64 : zLkS mX8_save 64 mX8_copies 4 := ⟨⟨yiX8_copies.1, yiX8_copies.2.1, yiX8_copies.2.2.1, yiX8_copies.2.2.2, by decide, by decide⟩, ycX8_copies, zT_in 1198 (by decide +kernel) rfl, ysX8_copies⟩
theorem lkX8_restore_117 : zLkV mX8_restore 117 mX8_fails 1 := ⟨⟨yiX8_fails.1, yiX8_fails.2.1, yiX8_fails.2.2.1, yiX8_fails.2.2.2, by decide, by decide⟩, ycX8_fails, zT_in 1249 (by decide +kernel) rfl, yvX8_fails, ywX8_fails⟩
theorem lkX8_restore_64 : zLkS mX8_restore 64 mX8_copies 4 := ⟨⟨yiX8_copies.1, yiX8_copies.2.1, yiX8_copies.2.2.1, yiX8_copies.2.2.2, by decide, by decide⟩, ycX8_copies, zT_in 1198 (by decide +kernel) rfl, ysX8_copies⟩
theorem lkJ0_length_8abf5_335 : zLkV mJ0_length_8abf5 335 mJ0_coder_7d493 0 := ⟨⟨yiJ0_coder_7d493.1, yiJ0_coder_7d493.2.1, yiJ0_coder_7d493.2.2.1, yiJ0_coder_7d493.2.2.2, by decide, by decide⟩, ycJ0_coder_7d493, zT_in 901 (by decide +kernel) rfl, yvJ0_coder_7d493, ywJ0_coder_7d493⟩
theorem lkJ0_charAt_5068e_492 : zLkV mJ0_charAt_5068e 492 mJ0_isLatin1_aae02 0 := ⟨⟨yiJ0_isLatin1_aae02.1, yiJ0_isLatin1_aae02.2.1, yiJ0_isLatin1_aae02.2.2.1, yiJ0_isLatin1_aae02.2.2.2, by decide, by decide⟩, ycJ0_isLatin1_aae02, zT_in 911 (by decide +kernel) rfl, yvJ0_isLatin1_aae02, ywJ0_isLatin1_aae02⟩
theorem lkJ0_charAt_5068e_495 : zLkS mJ0_charAt_5068e 495 mJ1_charAt_3b067 2 := ⟨⟨yiJ1_charAt_3b067.1, yiJ1_charAt_3b067.2.1, yiJ1_charAt_3b067.2.2.1, yiJ1_charAt_3b067.2.2.2, by decide, by decide⟩, ycJ1_charAt_3b067, zT_in 915 (by decide +kernel) rfl, ysJ1_charAt_3b067⟩
theorem lkJ0_checkIndex_df160_1059 : zLkS mJ0_checkIndex_df160 1059 mJ3_checkIndex_8e157 3 := ⟨⟨yiJ3_checkIndex_8e157.1, yiJ3_checkIndex_8e157.2.1, yiJ3_checkIndex_8e157.2.2.1, yiJ3_checkIndex_8e157.2.2.2, by decide, by decide⟩, ycJ3_checkIndex_8e157, zT_in 923 (by decide +kernel) rfl, ysJ3_checkIndex_8e157⟩
theorem lkJ1_charAt_3b067_9 : zLkS mJ1_charAt_3b067 9 mJ0_checkIndex_df160 2 := ⟨⟨yiJ0_checkIndex_df160.1, yiJ0_checkIndex_df160.2.1, yiJ0_checkIndex_df160.2.2.1, yiJ0_checkIndex_df160.2.2.2, by decide, by decide⟩, ycJ0_checkIndex_df160, zT_in 918 (by decide +kernel) rfl, ysJ0_checkIndex_df160⟩
theorem lkL_write_7 : zLkV mL_write 7 mX7_write 3 := ⟨⟨yiX7_write.1, yiX7_write.2.1, yiX7_write.2.2.1, yiX7_write.2.2.2, by decide, by decide⟩, ycX7_write, zT_in 295 (by decide +kernel) rfl, yvX7_write, ywX7_write⟩
theorem lkL_graft_15 : zLkV mL_graft 15 mX7_graft 4 := ⟨⟨yiX7_graft.1, yiX7_graft.2.1, yiX7_graft.2.2.1, yiX7_graft.2.2.2, by decide, by decide⟩, ycX7_graft, zT_in 463 (by decide +kernel) rfl, yvX7_graft, ywX7_graft⟩
theorem lkL_fork_19 : zLkV mL_fork 19 mX7_fork 2 := ⟨⟨yiX7_fork.1, yiX7_fork.2.1, yiX7_fork.2.2.1, yiX7_fork.2.2.2, by decide, by decide⟩, ycX7_fork, zT_in 492 (by decide +kernel) rfl, yvX7_fork, ywX7_fork⟩
theorem lkL_back_23 : zLkV mL_back 23 mX7_back 2 := ⟨⟨yiX7_back.1, yiX7_back.2.1, yiX7_back.2.2.1, yiX7_back.2.2.2, by decide, by decide⟩, ycX7_back, zT_in 503 (by decide +kernel) rfl, yvX7_back, ywX7_back⟩
theorem lkL_pass_26 : zLkV mL_pass 26 mX7_pass 1 := ⟨⟨yiX7_pass.1, yiX7_pass.2.1, yiX7_pass.2.2.1, yiX7_pass.2.2.2, by decide, by decide⟩, ycX7_pass, zT_in 526 (by decide +kernel) rfl, yvX7_pass, ywX7_pass⟩
theorem lkL_ledger_30 : zLkV mL_ledger 30 mX7_ledger 1 := ⟨⟨yiX7_ledger.1, yiX7_ledger.2.1, yiX7_ledger.2.2.1, yiX7_ledger.2.2.2, by decide, by decide⟩, ycX7_ledger, zT_in 538 (by decide +kernel) rfl, yvX7_ledger, ywX7_ledger⟩
theorem lkL_amount_35 : zLkV mL_amount 35 mX7_amount 2 := ⟨⟨yiX7_amount.1, yiX7_amount.2.1, yiX7_amount.2.2.1, yiX7_amount.2.2.2, by decide, by decide⟩, ycX7_amount, zT_in 567 (by decide +kernel) rfl, yvX7_amount, ywX7_amount⟩
theorem lkL_sum_40 : zLkV mL_sum 40 mX7_sum 3 := ⟨⟨yiX7_sum.1, yiX7_sum.2.1, yiX7_sum.2.2.1, yiX7_sum.2.2.2, by decide, by decide⟩, ycX7_sum, zT_in 601 (by decide +kernel) rfl, yvX7_sum, ywX7_sum⟩
theorem lkL_sumAgain_43 : zLkV mL_sumAgain 43 mX7_sumAgain 3 := ⟨⟨yiX7_sumAgain.1, yiX7_sumAgain.2.1, yiX7_sumAgain.2.2.1, yiX7_sumAgain.2.2.2, by decide, by decide⟩, ycX7_sumAgain, zT_in 612 (by decide +kernel) rfl, yvX7_sumAgain, ywX7_sumAgain⟩
theorem lkL_most_46 : zLkV mL_most 46 mX7_most 3 := ⟨⟨yiX7_most.1, yiX7_most.2.1, yiX7_most.2.2.1, yiX7_most.2.2.2, by decide, by decide⟩, ycX7_most, zT_in 623 (by decide +kernel) rfl, yvX7_most, ywX7_most⟩
theorem lkL_reached_49 : zLkV mL_reached 49 mX7_reached 2 := ⟨⟨yiX7_reached.1, yiX7_reached.2.1, yiX7_reached.2.2.1, yiX7_reached.2.2.2, by decide, by decide⟩, ycX7_reached, zT_in 635 (by decide +kernel) rfl, yvX7_reached, ywX7_reached⟩
theorem lkL_versionOf_54 : zLkV mL_versionOf 54 mX7_versionOf 2 := ⟨⟨yiX7_versionOf.1, yiX7_versionOf.2.1, yiX7_versionOf.2.2.1, yiX7_versionOf.2.2.2, by decide, by decide⟩, ycX7_versionOf, zT_in 662 (by decide +kernel) rfl, yvX7_versionOf, ywX7_versionOf⟩
theorem lkL_maker_57 : zLkV mL_maker 57 mX7_maker 2 := ⟨⟨yiX7_maker.1, yiX7_maker.2.1, yiX7_maker.2.2.1, yiX7_maker.2.2.2, by decide, by decide⟩, ycX7_maker, zT_in 691 (by decide +kernel) rfl, yvX7_maker, ywX7_maker⟩
theorem lkL_had_60 : zLkV mL_had 60 mX7_had 2 := ⟨⟨yiX7_had.1, yiX7_had.2.1, yiX7_had.2.2.1, yiX7_had.2.2.2, by decide, by decide⟩, ycX7_had, zT_in 703 (by decide +kernel) rfl, yvX7_had, ywX7_had⟩
theorem lkL_since_63 : zLkV mL_since 63 mX7_since 2 := ⟨⟨yiX7_since.1, yiX7_since.2.1, yiX7_since.2.2.1, yiX7_since.2.2.2, by decide, by decide⟩, ycX7_since, zT_in 716 (by decide +kernel) rfl, yvX7_since, ywX7_since⟩
theorem lkL_common_66 : zLkV mL_common 66 mX7_common 2 := ⟨⟨yiX7_common.1, yiX7_common.2.1, yiX7_common.2.2.1, yiX7_common.2.2.2, by decide, by decide⟩, ycX7_common, zT_in 727 (by decide +kernel) rfl, yvX7_common, ywX7_common⟩
theorem lkL_apart_69 : zLkV mL_apart 69 mX7_apart 2 := ⟨⟨yiX7_apart.1, yiX7_apart.2.1, yiX7_apart.2.2.1, yiX7_apart.2.2.2, by decide, by decide⟩, ycX7_apart, zT_in 738 (by decide +kernel) rfl, yvX7_apart, ywX7_apart⟩
theorem lkL_shared_72 : zLkV mL_shared 72 mX7_shared 2 := ⟨⟨yiX7_shared.1, yiX7_shared.2.1, yiX7_shared.2.2.1, yiX7_shared.2.2.2, by decide, by decide⟩, ycX7_shared, zT_in 746 (by decide +kernel) rfl, yvX7_shared, ywX7_shared⟩
theorem lkL_isOf_75 : zLkV mL_isOf 75 mX7_isOf 2 := ⟨⟨yiX7_isOf.1, yiX7_isOf.2.1, yiX7_isOf.2.2.1, yiX7_isOf.2.2.2, by decide, by decide⟩, ycX7_isOf, zT_in 757 (by decide +kernel) rfl, yvX7_isOf, ywX7_isOf⟩
theorem lkL_users_79 : zLkV mL_users 79 mX7_users 2 := ⟨⟨yiX7_users.1, yiX7_users.2.1, yiX7_users.2.2.1, yiX7_users.2.2.2, by decide, by decide⟩, ycX7_users, zT_in 764 (by decide +kernel) rfl, yvX7_users, ywX7_users⟩
theorem lkL_wouldMake_82 : zLkV mL_wouldMake 82 mX7_wouldMake 2 := ⟨⟨yiX7_wouldMake.1, yiX7_wouldMake.2.1, yiX7_wouldMake.2.2.1, yiX7_wouldMake.2.2.2, by decide, by decide⟩, ycX7_wouldMake, zT_in 775 (by decide +kernel) rfl, yvX7_wouldMake, ywX7_wouldMake⟩
theorem lkL_alike_85 : zLkV mL_alike 85 mX7_alike 1 := ⟨⟨yiX7_alike.1, yiX7_alike.2.1, yiX7_alike.2.2.1, yiX7_alike.2.2.2, by decide, by decide⟩, ycX7_alike, zT_in 783 (by decide +kernel) rfl, yvX7_alike, ywX7_alike⟩
theorem lkL_richest_88 : zLkV mL_richest 88 mX7_richest 1 := ⟨⟨yiX7_richest.1, yiX7_richest.2.1, yiX7_richest.2.2.1, yiX7_richest.2.2.2, by decide, by decide⟩, ycX7_richest, zT_in 794 (by decide +kernel) rfl, yvX7_richest, ywX7_richest⟩
theorem lkL_busiest_91 : zLkV mL_busiest 91 mX7_busiest 0 := ⟨⟨yiX7_busiest.1, yiX7_busiest.2.1, yiX7_busiest.2.2.1, yiX7_busiest.2.2.2, by decide, by decide⟩, ycX7_busiest, zT_in 810 (by decide +kernel) rfl, yvX7_busiest, ywX7_busiest⟩
theorem lkL_append_95 : zLkV mL_append 95 mX7_append 1 := ⟨⟨yiX7_append.1, yiX7_append.2.1, yiX7_append.2.2.1, yiX7_append.2.2.2, by decide, by decide⟩, ycX7_append, zT_in 828 (by decide +kernel) rfl, yvX7_append, ywX7_append⟩
theorem lkL_commands_101 : zLkV mL_commands 101 mX7_commands 0 := ⟨⟨yiX7_commands.1, yiX7_commands.2.1, yiX7_commands.2.2.1, yiX7_commands.2.2.2, by decide, by decide⟩, ycX7_commands, zT_in 864 (by decide +kernel) rfl, yvX7_commands, ywX7_commands⟩
theorem lkL_reason_104 : zLkV mL_reason 104 mX7_reason 1 := ⟨⟨yiX7_reason.1, yiX7_reason.2.1, yiX7_reason.2.2.1, yiX7_reason.2.2.2, by decide, by decide⟩, ycX7_reason, zT_in 984 (by decide +kernel) rfl, yvX7_reason, ywX7_reason⟩
theorem lkL_line_107 : zLkV mL_line 107 mX7_line 1 := ⟨⟨yiX7_line.1, yiX7_line.2.1, yiX7_line.2.2.1, yiX7_line.2.2.2, by decide, by decide⟩, ycX7_line, zT_in 993 (by decide +kernel) rfl, yvX7_line, ywX7_line⟩
theorem lkL_lineage_110 : zLkV mL_lineage 110 mX7_lineage 1 := ⟨⟨yiX7_lineage.1, yiX7_lineage.2.1, yiX7_lineage.2.2.1, yiX7_lineage.2.2.2, by decide, by decide⟩, ycX7_lineage, zT_in 1021 (by decide +kernel) rfl, yvX7_lineage, ywX7_lineage⟩
theorem lkL_character_113 : zLkV mL_character 113 mX7_character 1 := ⟨⟨yiX7_character.1, yiX7_character.2.1, yiX7_character.2.2.1, yiX7_character.2.2.2, by decide, by decide⟩, ycX7_character, zT_in 1028 (by decide +kernel) rfl, yvX7_character, ywX7_character⟩
theorem lkL_mean_117 : zLkV mL_mean 117 mX7_mean 1 := ⟨⟨yiX7_mean.1, yiX7_mean.2.1, yiX7_mean.2.2.1, yiX7_mean.2.2.2, by decide, by decide⟩, ycX7_mean, zT_in 1040 (by decide +kernel) rfl, yvX7_mean, ywX7_mean⟩
theorem lkL_account_121 : zLkV mL_account 121 mX7_account 1 := ⟨⟨yiX7_account.1, yiX7_account.2.1, yiX7_account.2.2.1, yiX7_account.2.2.2, by decide, by decide⟩, ycX7_account, zT_in 1049 (by decide +kernel) rfl, yvX7_account, ywX7_account⟩
theorem lkL_undo_124 : zLkV mL_undo 124 mX7_undo 0 := ⟨⟨yiX7_undo.1, yiX7_undo.2.1, yiX7_undo.2.2.1, yiX7_undo.2.2.2, by decide, by decide⟩, ycX7_undo, zT_in 1071 (by decide +kernel) rfl, yvX7_undo, ywX7_undo⟩
theorem lkL_restore_127 : zLkV mL_restore 127 mX7_restore 0 := ⟨⟨yiX7_restore.1, yiX7_restore.2.1, yiX7_restore.2.2.1, yiX7_restore.2.2.2, by decide, by decide⟩, ycX7_restore, zT_in 1083 (by decide +kernel) rfl, yvX7_restore, ywX7_restore⟩
theorem lkL_law_130 : zLkI mL_law 130 mX7_init 0 := ⟨⟨yiX7_init.1, yiX7_init.2.1, yiX7_init.2.2.1, yiX7_init.2.2.2, by decide, by decide⟩, ycX7_init, zT_in 66 (by decide +kernel) rfl, yvX7_init, rfl, rfl⟩
theorem lkL_law_133 : zLkI mL_law 133 mX8_init 0 := ⟨⟨yiX8_init.1, yiX8_init.2.1, yiX8_init.2.2.1, yiX8_init.2.2.2, by decide, by decide⟩, ycX8_init, zT_in 1094 (by decide +kernel) rfl, yvX8_init, rfl, rfl⟩
theorem lkL_law_134 : zLkH mL_law 134 mL_write 5 := ⟨⟨yiL_write.1, yiL_write.2.1, yiL_write.2.2.1, yiL_write.2.2.2, by decide, by decide⟩, ycL_write, zT_in 291 (by decide +kernel) rfl, ysL_write⟩
theorem lkL_law_139 : zLkV mL_law 139 mX8_write 3 := ⟨⟨yiX8_write.1, yiX8_write.2.1, yiX8_write.2.2.1, yiX8_write.2.2.2, by decide, by decide⟩, ycX8_write, zT_in 1169 (by decide +kernel) rfl, yvX8_write, ywX8_write⟩
theorem lkL_law_140 : zLkV mL_law 140 mX8_thrown 0 := ⟨⟨yiX8_thrown.1, yiX8_thrown.2.1, yiX8_thrown.2.2.1, yiX8_thrown.2.2.2, by decide, by decide⟩, ycX8_thrown, zT_in 1165 (by decide +kernel) rfl, yvX8_thrown, ywX8_thrown⟩
theorem lkL_law_143 : zLkH mL_law 143 mL_graft 6 := ⟨⟨yiL_graft.1, yiL_graft.2.1, yiL_graft.2.2.1, yiL_graft.2.2.2, by decide, by decide⟩, ycL_graft, zT_in 460 (by decide +kernel) rfl, ysL_graft⟩
theorem lkL_law_146 : zLkV mL_law 146 mX8_graft 4 := ⟨⟨yiX8_graft.1, yiX8_graft.2.1, yiX8_graft.2.2.1, yiX8_graft.2.2.2, by decide, by decide⟩, ycX8_graft, zT_in 1213 (by decide +kernel) rfl, yvX8_graft, ywX8_graft⟩
theorem lkL_law_147 : zLkH mL_law 147 mL_fork 4 := ⟨⟨yiL_fork.1, yiL_fork.2.1, yiL_fork.2.2.1, yiL_fork.2.2.2, by decide, by decide⟩, ycL_fork, zT_in 489 (by decide +kernel) rfl, ysL_fork⟩
theorem lkL_law_150 : zLkV mL_law 150 mX8_fork 2 := ⟨⟨yiX8_fork.1, yiX8_fork.2.1, yiX8_fork.2.2.1, yiX8_fork.2.2.2, by decide, by decide⟩, ycX8_fork, zT_in 1229 (by decide +kernel) rfl, yvX8_fork, ywX8_fork⟩
theorem lkL_law_151 : zLkH mL_law 151 mL_back 4 := ⟨⟨yiL_back.1, yiL_back.2.1, yiL_back.2.2.1, yiL_back.2.2.2, by decide, by decide⟩, ycL_back, zT_in 500 (by decide +kernel) rfl, ysL_back⟩
theorem lkL_law_153 : zLkV mL_law 153 mX8_back 2 := ⟨⟨yiX8_back.1, yiX8_back.2.1, yiX8_back.2.2.1, yiX8_back.2.2.2, by decide, by decide⟩, ycX8_back, zT_in 1233 (by decide +kernel) rfl, yvX8_back, ywX8_back⟩
theorem lkL_law_154 : zLkH mL_law 154 mL_pass 3 := ⟨⟨yiL_pass.1, yiL_pass.2.1, yiL_pass.2.2.1, yiL_pass.2.2.2, by decide, by decide⟩, ycL_pass, zT_in 523 (by decide +kernel) rfl, ysL_pass⟩
theorem lkL_law_157 : zLkV mL_law 157 mX8_pass 1 := ⟨⟨yiX8_pass.1, yiX8_pass.2.1, yiX8_pass.2.2.1, yiX8_pass.2.2.2, by decide, by decide⟩, ycX8_pass, zT_in 1241 (by decide +kernel) rfl, yvX8_pass, ywX8_pass⟩
theorem lkL_law_158 : zLkH mL_law 158 mL_ledger 3 := ⟨⟨yiL_ledger.1, yiL_ledger.2.1, yiL_ledger.2.2.1, yiL_ledger.2.2.2, by decide, by decide⟩, ycL_ledger, zT_in 534 (by decide +kernel) rfl, ysL_ledger⟩
theorem lkL_law_160 : zLkV mL_law 160 mX8_ledger 1 := ⟨⟨yiX8_ledger.1, yiX8_ledger.2.1, yiX8_ledger.2.2.1, yiX8_ledger.2.2.2, by decide, by decide⟩, ycX8_ledger, zT_in 1245 (by decide +kernel) rfl, yvX8_ledger, ywX8_ledger⟩
theorem lkL_law_161 : zLkH mL_law 161 mL_amount 4 := ⟨⟨yiL_amount.1, yiL_amount.2.1, yiL_amount.2.2.1, yiL_amount.2.2.2, by decide, by decide⟩, ycL_amount, zT_in 563 (by decide +kernel) rfl, ysL_amount⟩
theorem lkL_law_163 : zLkV mL_law 163 mX8_amount 2 := ⟨⟨yiX8_amount.1, yiX8_amount.2.1, yiX8_amount.2.2.1, yiX8_amount.2.2.2, by decide, by decide⟩, ycX8_amount, zT_in 1253 (by decide +kernel) rfl, yvX8_amount, ywX8_amount⟩
theorem lkL_law_164 : zLkH mL_law 164 mL_sum 5 := ⟨⟨yiL_sum.1, yiL_sum.2.1, yiL_sum.2.2.1, yiL_sum.2.2.2, by decide, by decide⟩, ycL_sum, zT_in 598 (by decide +kernel) rfl, ysL_sum⟩
theorem lkL_law_166 : zLkV mL_law 166 mX8_sum 3 := ⟨⟨yiX8_sum.1, yiX8_sum.2.1, yiX8_sum.2.2.1, yiX8_sum.2.2.2, by decide, by decide⟩, ycX8_sum, zT_in 1257 (by decide +kernel) rfl, yvX8_sum, ywX8_sum⟩
theorem lkL_law_167 : zLkH mL_law 167 mL_sumAgain 5 := ⟨⟨yiL_sumAgain.1, yiL_sumAgain.2.1, yiL_sumAgain.2.2.1, yiL_sumAgain.2.2.2, by decide, by decide⟩, ycL_sumAgain, zT_in 609 (by decide +kernel) rfl, ysL_sumAgain⟩
theorem lkL_law_169 : zLkV mL_law 169 mX8_sumAgain 3 := ⟨⟨yiX8_sumAgain.1, yiX8_sumAgain.2.1, yiX8_sumAgain.2.2.1, yiX8_sumAgain.2.2.2, by decide, by decide⟩, ycX8_sumAgain, zT_in 1268 (by decide +kernel) rfl, yvX8_sumAgain, ywX8_sumAgain⟩
theorem lkL_law_170 : zLkH mL_law 170 mL_most 5 := ⟨⟨yiL_most.1, yiL_most.2.1, yiL_most.2.2.1, yiL_most.2.2.2, by decide, by decide⟩, ycL_most, zT_in 620 (by decide +kernel) rfl, ysL_most⟩
theorem lkL_law_172 : zLkV mL_law 172 mX8_most 3 := ⟨⟨yiX8_most.1, yiX8_most.2.1, yiX8_most.2.2.1, yiX8_most.2.2.2, by decide, by decide⟩, ycX8_most, zT_in 1273 (by decide +kernel) rfl, yvX8_most, ywX8_most⟩
theorem lkL_law_173 : zLkH mL_law 173 mL_reached 4 := ⟨⟨yiL_reached.1, yiL_reached.2.1, yiL_reached.2.2.1, yiL_reached.2.2.2, by decide, by decide⟩, ycL_reached, zT_in 631 (by decide +kernel) rfl, ysL_reached⟩
theorem lkL_law_175 : zLkV mL_law 175 mX8_reached 2 := ⟨⟨yiX8_reached.1, yiX8_reached.2.1, yiX8_reached.2.2.1, yiX8_reached.2.2.2, by decide, by decide⟩, ycX8_reached, zT_in 1277 (by decide +kernel) rfl, yvX8_reached, ywX8_reached⟩
theorem lkL_law_176 : zLkH mL_law 176 mL_versionOf 4 := ⟨⟨yiL_versionOf.1, yiL_versionOf.2.1, yiL_versionOf.2.2.1, yiL_versionOf.2.2.2, by decide, by decide⟩, ycL_versionOf, zT_in 659 (by decide +kernel) rfl, ysL_versionOf⟩
theorem lkL_law_178 : zLkV mL_law 178 mX8_versionOf 2 := ⟨⟨yiX8_versionOf.1, yiX8_versionOf.2.1, yiX8_versionOf.2.2.1, yiX8_versionOf.2.2.2, by decide, by decide⟩, ycX8_versionOf, zT_in 1281 (by decide +kernel) rfl, yvX8_versionOf, ywX8_versionOf⟩
theorem lkL_law_179 : zLkH mL_law 179 mL_maker 4 := ⟨⟨yiL_maker.1, yiL_maker.2.1, yiL_maker.2.2.1, yiL_maker.2.2.2, by decide, by decide⟩, ycL_maker, zT_in 688 (by decide +kernel) rfl, ysL_maker⟩
theorem lkL_law_181 : zLkV mL_law 181 mX8_maker 2 := ⟨⟨yiX8_maker.1, yiX8_maker.2.1, yiX8_maker.2.2.1, yiX8_maker.2.2.2, by decide, by decide⟩, ycX8_maker, zT_in 1301 (by decide +kernel) rfl, yvX8_maker, ywX8_maker⟩
theorem lkL_law_182 : zLkH mL_law 182 mL_had 4 := ⟨⟨yiL_had.1, yiL_had.2.1, yiL_had.2.2.1, yiL_had.2.2.2, by decide, by decide⟩, ycL_had, zT_in 700 (by decide +kernel) rfl, ysL_had⟩
theorem lkL_law_184 : zLkV mL_law 184 mX8_had 2 := ⟨⟨yiX8_had.1, yiX8_had.2.1, yiX8_had.2.2.1, yiX8_had.2.2.2, by decide, by decide⟩, ycX8_had, zT_in 1305 (by decide +kernel) rfl, yvX8_had, ywX8_had⟩
theorem lkL_law_185 : zLkH mL_law 185 mL_since 4 := ⟨⟨yiL_since.1, yiL_since.2.1, yiL_since.2.2.1, yiL_since.2.2.2, by decide, by decide⟩, ycL_since, zT_in 713 (by decide +kernel) rfl, ysL_since⟩
theorem lkL_law_187 : zLkV mL_law 187 mX8_since 2 := ⟨⟨yiX8_since.1, yiX8_since.2.1, yiX8_since.2.2.1, yiX8_since.2.2.2, by decide, by decide⟩, ycX8_since, zT_in 1309 (by decide +kernel) rfl, yvX8_since, ywX8_since⟩
theorem lkL_law_188 : zLkH mL_law 188 mL_common 4 := ⟨⟨yiL_common.1, yiL_common.2.1, yiL_common.2.2.1, yiL_common.2.2.2, by decide, by decide⟩, ycL_common, zT_in 724 (by decide +kernel) rfl, ysL_common⟩
theorem lkL_law_190 : zLkV mL_law 190 mX8_common 2 := ⟨⟨yiX8_common.1, yiX8_common.2.1, yiX8_common.2.2.1, yiX8_common.2.2.2, by decide, by decide⟩, ycX8_common, zT_in 1313 (by decide +kernel) rfl, yvX8_common, ywX8_common⟩
theorem lkL_law_191 : zLkH mL_law 191 mL_apart 4 := ⟨⟨yiL_apart.1, yiL_apart.2.1, yiL_apart.2.2.1, yiL_apart.2.2.2, by decide, by decide⟩, ycL_apart, zT_in 735 (by decide +kernel) rfl, ysL_apart⟩
theorem lkL_law_193 : zLkV mL_law 193 mX8_apart 2 := ⟨⟨yiX8_apart.1, yiX8_apart.2.1, yiX8_apart.2.2.1, yiX8_apart.2.2.2, by decide, by decide⟩, ycX8_apart, zT_in 1321 (by decide +kernel) rfl, yvX8_apart, ywX8_apart⟩
theorem lkL_law_194 : zLkH mL_law 194 mL_shared 4 := ⟨⟨yiL_shared.1, yiL_shared.2.1, yiL_shared.2.2.1, yiL_shared.2.2.2, by decide, by decide⟩, ycL_shared, zT_in 743 (by decide +kernel) rfl, ysL_shared⟩
theorem lkL_law_196 : zLkV mL_law 196 mX8_shared 2 := ⟨⟨yiX8_shared.1, yiX8_shared.2.1, yiX8_shared.2.2.1, yiX8_shared.2.2.2, by decide, by decide⟩, ycX8_shared, zT_in 1325 (by decide +kernel) rfl, yvX8_shared, ywX8_shared⟩
theorem lkL_law_197 : zLkH mL_law 197 mL_isOf 4 := ⟨⟨yiL_isOf.1, yiL_isOf.2.1, yiL_isOf.2.2.1, yiL_isOf.2.2.2, by decide, by decide⟩, ycL_isOf, zT_in 754 (by decide +kernel) rfl, ysL_isOf⟩
theorem lkL_law_199 : zLkV mL_law 199 mX8_isOf 2 := ⟨⟨yiX8_isOf.1, yiX8_isOf.2.1, yiX8_isOf.2.2.1, yiX8_isOf.2.2.2, by decide, by decide⟩, ycX8_isOf, zT_in 1329 (by decide +kernel) rfl, yvX8_isOf, ywX8_isOf⟩
theorem lkL_law_200 : zLkH mL_law 200 mL_users 4 := ⟨⟨yiL_users.1, yiL_users.2.1, yiL_users.2.2.1, yiL_users.2.2.2, by decide, by decide⟩, ycL_users, zT_in 761 (by decide +kernel) rfl, ysL_users⟩
theorem lkL_law_202 : zLkV mL_law 202 mX8_users 2 := ⟨⟨yiX8_users.1, yiX8_users.2.1, yiX8_users.2.2.1, yiX8_users.2.2.2, by decide, by decide⟩, ycX8_users, zT_in 1333 (by decide +kernel) rfl, yvX8_users, ywX8_users⟩
theorem lkL_law_203 : zLkH mL_law 203 mL_wouldMake 4 := ⟨⟨yiL_wouldMake.1, yiL_wouldMake.2.1, yiL_wouldMake.2.2.1, yiL_wouldMake.2.2.2, by decide, by decide⟩, ycL_wouldMake, zT_in 772 (by decide +kernel) rfl, ysL_wouldMake⟩
theorem lkL_law_205 : zLkV mL_law 205 mX8_wouldMake 2 := ⟨⟨yiX8_wouldMake.1, yiX8_wouldMake.2.1, yiX8_wouldMake.2.2.1, yiX8_wouldMake.2.2.2, by decide, by decide⟩, ycX8_wouldMake, zT_in 1341 (by decide +kernel) rfl, yvX8_wouldMake, ywX8_wouldMake⟩
theorem lkL_law_206 : zLkH mL_law 206 mL_alike 3 := ⟨⟨yiL_alike.1, yiL_alike.2.1, yiL_alike.2.2.1, yiL_alike.2.2.2, by decide, by decide⟩, ycL_alike, zT_in 780 (by decide +kernel) rfl, ysL_alike⟩
theorem lkL_law_208 : zLkV mL_law 208 mX8_alike 1 := ⟨⟨yiX8_alike.1, yiX8_alike.2.1, yiX8_alike.2.2.1, yiX8_alike.2.2.2, by decide, by decide⟩, ycX8_alike, zT_in 1345 (by decide +kernel) rfl, yvX8_alike, ywX8_alike⟩
theorem lkL_law_209 : zLkH mL_law 209 mL_richest 3 := ⟨⟨yiL_richest.1, yiL_richest.2.1, yiL_richest.2.2.1, yiL_richest.2.2.2, by decide, by decide⟩, ycL_richest, zT_in 791 (by decide +kernel) rfl, ysL_richest⟩
theorem lkL_law_211 : zLkV mL_law 211 mX8_richest 1 := ⟨⟨yiX8_richest.1, yiX8_richest.2.1, yiX8_richest.2.2.1, yiX8_richest.2.2.2, by decide, by decide⟩, ycX8_richest, zT_in 1349 (by decide +kernel) rfl, yvX8_richest, ywX8_richest⟩
theorem lkL_law_212 : zLkH mL_law 212 mL_busiest 2 := ⟨⟨yiL_busiest.1, yiL_busiest.2.1, yiL_busiest.2.2.1, yiL_busiest.2.2.2, by decide, by decide⟩, ycL_busiest, zT_in 807 (by decide +kernel) rfl, ysL_busiest⟩
theorem lkL_law_215 : zLkV mL_law 215 mX8_busiest 0 := ⟨⟨yiX8_busiest.1, yiX8_busiest.2.1, yiX8_busiest.2.2.1, yiX8_busiest.2.2.2, by decide, by decide⟩, ycX8_busiest, zT_in 1353 (by decide +kernel) rfl, yvX8_busiest, ywX8_busiest⟩
theorem lkL_law_216 : zLkH mL_law 216 mL_append 3 := ⟨⟨yiL_append.1, yiL_append.2.1, yiL_append.2.2.1, yiL_append.2.2.2, by decide, by decide⟩, ycL_append, zT_in 824 (by decide +kernel) rfl, ysL_append⟩
theorem lkL_law_219 : zLkV mL_law 219 mX8_append 1 := ⟨⟨yiX8_append.1, yiX8_append.2.1, yiX8_append.2.2.1, yiX8_append.2.2.2, by decide, by decide⟩, ycX8_append, zT_in 1361 (by decide +kernel) rfl, yvX8_append, ywX8_append⟩
theorem lkL_law_220 : zLkH mL_law 220 mL_commands 2 := ⟨⟨yiL_commands.1, yiL_commands.2.1, yiL_commands.2.2.1, yiL_commands.2.2.2, by decide, by decide⟩, ycL_commands, zT_in 861 (by decide +kernel) rfl, ysL_commands⟩
theorem lkL_law_222 : zLkV mL_law 222 mX8_commands 0 := ⟨⟨yiX8_commands.1, yiX8_commands.2.1, yiX8_commands.2.2.1, yiX8_commands.2.2.2, by decide, by decide⟩, ycX8_commands, zT_in 1365 (by decide +kernel) rfl, yvX8_commands, ywX8_commands⟩
theorem lkL_law_223 : zLkV mL_law 223 mX7_faultPosition 0 := ⟨⟨yiX7_faultPosition.1, yiX7_faultPosition.2.1, yiX7_faultPosition.2.2.1, yiX7_faultPosition.2.2.2, by decide, by decide⟩, ycX7_faultPosition, zT_in 244 (by decide +kernel) rfl, yvX7_faultPosition, ywX7_faultPosition⟩
theorem lkL_law_226 : zLkV mL_law 226 mX8_faultPosition 0 := ⟨⟨yiX8_faultPosition.1, yiX8_faultPosition.2.1, yiX8_faultPosition.2.2.1, yiX8_faultPosition.2.2.2, by decide, by decide⟩, ycX8_faultPosition, zT_in 1398 (by decide +kernel) rfl, yvX8_faultPosition, ywX8_faultPosition⟩
theorem lkL_law_227 : zLkH mL_law 227 mL_reason 3 := ⟨⟨yiL_reason.1, yiL_reason.2.1, yiL_reason.2.2.1, yiL_reason.2.2.2, by decide, by decide⟩, ycL_reason, zT_in 981 (by decide +kernel) rfl, ysL_reason⟩
theorem lkL_law_229 : zLkV mL_law 229 mX8_reason 1 := ⟨⟨yiX8_reason.1, yiX8_reason.2.1, yiX8_reason.2.2.1, yiX8_reason.2.2.2, by decide, by decide⟩, ycX8_reason, zT_in 1402 (by decide +kernel) rfl, yvX8_reason, ywX8_reason⟩
theorem lkL_law_230 : zLkH mL_law 230 mL_line 3 := ⟨⟨yiL_line.1, yiL_line.2.1, yiL_line.2.2.1, yiL_line.2.2.2, by decide, by decide⟩, ycL_line, zT_in 990 (by decide +kernel) rfl, ysL_line⟩
theorem lkL_law_232 : zLkV mL_law 232 mX8_line 1 := ⟨⟨yiX8_line.1, yiX8_line.2.1, yiX8_line.2.2.1, yiX8_line.2.2.2, by decide, by decide⟩, ycX8_line, zT_in 1406 (by decide +kernel) rfl, yvX8_line, ywX8_line⟩
theorem lkL_law_233 : zLkH mL_law 233 mL_lineage 3 := ⟨⟨yiL_lineage.1, yiL_lineage.2.1, yiL_lineage.2.2.1, yiL_lineage.2.2.2, by decide, by decide⟩, ycL_lineage, zT_in 1018 (by decide +kernel) rfl, ysL_lineage⟩
theorem lkL_law_235 : zLkV mL_law 235 mX8_lineage 1 := ⟨⟨yiX8_lineage.1, yiX8_lineage.2.1, yiX8_lineage.2.2.1, yiX8_lineage.2.2.2, by decide, by decide⟩, ycX8_lineage, zT_in 1418 (by decide +kernel) rfl, yvX8_lineage, ywX8_lineage⟩
theorem lkL_law_236 : zLkH mL_law 236 mL_character 3 := ⟨⟨yiL_character.1, yiL_character.2.1, yiL_character.2.2.1, yiL_character.2.2.2, by decide, by decide⟩, ycL_character, zT_in 1025 (by decide +kernel) rfl, ysL_character⟩
theorem lkL_law_238 : zLkV mL_law 238 mX8_character 1 := ⟨⟨yiX8_character.1, yiX8_character.2.1, yiX8_character.2.2.1, yiX8_character.2.2.2, by decide, by decide⟩, ycX8_character, zT_in 1422 (by decide +kernel) rfl, yvX8_character, ywX8_character⟩
theorem lkL_law_239 : zLkH mL_law 239 mL_mean 3 := ⟨⟨yiL_mean.1, yiL_mean.2.1, yiL_mean.2.2.1, yiL_mean.2.2.2, by decide, by decide⟩, ycL_mean, zT_in 1037 (by decide +kernel) rfl, ysL_mean⟩
theorem lkL_law_242 : zLkV mL_law 242 mX8_mean 1 := ⟨⟨yiX8_mean.1, yiX8_mean.2.1, yiX8_mean.2.2.1, yiX8_mean.2.2.2, by decide, by decide⟩, ycX8_mean, zT_in 1426 (by decide +kernel) rfl, yvX8_mean, ywX8_mean⟩
theorem lkL_law_243 : zLkV mL_law 243 mX7_spared 0 := ⟨⟨yiX7_spared.1, yiX7_spared.2.1, yiX7_spared.2.2.1, yiX7_spared.2.2.2, by decide, by decide⟩, ycX7_spared, zT_in 248 (by decide +kernel) rfl, yvX7_spared, ywX7_spared⟩
theorem lkL_law_247 : zLkV mL_law 247 mX8_spared 0 := ⟨⟨yiX8_spared.1, yiX8_spared.2.1, yiX8_spared.2.2.1, yiX8_spared.2.2.2, by decide, by decide⟩, ycX8_spared, zT_in 1431 (by decide +kernel) rfl, yvX8_spared, ywX8_spared⟩
theorem lkL_law_248 : zLkH mL_law 248 mL_account 3 := ⟨⟨yiL_account.1, yiL_account.2.1, yiL_account.2.2.1, yiL_account.2.2.2, by decide, by decide⟩, ycL_account, zT_in 1046 (by decide +kernel) rfl, ysL_account⟩
theorem lkL_law_250 : zLkV mL_law 250 mX8_account 1 := ⟨⟨yiX8_account.1, yiX8_account.2.1, yiX8_account.2.2.1, yiX8_account.2.2.2, by decide, by decide⟩, ycX8_account, zT_in 1439 (by decide +kernel) rfl, yvX8_account, ywX8_account⟩
theorem lkL_law_251 : zLkH mL_law 251 mL_undo 2 := ⟨⟨yiL_undo.1, yiL_undo.2.1, yiL_undo.2.2.1, yiL_undo.2.2.2, by decide, by decide⟩, ycL_undo, zT_in 1068 (by decide +kernel) rfl, ysL_undo⟩
theorem lkL_law_253 : zLkV mL_law 253 mX8_undo 0 := ⟨⟨yiX8_undo.1, yiX8_undo.2.1, yiX8_undo.2.2.1, yiX8_undo.2.2.2, by decide, by decide⟩, ycX8_undo, zT_in 1447 (by decide +kernel) rfl, yvX8_undo, ywX8_undo⟩
theorem lkL_law_254 : zLkV mL_law 254 mX7_save 0 := ⟨⟨yiX7_save.1, yiX7_save.2.1, yiX7_save.2.2.1, yiX7_save.2.2.2, by decide, by decide⟩, ycX7_save, zT_in 275 (by decide +kernel) rfl, yvX7_save, ywX7_save⟩
theorem lkL_law_257 : zLkV mL_law 257 mX8_save 0 := ⟨⟨yiX8_save.1, yiX8_save.2.1, yiX8_save.2.2.1, yiX8_save.2.2.2, by decide, by decide⟩, ycX8_save, zT_in 1451 (by decide +kernel) rfl, yvX8_save, ywX8_save⟩
theorem lkL_law_258 : zLkH mL_law 258 mL_restore 2 := ⟨⟨yiL_restore.1, yiL_restore.2.1, yiL_restore.2.2.1, yiL_restore.2.2.2, by decide, by decide⟩, ycL_restore, zT_in 1080 (by decide +kernel) rfl, ysL_restore⟩
theorem lkL_law_260 : zLkV mL_law 260 mX8_restore 0 := ⟨⟨yiX8_restore.1, yiX8_restore.2.1, yiX8_restore.2.2.1, yiX8_restore.2.2.2, by decide, by decide⟩, ycX8_restore, zT_in 1455 (by decide +kernel) rfl, yvX8_restore, ywX8_restore⟩
end
section
theorem fX0_init_0 : zf mX0_init 0 = some (.aload_n 0, 1, 1) := by decide +kernel
theorem fX0_init_1 : zf mX0_init 1 = some (.invokespecial 3, 3, 4) := by decide +kernel
theorem fX0_init_4 : zf mX0_init 4 = some (.aload_n 0, 1, 5) := by decide +kernel
theorem fX0_init_5 : zf mX0_init 5 = some (.new 9, 3, 8) := by decide +kernel
theorem fX0_init_8 : zf mX0_init 8 = some (.dup, 1, 9) := by decide +kernel
theorem fX0_init_9 : zf mX0_init 9 = some (.invokespecial 11, 3, 12) := by decide +kernel
theorem fX0_init_12 : zf mX0_init 12 = some (.putfield 12, 3, 15) := by decide +kernel
theorem fX0_init_15 : zf mX0_init 15 = some (.aload_n 0, 1, 16) := by decide +kernel
theorem fX0_init_16 : zf mX0_init 16 = some (.iconst 4, 1, 17) := by decide +kernel
theorem fX0_init_17 : zf mX0_init 17 = some (.newarray .int, 2, 19) := by decide +kernel
theorem fX0_init_19 : zf mX0_init 19 = some (.putfield 18, 3, 22) := by decide +kernel
theorem fX0_init_22 : zf mX0_init 22 = some (.aload_n 0, 1, 23) := by decide +kernel
theorem fX0_init_23 : zf mX0_init 23 = some (.iconst 0, 1, 24) := by decide +kernel
theorem fX0_init_24 : zf mX0_init 24 = some (.putfield 22, 3, 27) := by decide +kernel
theorem fX0_init_27 : zf mX0_init 27 = some (.aload_n 0, 1, 28) := by decide +kernel
theorem fX0_init_28 : zf mX0_init 28 = some (.iconst 0, 1, 29) := by decide +kernel
theorem fX0_init_29 : zf mX0_init 29 = some (.putfield 26, 3, 32) := by decide +kernel
theorem fX0_init_32 : zf mX0_init 32 = some (.aload_n 0, 1, 33) := by decide +kernel
theorem fX0_init_33 : zf mX0_init 33 = some (.iconst 0, 1, 34) := by decide +kernel
theorem fX0_init_34 : zf mX0_init 34 = some (.putfield 29, 3, 37) := by decide +kernel
theorem fX0_init_37 : zf mX0_init 37 = some (.return_, 1, 38) := by decide +kernel
theorem fX0_copyFrom_0 : zf mX0_copyFrom 0 = some (.aload_n 0, 1, 1) := by decide +kernel
theorem fX0_copyFrom_1 : zf mX0_copyFrom 1 = some (.getfield 12, 3, 4) := by decide +kernel
theorem fX0_copyFrom_4 : zf mX0_copyFrom 4 = some (.aload_n 1, 1, 5) := by decide +kernel
theorem fX0_copyFrom_5 : zf mX0_copyFrom 5 = some (.getfield 12, 3, 8) := by decide +kernel
theorem fX0_copyFrom_8 : zf mX0_copyFrom 8 = some (.invokevirtual 32, 3, 11) := by decide +kernel
theorem fX0_copyFrom_11 : zf mX0_copyFrom 11 = some (.aload_n 1, 1, 12) := by decide +kernel
theorem fX0_copyFrom_12 : zf mX0_copyFrom 12 = some (.getfield 18, 3, 15) := by decide +kernel
theorem fX0_copyFrom_15 : zf mX0_copyFrom 15 = some (.iconst 0, 1, 16) := by decide +kernel
theorem fX0_copyFrom_16 : zf mX0_copyFrom 16 = some (.aload_n 0, 1, 17) := by decide +kernel
theorem fX0_copyFrom_17 : zf mX0_copyFrom 17 = some (.getfield 18, 3, 20) := by decide +kernel
theorem fX0_copyFrom_20 : zf mX0_copyFrom 20 = some (.iconst 0, 1, 21) := by decide +kernel
theorem fX0_copyFrom_21 : zf mX0_copyFrom 21 = some (.iconst 4, 1, 22) := by decide +kernel
theorem fX0_copyFrom_22 : zf mX0_copyFrom 22 = some (.invokestatic 36, 3, 25) := by decide +kernel
theorem fX0_copyFrom_25 : zf mX0_copyFrom 25 = some (.aload_n 0, 1, 26) := by decide +kernel
theorem fX0_copyFrom_26 : zf mX0_copyFrom 26 = some (.aload_n 1, 1, 27) := by decide +kernel
theorem fX0_copyFrom_27 : zf mX0_copyFrom 27 = some (.getfield 22, 3, 30) := by decide +kernel
theorem fX0_copyFrom_30 : zf mX0_copyFrom 30 = some (.putfield 22, 3, 33) := by decide +kernel
theorem fX0_copyFrom_33 : zf mX0_copyFrom 33 = some (.aload_n 0, 1, 34) := by decide +kernel
theorem fX0_copyFrom_34 : zf mX0_copyFrom 34 = some (.aload_n 1, 1, 35) := by decide +kernel
theorem fX0_copyFrom_35 : zf mX0_copyFrom 35 = some (.getfield 26, 3, 38) := by decide +kernel
theorem fX0_copyFrom_38 : zf mX0_copyFrom 38 = some (.putfield 26, 3, 41) := by decide +kernel
theorem fX0_copyFrom_41 : zf mX0_copyFrom 41 = some (.aload_n 0, 1, 42) := by decide +kernel
theorem fX0_copyFrom_42 : zf mX0_copyFrom 42 = some (.aload_n 1, 1, 43) := by decide +kernel
theorem fX0_copyFrom_43 : zf mX0_copyFrom 43 = some (.getfield 29, 3, 46) := by decide +kernel
theorem fX0_copyFrom_46 : zf mX0_copyFrom 46 = some (.putfield 29, 3, 49) := by decide +kernel
theorem fX0_copyFrom_49 : zf mX0_copyFrom 49 = some (.return_, 1, 50) := by decide +kernel
theorem fX0_noteIn_0 : zf mX0_noteIn 0 = some (.iload_n 2, 1, 1) := by decide +kernel
theorem fX0_noteIn_1 : zf mX0_noteIn 1 = some (.ifCond .lt 62, 3, 4) := by decide +kernel
theorem fX0_noteIn_4 : zf mX0_noteIn 4 = some (.iload_n 2, 1, 5) := by decide +kernel
theorem fX0_noteIn_5 : zf mX0_noteIn 5 = some (.aload_n 1, 1, 6) := by decide +kernel
theorem fX0_noteIn_6 : zf mX0_noteIn 6 = some (.arraylength, 1, 7) := by decide +kernel
theorem fX0_noteIn_7 : zf mX0_noteIn 7 = some (.bipush 8, 2, 9) := by decide +kernel
theorem fX0_noteIn_9 : zf mX0_noteIn 9 = some (.isub, 1, 10) := by decide +kernel
theorem fX0_noteIn_10 : zf mX0_noteIn 10 = some (.if_icmp .gt 53, 3, 13) := by decide +kernel
theorem fX0_noteIn_13 : zf mX0_noteIn 13 = some (.aload_n 1, 1, 14) := by decide +kernel
theorem fX0_noteIn_14 : zf mX0_noteIn 14 = some (.iload_n 2, 1, 15) := by decide +kernel
theorem fX0_noteIn_15 : zf mX0_noteIn 15 = some (.aload_n 0, 1, 16) := by decide +kernel
theorem fX0_noteIn_16 : zf mX0_noteIn 16 = some (.getfield 12, 3, 19) := by decide +kernel
theorem fX0_noteIn_19 : zf mX0_noteIn 19 = some (.invokevirtual 42, 3, 22) := by decide +kernel
theorem fX0_noteIn_22 : zf mX0_noteIn 22 = some (.iastore, 1, 23) := by decide +kernel
theorem fX0_noteIn_23 : zf mX0_noteIn 23 = some (.aload_n 1, 1, 24) := by decide +kernel
theorem fX0_noteIn_24 : zf mX0_noteIn 24 = some (.iload_n 2, 1, 25) := by decide +kernel
theorem fX0_noteIn_25 : zf mX0_noteIn 25 = some (.iconst 1, 1, 26) := by decide +kernel
theorem fX0_noteIn_26 : zf mX0_noteIn 26 = some (.iadd, 1, 27) := by decide +kernel
theorem fX0_noteIn_27 : zf mX0_noteIn 27 = some (.aload_n 0, 1, 28) := by decide +kernel
theorem fX0_noteIn_28 : zf mX0_noteIn 28 = some (.getfield 22, 3, 31) := by decide +kernel
theorem fX0_noteIn_31 : zf mX0_noteIn 31 = some (.iastore, 1, 32) := by decide +kernel
theorem fX0_noteIn_32 : zf mX0_noteIn 32 = some (.aload_n 1, 1, 33) := by decide +kernel
theorem fX0_noteIn_33 : zf mX0_noteIn 33 = some (.iload_n 2, 1, 34) := by decide +kernel
theorem fX0_noteIn_34 : zf mX0_noteIn 34 = some (.iconst 2, 1, 35) := by decide +kernel
theorem fX0_noteIn_35 : zf mX0_noteIn 35 = some (.iadd, 1, 36) := by decide +kernel
theorem fX0_noteIn_36 : zf mX0_noteIn 36 = some (.aload_n 0, 1, 37) := by decide +kernel
theorem fX0_noteIn_37 : zf mX0_noteIn 37 = some (.getfield 26, 3, 40) := by decide +kernel
theorem fX0_noteIn_40 : zf mX0_noteIn 40 = some (.iastore, 1, 41) := by decide +kernel
theorem fX0_noteIn_41 : zf mX0_noteIn 41 = some (.aload_n 1, 1, 42) := by decide +kernel
theorem fX0_noteIn_42 : zf mX0_noteIn 42 = some (.iload_n 2, 1, 43) := by decide +kernel
theorem fX0_noteIn_43 : zf mX0_noteIn 43 = some (.iconst 3, 1, 44) := by decide +kernel
theorem fX0_noteIn_44 : zf mX0_noteIn 44 = some (.iadd, 1, 45) := by decide +kernel
theorem fX0_noteIn_45 : zf mX0_noteIn 45 = some (.aload_n 0, 1, 46) := by decide +kernel
theorem fX0_noteIn_46 : zf mX0_noteIn 46 = some (.getfield 29, 3, 49) := by decide +kernel
theorem fX0_noteIn_49 : zf mX0_noteIn 49 = some (.iastore, 1, 50) := by decide +kernel
theorem fX0_noteIn_50 : zf mX0_noteIn 50 = some (.aload_n 0, 1, 51) := by decide +kernel
theorem fX0_noteIn_51 : zf mX0_noteIn 51 = some (.getfield 18, 3, 54) := by decide +kernel
theorem fX0_noteIn_54 : zf mX0_noteIn 54 = some (.iconst 0, 1, 55) := by decide +kernel
theorem fX0_noteIn_55 : zf mX0_noteIn 55 = some (.aload_n 1, 1, 56) := by decide +kernel
theorem fX0_noteIn_56 : zf mX0_noteIn 56 = some (.iload_n 2, 1, 57) := by decide +kernel
theorem fX0_noteIn_57 : zf mX0_noteIn 57 = some (.iconst 4, 1, 58) := by decide +kernel
theorem fX0_noteIn_58 : zf mX0_noteIn 58 = some (.iadd, 1, 59) := by decide +kernel
theorem fX0_noteIn_59 : zf mX0_noteIn 59 = some (.iconst 4, 1, 60) := by decide +kernel
theorem fX0_noteIn_60 : zf mX0_noteIn 60 = some (.invokestatic 36, 3, 63) := by decide +kernel
theorem fX0_noteIn_63 : zf mX0_noteIn 63 = some (.return_, 1, 64) := by decide +kernel
theorem fX0_returnTo_0 : zf mX0_returnTo 0 = some (.iload_n 2, 1, 1) := by decide +kernel
theorem fX0_returnTo_1 : zf mX0_returnTo 1 = some (.ifCond .lt 62, 3, 4) := by decide +kernel
theorem fX0_returnTo_4 : zf mX0_returnTo 4 = some (.iload_n 2, 1, 5) := by decide +kernel
theorem fX0_returnTo_5 : zf mX0_returnTo 5 = some (.aload_n 1, 1, 6) := by decide +kernel
theorem fX0_returnTo_6 : zf mX0_returnTo 6 = some (.arraylength, 1, 7) := by decide +kernel
theorem fX0_returnTo_7 : zf mX0_returnTo 7 = some (.bipush 8, 2, 9) := by decide +kernel
theorem fX0_returnTo_9 : zf mX0_returnTo 9 = some (.isub, 1, 10) := by decide +kernel
theorem fX0_returnTo_10 : zf mX0_returnTo 10 = some (.if_icmp .gt 53, 3, 13) := by decide +kernel
theorem fX0_returnTo_13 : zf mX0_returnTo 13 = some (.aload_n 0, 1, 14) := by decide +kernel
theorem fX0_returnTo_14 : zf mX0_returnTo 14 = some (.getfield 12, 3, 17) := by decide +kernel
theorem fX0_returnTo_17 : zf mX0_returnTo 17 = some (.aload_n 1, 1, 18) := by decide +kernel
theorem fX0_returnTo_18 : zf mX0_returnTo 18 = some (.iload_n 2, 1, 19) := by decide +kernel
theorem fX0_returnTo_19 : zf mX0_returnTo 19 = some (.iaload, 1, 20) := by decide +kernel
theorem fX0_returnTo_20 : zf mX0_returnTo 20 = some (.invokevirtual 46, 3, 23) := by decide +kernel
theorem fX0_returnTo_23 : zf mX0_returnTo 23 = some (.aload_n 0, 1, 24) := by decide +kernel
theorem fX0_returnTo_24 : zf mX0_returnTo 24 = some (.aload_n 1, 1, 25) := by decide +kernel
theorem fX0_returnTo_25 : zf mX0_returnTo 25 = some (.iload_n 2, 1, 26) := by decide +kernel
theorem fX0_returnTo_26 : zf mX0_returnTo 26 = some (.iconst 1, 1, 27) := by decide +kernel
theorem fX0_returnTo_27 : zf mX0_returnTo 27 = some (.iadd, 1, 28) := by decide +kernel
theorem fX0_returnTo_28 : zf mX0_returnTo 28 = some (.iaload, 1, 29) := by decide +kernel
theorem fX0_returnTo_29 : zf mX0_returnTo 29 = some (.putfield 22, 3, 32) := by decide +kernel
theorem fX0_returnTo_32 : zf mX0_returnTo 32 = some (.aload_n 0, 1, 33) := by decide +kernel
theorem fX0_returnTo_33 : zf mX0_returnTo 33 = some (.aload_n 1, 1, 34) := by decide +kernel
theorem fX0_returnTo_34 : zf mX0_returnTo 34 = some (.iload_n 2, 1, 35) := by decide +kernel
theorem fX0_returnTo_35 : zf mX0_returnTo 35 = some (.iconst 2, 1, 36) := by decide +kernel
theorem fX0_returnTo_36 : zf mX0_returnTo 36 = some (.iadd, 1, 37) := by decide +kernel
theorem fX0_returnTo_37 : zf mX0_returnTo 37 = some (.iaload, 1, 38) := by decide +kernel
theorem fX0_returnTo_38 : zf mX0_returnTo 38 = some (.putfield 26, 3, 41) := by decide +kernel
theorem fX0_returnTo_41 : zf mX0_returnTo 41 = some (.aload_n 0, 1, 42) := by decide +kernel
theorem fX0_returnTo_42 : zf mX0_returnTo 42 = some (.aload_n 1, 1, 43) := by decide +kernel
theorem fX0_returnTo_43 : zf mX0_returnTo 43 = some (.iload_n 2, 1, 44) := by decide +kernel
theorem fX0_returnTo_44 : zf mX0_returnTo 44 = some (.iconst 3, 1, 45) := by decide +kernel
theorem fX0_returnTo_45 : zf mX0_returnTo 45 = some (.iadd, 1, 46) := by decide +kernel
theorem fX0_returnTo_46 : zf mX0_returnTo 46 = some (.iaload, 1, 47) := by decide +kernel
theorem fX0_returnTo_47 : zf mX0_returnTo 47 = some (.putfield 29, 3, 50) := by decide +kernel
theorem fX0_returnTo_50 : zf mX0_returnTo 50 = some (.aload_n 1, 1, 51) := by decide +kernel
theorem fX0_returnTo_51 : zf mX0_returnTo 51 = some (.iload_n 2, 1, 52) := by decide +kernel
theorem fX0_returnTo_52 : zf mX0_returnTo 52 = some (.iconst 4, 1, 53) := by decide +kernel
theorem fX0_returnTo_53 : zf mX0_returnTo 53 = some (.iadd, 1, 54) := by decide +kernel
theorem fX0_returnTo_54 : zf mX0_returnTo 54 = some (.aload_n 0, 1, 55) := by decide +kernel
theorem fX0_returnTo_55 : zf mX0_returnTo 55 = some (.getfield 18, 3, 58) := by decide +kernel
theorem fX0_returnTo_58 : zf mX0_returnTo 58 = some (.iconst 0, 1, 59) := by decide +kernel
theorem fX0_returnTo_59 : zf mX0_returnTo 59 = some (.iconst 4, 1, 60) := by decide +kernel
theorem fX0_returnTo_60 : zf mX0_returnTo 60 = some (.invokestatic 36, 3, 63) := by decide +kernel
theorem fX0_returnTo_63 : zf mX0_returnTo 63 = some (.return_, 1, 64) := by decide +kernel
theorem fX0_ledgerOf_0 : zf mX0_ledgerOf 0 = some (.iload_n 1, 1, 1) := by decide +kernel
theorem fX0_ledgerOf_1 : zf mX0_ledgerOf 1 = some (.invokestatic 50, 3, 4) := by decide +kernel
theorem fX0_ledgerOf_4 : zf mX0_ledgerOf 4 = some (.ifCond .eq 12, 3, 7) := by decide +kernel
theorem fX0_ledgerOf_7 : zf mX0_ledgerOf 7 = some (.aload_n 0, 1, 8) := by decide +kernel
theorem fX0_ledgerOf_8 : zf mX0_ledgerOf 8 = some (.getfield 18, 3, 11) := by decide +kernel
theorem fX0_ledgerOf_11 : zf mX0_ledgerOf 11 = some (.iload_n 1, 1, 12) := by decide +kernel
theorem fX0_ledgerOf_12 : zf mX0_ledgerOf 12 = some (.iaload, 1, 13) := by decide +kernel
theorem fX0_ledgerOf_13 : zf mX0_ledgerOf 13 = some (.goto 4, 3, 16) := by decide +kernel
theorem fX0_ledgerOf_16 : zf mX0_ledgerOf 16 = some (.iconst (-1), 1, 17) := by decide +kernel
theorem fX0_ledgerOf_17 : zf mX0_ledgerOf 17 = some (.ireturn, 1, 18) := by decide +kernel
theorem fX0_giveLedger_0 : zf mX0_giveLedger 0 = some (.iload_n 1, 1, 1) := by decide +kernel
theorem fX0_giveLedger_1 : zf mX0_giveLedger 1 = some (.invokestatic 50, 3, 4) := by decide +kernel
theorem fX0_giveLedger_4 : zf mX0_giveLedger 4 = some (.ifCond .eq 21, 3, 7) := by decide +kernel
theorem fX0_giveLedger_7 : zf mX0_giveLedger 7 = some (.aload_n 0, 1, 8) := by decide +kernel
theorem fX0_giveLedger_8 : zf mX0_giveLedger 8 = some (.getfield 12, 3, 11) := by decide +kernel
theorem fX0_giveLedger_11 : zf mX0_giveLedger 11 = some (.iload_n 2, 1, 12) := by decide +kernel
theorem fX0_giveLedger_12 : zf mX0_giveLedger 12 = some (.invokevirtual 54, 3, 15) := by decide +kernel
theorem fX0_giveLedger_15 : zf mX0_giveLedger 15 = some (.ifCond .eq 10, 3, 18) := by decide +kernel
theorem fX0_giveLedger_18 : zf mX0_giveLedger 18 = some (.aload_n 0, 1, 19) := by decide +kernel
theorem fX0_giveLedger_19 : zf mX0_giveLedger 19 = some (.getfield 18, 3, 22) := by decide +kernel
theorem fX0_giveLedger_22 : zf mX0_giveLedger 22 = some (.iload_n 1, 1, 23) := by decide +kernel
theorem fX0_giveLedger_23 : zf mX0_giveLedger 23 = some (.iload_n 2, 1, 24) := by decide +kernel
theorem fX0_giveLedger_24 : zf mX0_giveLedger 24 = some (.iastore, 1, 25) := by decide +kernel
theorem fX0_giveLedger_25 : zf mX0_giveLedger 25 = some (.return_, 1, 26) := by decide +kernel
theorem fX0_housesWith_0 : zf mX0_housesWith 0 = some (.iconst 0, 1, 1) := by decide +kernel
theorem fX0_housesWith_1 : zf mX0_housesWith 1 = some (.istore_n 2, 1, 2) := by decide +kernel
theorem fX0_housesWith_2 : zf mX0_housesWith 2 = some (.iconst 0, 1, 3) := by decide +kernel
theorem fX0_housesWith_3 : zf mX0_housesWith 3 = some (.istore_n 3, 1, 4) := by decide +kernel
theorem fX0_housesWith_4 : zf mX0_housesWith 4 = some (.iload_n 3, 1, 5) := by decide +kernel
theorem fX0_housesWith_5 : zf mX0_housesWith 5 = some (.iconst 4, 1, 6) := by decide +kernel
theorem fX0_housesWith_6 : zf mX0_housesWith 6 = some (.if_icmp .ge 21, 3, 9) := by decide +kernel
theorem fX0_housesWith_9 : zf mX0_housesWith 9 = some (.aload_n 0, 1, 10) := by decide +kernel
theorem fX0_housesWith_10 : zf mX0_housesWith 10 = some (.iload_n 3, 1, 11) := by decide +kernel
theorem fX0_housesWith_11 : zf mX0_housesWith 11 = some (.invokevirtual 57, 3, 14) := by decide +kernel
theorem fX0_housesWith_14 : zf mX0_housesWith 14 = some (.iload_n 1, 1, 15) := by decide +kernel
theorem fX0_housesWith_15 : zf mX0_housesWith 15 = some (.if_icmp .ne 6, 3, 18) := by decide +kernel
theorem fX0_housesWith_18 : zf mX0_housesWith 18 = some (.iinc 2 1, 3, 21) := by decide +kernel
theorem fX0_housesWith_21 : zf mX0_housesWith 21 = some (.iinc 3 1, 3, 24) := by decide +kernel
theorem fX0_housesWith_24 : zf mX0_housesWith 24 = some (.goto (-20), 3, 27) := by decide +kernel
theorem fX0_housesWith_27 : zf mX0_housesWith 27 = some (.iload_n 2, 1, 28) := by decide +kernel
theorem fX0_housesWith_28 : zf mX0_housesWith 28 = some (.ireturn, 1, 29) := by decide +kernel
theorem fX0_versionsOfHouses_0 : zf mX0_versionsOfHouses 0 = some (.iconst 0, 1, 1) := by decide +kernel
theorem fX0_versionsOfHouses_1 : zf mX0_versionsOfHouses 1 = some (.istore_n 1, 1, 2) := by decide +kernel
theorem fX0_versionsOfHouses_2 : zf mX0_versionsOfHouses 2 = some (.iconst 0, 1, 3) := by decide +kernel
theorem fX0_versionsOfHouses_3 : zf mX0_versionsOfHouses 3 = some (.istore_n 2, 1, 4) := by decide +kernel
theorem fX0_versionsOfHouses_4 : zf mX0_versionsOfHouses 4 = some (.iload_n 2, 1, 5) := by decide +kernel
theorem fX0_versionsOfHouses_5 : zf mX0_versionsOfHouses 5 = some (.aload_n 0, 1, 6) := by decide +kernel
theorem fX0_versionsOfHouses_6 : zf mX0_versionsOfHouses 6 = some (.getfield 12, 3, 9) := by decide +kernel
theorem fX0_versionsOfHouses_9 : zf mX0_versionsOfHouses 9 = some (.invokevirtual 42, 3, 12) := by decide +kernel
theorem fX0_versionsOfHouses_12 : zf mX0_versionsOfHouses 12 = some (.if_icmp .ge 20, 3, 15) := by decide +kernel
theorem fX0_versionsOfHouses_15 : zf mX0_versionsOfHouses 15 = some (.aload_n 0, 1, 16) := by decide +kernel
theorem fX0_versionsOfHouses_16 : zf mX0_versionsOfHouses 16 = some (.iload_n 2, 1, 17) := by decide +kernel
theorem fX0_versionsOfHouses_17 : zf mX0_versionsOfHouses 17 = some (.invokevirtual 61, 3, 20) := by decide +kernel
theorem fX0_versionsOfHouses_20 : zf mX0_versionsOfHouses 20 = some (.ifCond .le 6, 3, 23) := by decide +kernel
theorem fX0_versionsOfHouses_23 : zf mX0_versionsOfHouses 23 = some (.iinc 1 1, 3, 26) := by decide +kernel
theorem fX0_versionsOfHouses_26 : zf mX0_versionsOfHouses 26 = some (.iinc 2 1, 3, 29) := by decide +kernel
theorem fX0_versionsOfHouses_29 : zf mX0_versionsOfHouses 29 = some (.goto (-25), 3, 32) := by decide +kernel
theorem fX0_versionsOfHouses_32 : zf mX0_versionsOfHouses 32 = some (.iload_n 1, 1, 33) := by decide +kernel
theorem fX0_versionsOfHouses_33 : zf mX0_versionsOfHouses 33 = some (.ireturn, 1, 34) := by decide +kernel
theorem fX1_init_0 : zf mX1_init 0 = some (.aload_n 0, 1, 1) := by decide +kernel
theorem fX1_init_1 : zf mX1_init 1 = some (.invokespecial 3, 3, 4) := by decide +kernel
theorem fX1_init_4 : zf mX1_init 4 = some (.aload_n 0, 1, 5) := by decide +kernel
theorem fX1_init_5 : zf mX1_init 5 = some (.new 9, 3, 8) := by decide +kernel
theorem fX1_init_8 : zf mX1_init 8 = some (.dup, 1, 9) := by decide +kernel
theorem fX1_init_9 : zf mX1_init 9 = some (.invokespecial 11, 3, 12) := by decide +kernel
theorem fX1_init_12 : zf mX1_init 12 = some (.putfield 12, 3, 15) := by decide +kernel
theorem fX1_init_15 : zf mX1_init 15 = some (.aload_n 0, 1, 16) := by decide +kernel
theorem fX1_init_16 : zf mX1_init 16 = some (.new 18, 3, 19) := by decide +kernel
theorem fX1_init_19 : zf mX1_init 19 = some (.dup, 1, 20) := by decide +kernel
theorem fX1_init_20 : zf mX1_init 20 = some (.invokespecial 20, 3, 23) := by decide +kernel
theorem fX1_init_23 : zf mX1_init 23 = some (.putfield 21, 3, 26) := by decide +kernel
theorem fX1_init_26 : zf mX1_init 26 = some (.aload_n 0, 1, 27) := by decide +kernel
theorem fX1_init_27 : zf mX1_init 27 = some (.aload_n 0, 1, 28) := by decide +kernel
theorem fX1_init_28 : zf mX1_init 28 = some (.getfield 12, 3, 31) := by decide +kernel
theorem fX1_init_31 : zf mX1_init 31 = some (.getfield 25, 3, 34) := by decide +kernel
theorem fX1_init_34 : zf mX1_init 34 = some (.putfield 29, 3, 37) := by decide +kernel
theorem fX1_init_37 : zf mX1_init 37 = some (.return_, 1, 38) := by decide +kernel
theorem fX1_carryOut_0 : zf mX1_carryOut 0 = some (.aload_n 1, 1, 1) := by decide +kernel
theorem fX1_carryOut_1 : zf mX1_carryOut 1 = some (.iconst 0, 1, 2) := by decide +kernel
theorem fX1_carryOut_2 : zf mX1_carryOut 2 = some (.invokevirtual 30, 3, 5) := by decide +kernel
theorem fX1_carryOut_5 : zf mX1_carryOut 5 = some (.istore_n 2, 1, 6) := by decide +kernel
theorem fX1_carryOut_6 : zf mX1_carryOut 6 = some (.aload_n 1, 1, 7) := by decide +kernel
theorem fX1_carryOut_7 : zf mX1_carryOut 7 = some (.invokevirtual 36, 3, 10) := by decide +kernel
theorem fX1_carryOut_10 : zf mX1_carryOut 10 = some (.lookupswitch 101 #[(98, 90), (102, 79), (103, 58), (119, 42)], 42, 52) := by decide +kernel
theorem fX1_carryOut_52 : zf mX1_carryOut 52 = some (.aload_n 0, 1, 53) := by decide +kernel
theorem fX1_carryOut_53 : zf mX1_carryOut 53 = some (.iload_n 2, 1, 54) := by decide +kernel
theorem fX1_carryOut_54 : zf mX1_carryOut 54 = some (.aload_n 1, 1, 55) := by decide +kernel
theorem fX1_carryOut_55 : zf mX1_carryOut 55 = some (.iconst 1, 1, 56) := by decide +kernel
theorem fX1_carryOut_56 : zf mX1_carryOut 56 = some (.invokevirtual 30, 3, 59) := by decide +kernel
theorem fX1_carryOut_59 : zf mX1_carryOut 59 = some (.aload_n 1, 1, 60) := by decide +kernel
theorem fX1_carryOut_60 : zf mX1_carryOut 60 = some (.iconst 2, 1, 61) := by decide +kernel
theorem fX1_carryOut_61 : zf mX1_carryOut 61 = some (.invokevirtual 30, 3, 64) := by decide +kernel
theorem fX1_carryOut_64 : zf mX1_carryOut 64 = some (.invokevirtual 40, 3, 67) := by decide +kernel
theorem fX1_carryOut_67 : zf mX1_carryOut 67 = some (.ireturn, 1, 68) := by decide +kernel
theorem fX1_carryOut_68 : zf mX1_carryOut 68 = some (.aload_n 0, 1, 69) := by decide +kernel
theorem fX1_carryOut_69 : zf mX1_carryOut 69 = some (.iload_n 2, 1, 70) := by decide +kernel
theorem fX1_carryOut_70 : zf mX1_carryOut 70 = some (.aload_n 1, 1, 71) := by decide +kernel
theorem fX1_carryOut_71 : zf mX1_carryOut 71 = some (.iconst 1, 1, 72) := by decide +kernel
theorem fX1_carryOut_72 : zf mX1_carryOut 72 = some (.invokevirtual 30, 3, 75) := by decide +kernel
theorem fX1_carryOut_75 : zf mX1_carryOut 75 = some (.aload_n 1, 1, 76) := by decide +kernel
theorem fX1_carryOut_76 : zf mX1_carryOut 76 = some (.iconst 2, 1, 77) := by decide +kernel
theorem fX1_carryOut_77 : zf mX1_carryOut 77 = some (.invokevirtual 30, 3, 80) := by decide +kernel
theorem fX1_carryOut_80 : zf mX1_carryOut 80 = some (.aload_n 1, 1, 81) := by decide +kernel
theorem fX1_carryOut_81 : zf mX1_carryOut 81 = some (.iconst 3, 1, 82) := by decide +kernel
theorem fX1_carryOut_82 : zf mX1_carryOut 82 = some (.invokevirtual 30, 3, 85) := by decide +kernel
theorem fX1_carryOut_85 : zf mX1_carryOut 85 = some (.invokevirtual 44, 3, 88) := by decide +kernel
theorem fX1_carryOut_88 : zf mX1_carryOut 88 = some (.ireturn, 1, 89) := by decide +kernel
theorem fX1_carryOut_89 : zf mX1_carryOut 89 = some (.aload_n 0, 1, 90) := by decide +kernel
theorem fX1_carryOut_90 : zf mX1_carryOut 90 = some (.iload_n 2, 1, 91) := by decide +kernel
theorem fX1_carryOut_91 : zf mX1_carryOut 91 = some (.aload_n 1, 1, 92) := by decide +kernel
theorem fX1_carryOut_92 : zf mX1_carryOut 92 = some (.iconst 1, 1, 93) := by decide +kernel
theorem fX1_carryOut_93 : zf mX1_carryOut 93 = some (.invokevirtual 30, 3, 96) := by decide +kernel
theorem fX1_carryOut_96 : zf mX1_carryOut 96 = some (.invokevirtual 48, 3, 99) := by decide +kernel
theorem fX1_carryOut_99 : zf mX1_carryOut 99 = some (.ireturn, 1, 100) := by decide +kernel
theorem fX1_carryOut_100 : zf mX1_carryOut 100 = some (.aload_n 0, 1, 101) := by decide +kernel
theorem fX1_carryOut_101 : zf mX1_carryOut 101 = some (.iload_n 2, 1, 102) := by decide +kernel
theorem fX1_carryOut_102 : zf mX1_carryOut 102 = some (.aload_n 1, 1, 103) := by decide +kernel
theorem fX1_carryOut_103 : zf mX1_carryOut 103 = some (.iconst 1, 1, 104) := by decide +kernel
theorem fX1_carryOut_104 : zf mX1_carryOut 104 = some (.invokevirtual 30, 3, 107) := by decide +kernel
theorem fX1_carryOut_107 : zf mX1_carryOut 107 = some (.invokevirtual 52, 3, 110) := by decide +kernel
theorem fX1_carryOut_110 : zf mX1_carryOut 110 = some (.ireturn, 1, 111) := by decide +kernel
theorem fX1_carryOut_111 : zf mX1_carryOut 111 = some (.aload_n 0, 1, 112) := by decide +kernel
theorem fX1_carryOut_112 : zf mX1_carryOut 112 = some (.aload_n 1, 1, 113) := by decide +kernel
theorem fX1_carryOut_113 : zf mX1_carryOut 113 = some (.iconst 0, 1, 114) := by decide +kernel
theorem fX1_carryOut_114 : zf mX1_carryOut 114 = some (.invokevirtual 30, 3, 117) := by decide +kernel
theorem fX1_carryOut_117 : zf mX1_carryOut 117 = some (.invokevirtual 55, 3, 120) := by decide +kernel
theorem fX1_carryOut_120 : zf mX1_carryOut 120 = some (.ireturn, 1, 121) := by decide +kernel
theorem fX1_enter_0 : zf mX1_enter 0 = some (.iload_n 1, 1, 1) := by decide +kernel
theorem fX1_enter_1 : zf mX1_enter 1 = some (.invokestatic 58, 3, 4) := by decide +kernel
theorem fX1_enter_4 : zf mX1_enter 4 = some (.ifCond .eq 21, 3, 7) := by decide +kernel
theorem fX1_enter_7 : zf mX1_enter 7 = some (.iload_n 2, 1, 8) := by decide +kernel
theorem fX1_enter_8 : zf mX1_enter 8 = some (.invokestatic 62, 3, 11) := by decide +kernel
theorem fX1_enter_11 : zf mX1_enter 11 = some (.ifCond .eq 14, 3, 14) := by decide +kernel
theorem fX1_enter_14 : zf mX1_enter 14 = some (.iload_n 3, 1, 15) := by decide +kernel
theorem fX1_enter_15 : zf mX1_enter 15 = some (.ifCond .lt 10, 3, 18) := by decide +kernel
theorem fX1_enter_18 : zf mX1_enter 18 = some (.iload_n 3, 1, 19) := by decide +kernel
theorem fX1_enter_19 : zf mX1_enter 19 = some (.sipush 999, 3, 22) := by decide +kernel
theorem fX1_enter_22 : zf mX1_enter 22 = some (.if_icmp .le 13, 3, 25) := by decide +kernel
theorem fX1_enter_25 : zf mX1_enter 25 = some (.aload_n 0, 1, 26) := by decide +kernel
theorem fX1_enter_26 : zf mX1_enter 26 = some (.getfield 21, 3, 29) := by decide +kernel
theorem fX1_enter_29 : zf mX1_enter 29 = some (.iconst 1, 1, 30) := by decide +kernel
theorem fX1_enter_30 : zf mX1_enter 30 = some (.iconst 0, 1, 31) := by decide +kernel
theorem fX1_enter_31 : zf mX1_enter 31 = some (.invokevirtual 65, 3, 34) := by decide +kernel
theorem fX1_enter_34 : zf mX1_enter 34 = some (.ireturn, 1, 35) := by decide +kernel
theorem fX1_enter_35 : zf mX1_enter 35 = some (.aload_n 0, 1, 36) := by decide +kernel
theorem fX1_enter_36 : zf mX1_enter 36 = some (.getfield 12, 3, 39) := by decide +kernel
theorem fX1_enter_39 : zf mX1_enter 39 = some (.iload_n 1, 1, 40) := by decide +kernel
theorem fX1_enter_40 : zf mX1_enter 40 = some (.invokevirtual 68, 3, 43) := by decide +kernel
theorem fX1_enter_43 : zf mX1_enter 43 = some (.istore 4, 2, 45) := by decide +kernel
theorem fX1_enter_45 : zf mX1_enter 45 = some (.aload_n 0, 1, 46) := by decide +kernel
theorem fX1_enter_46 : zf mX1_enter 46 = some (.getfield 29, 3, 49) := by decide +kernel
theorem fX1_enter_49 : zf mX1_enter 49 = some (.iload 4, 2, 51) := by decide +kernel
theorem fX1_enter_51 : zf mX1_enter 51 = some (.iload_n 2, 1, 52) := by decide +kernel
theorem fX1_enter_52 : zf mX1_enter 52 = some (.invokevirtual 71, 3, 55) := by decide +kernel
theorem fX1_enter_55 : zf mX1_enter 55 = some (.iload_n 3, 1, 56) := by decide +kernel
theorem fX1_enter_56 : zf mX1_enter 56 = some (.if_icmp .ne 14, 3, 59) := by decide +kernel
theorem fX1_enter_59 : zf mX1_enter 59 = some (.aload_n 0, 1, 60) := by decide +kernel
theorem fX1_enter_60 : zf mX1_enter 60 = some (.getfield 21, 3, 63) := by decide +kernel
theorem fX1_enter_63 : zf mX1_enter 63 = some (.iconst 3, 1, 64) := by decide +kernel
theorem fX1_enter_64 : zf mX1_enter 64 = some (.iload 4, 2, 66) := by decide +kernel
theorem fX1_enter_66 : zf mX1_enter 66 = some (.invokevirtual 65, 3, 69) := by decide +kernel
theorem fX1_enter_69 : zf mX1_enter 69 = some (.ireturn, 1, 70) := by decide +kernel
theorem fX1_enter_70 : zf mX1_enter 70 = some (.aload_n 0, 1, 71) := by decide +kernel
theorem fX1_enter_71 : zf mX1_enter 71 = some (.getfield 29, 3, 74) := by decide +kernel
theorem fX1_enter_74 : zf mX1_enter 74 = some (.invokevirtual 76, 3, 77) := by decide +kernel
theorem fX1_enter_77 : zf mX1_enter 77 = some (.ifCond .eq 13, 3, 80) := by decide +kernel
theorem fX1_enter_80 : zf mX1_enter 80 = some (.aload_n 0, 1, 81) := by decide +kernel
theorem fX1_enter_81 : zf mX1_enter 81 = some (.getfield 21, 3, 84) := by decide +kernel
theorem fX1_enter_84 : zf mX1_enter 84 = some (.iconst 2, 1, 85) := by decide +kernel
theorem fX1_enter_85 : zf mX1_enter 85 = some (.iconst 0, 1, 86) := by decide +kernel
theorem fX1_enter_86 : zf mX1_enter 86 = some (.invokevirtual 65, 3, 89) := by decide +kernel
theorem fX1_enter_89 : zf mX1_enter 89 = some (.ireturn, 1, 90) := by decide +kernel
theorem fX1_enter_90 : zf mX1_enter 90 = some (.aload_n 0, 1, 91) := by decide +kernel
theorem fX1_enter_91 : zf mX1_enter 91 = some (.getfield 12, 3, 94) := by decide +kernel
theorem fX1_enter_94 : zf mX1_enter 94 = some (.iload_n 1, 1, 95) := by decide +kernel
theorem fX1_enter_95 : zf mX1_enter 95 = some (.aload_n 0, 1, 96) := by decide +kernel
theorem fX1_enter_96 : zf mX1_enter 96 = some (.getfield 29, 3, 99) := by decide +kernel
theorem fX1_enter_99 : zf mX1_enter 99 = some (.iload 4, 2, 101) := by decide +kernel
theorem fX1_enter_101 : zf mX1_enter 101 = some (.aload_n 0, 1, 102) := by decide +kernel
theorem fX1_enter_102 : zf mX1_enter 102 = some (.getfield 12, 3, 105) := by decide +kernel
theorem fX1_enter_105 : zf mX1_enter 105 = some (.getfield 80, 3, 108) := by decide +kernel
theorem fX1_enter_108 : zf mX1_enter 108 = some (.iload_n 2, 1, 109) := by decide +kernel
theorem fX1_enter_109 : zf mX1_enter 109 = some (.iload_n 3, 1, 110) := by decide +kernel
theorem fX1_enter_110 : zf mX1_enter 110 = some (.invokevirtual 84, 3, 113) := by decide +kernel
theorem fX1_enter_113 : zf mX1_enter 113 = some (.invokevirtual 87, 3, 116) := by decide +kernel
theorem fX1_enter_116 : zf mX1_enter 116 = some (.aload_n 0, 1, 117) := by decide +kernel
theorem fX1_enter_117 : zf mX1_enter 117 = some (.getfield 12, 3, 120) := by decide +kernel
theorem fX1_enter_120 : zf mX1_enter 120 = some (.dup, 1, 121) := by decide +kernel
theorem fX1_enter_121 : zf mX1_enter 121 = some (.getfield 91, 3, 124) := by decide +kernel
theorem fX1_enter_124 : zf mX1_enter 124 = some (.iconst 1, 1, 125) := by decide +kernel
theorem fX1_enter_125 : zf mX1_enter 125 = some (.iadd, 1, 126) := by decide +kernel
theorem fX1_enter_126 : zf mX1_enter 126 = some (.putfield 91, 3, 129) := by decide +kernel
theorem fX1_enter_129 : zf mX1_enter 129 = some (.aload_n 0, 1, 130) := by decide +kernel
theorem fX1_enter_130 : zf mX1_enter 130 = some (.getfield 12, 3, 133) := by decide +kernel
theorem fX1_enter_133 : zf mX1_enter 133 = some (.iload_n 1, 1, 134) := by decide +kernel
theorem fX1_enter_134 : zf mX1_enter 134 = some (.invokevirtual 68, 3, 137) := by decide +kernel
theorem fX1_enter_137 : zf mX1_enter 137 = some (.ireturn, 1, 138) := by decide +kernel
theorem fX1_copyLines_0 : zf mX1_copyLines 0 = some (.iload_n 1, 1, 1) := by decide +kernel
theorem fX1_copyLines_1 : zf mX1_copyLines 1 = some (.invokestatic 58, 3, 4) := by decide +kernel
theorem fX1_copyLines_4 : zf mX1_copyLines 4 = some (.ifCond .eq 18, 3, 7) := by decide +kernel
theorem fX1_copyLines_7 : zf mX1_copyLines 7 = some (.iload_n 3, 1, 8) := by decide +kernel
theorem fX1_copyLines_8 : zf mX1_copyLines 8 = some (.invokestatic 62, 3, 11) := by decide +kernel
theorem fX1_copyLines_11 : zf mX1_copyLines 11 = some (.ifCond .eq 11, 3, 14) := by decide +kernel
theorem fX1_copyLines_14 : zf mX1_copyLines 14 = some (.iload 4, 2, 16) := by decide +kernel
theorem fX1_copyLines_16 : zf mX1_copyLines 16 = some (.invokestatic 62, 3, 19) := by decide +kernel
theorem fX1_copyLines_19 : zf mX1_copyLines 19 = some (.ifCond .ne 13, 3, 22) := by decide +kernel
theorem fX1_copyLines_22 : zf mX1_copyLines 22 = some (.aload_n 0, 1, 23) := by decide +kernel
theorem fX1_copyLines_23 : zf mX1_copyLines 23 = some (.getfield 21, 3, 26) := by decide +kernel
theorem fX1_copyLines_26 : zf mX1_copyLines 26 = some (.iconst 1, 1, 27) := by decide +kernel
theorem fX1_copyLines_27 : zf mX1_copyLines 27 = some (.iconst 0, 1, 28) := by decide +kernel
theorem fX1_copyLines_28 : zf mX1_copyLines 28 = some (.invokevirtual 65, 3, 31) := by decide +kernel
theorem fX1_copyLines_31 : zf mX1_copyLines 31 = some (.ireturn, 1, 32) := by decide +kernel
theorem fX1_copyLines_32 : zf mX1_copyLines 32 = some (.aload_n 0, 1, 33) := by decide +kernel
theorem fX1_copyLines_33 : zf mX1_copyLines 33 = some (.getfield 29, 3, 36) := by decide +kernel
theorem fX1_copyLines_36 : zf mX1_copyLines 36 = some (.iload_n 2, 1, 37) := by decide +kernel
theorem fX1_copyLines_37 : zf mX1_copyLines 37 = some (.invokevirtual 94, 3, 40) := by decide +kernel
theorem fX1_copyLines_40 : zf mX1_copyLines 40 = some (.ifCond .ne 19, 3, 43) := by decide +kernel
theorem fX1_copyLines_43 : zf mX1_copyLines 43 = some (.aload_n 0, 1, 44) := by decide +kernel
theorem fX1_copyLines_44 : zf mX1_copyLines 44 = some (.getfield 21, 3, 47) := by decide +kernel
theorem fX1_copyLines_47 : zf mX1_copyLines 47 = some (.iconst 4, 1, 48) := by decide +kernel
theorem fX1_copyLines_48 : zf mX1_copyLines 48 = some (.aload_n 0, 1, 49) := by decide +kernel
theorem fX1_copyLines_49 : zf mX1_copyLines 49 = some (.getfield 29, 3, 52) := by decide +kernel
theorem fX1_copyLines_52 : zf mX1_copyLines 52 = some (.invokevirtual 97, 3, 55) := by decide +kernel
theorem fX1_copyLines_55 : zf mX1_copyLines 55 = some (.invokevirtual 65, 3, 58) := by decide +kernel
theorem fX1_copyLines_58 : zf mX1_copyLines 58 = some (.ireturn, 1, 59) := by decide +kernel
theorem fX1_copyLines_59 : zf mX1_copyLines 59 = some (.iload 4, 2, 61) := by decide +kernel
theorem fX1_copyLines_61 : zf mX1_copyLines 61 = some (.iload_n 3, 1, 62) := by decide +kernel
theorem fX1_copyLines_62 : zf mX1_copyLines 62 = some (.if_icmp .ge 16, 3, 65) := by decide +kernel
theorem fX1_copyLines_65 : zf mX1_copyLines 65 = some (.aload_n 0, 1, 66) := by decide +kernel
theorem fX1_copyLines_66 : zf mX1_copyLines 66 = some (.getfield 21, 3, 69) := by decide +kernel
theorem fX1_copyLines_69 : zf mX1_copyLines 69 = some (.iconst 5, 1, 70) := by decide +kernel
theorem fX1_copyLines_70 : zf mX1_copyLines 70 = some (.iload_n 3, 1, 71) := by decide +kernel
theorem fX1_copyLines_71 : zf mX1_copyLines 71 = some (.iload 4, 2, 73) := by decide +kernel
theorem fX1_copyLines_73 : zf mX1_copyLines 73 = some (.isub, 1, 74) := by decide +kernel
theorem fX1_copyLines_74 : zf mX1_copyLines 74 = some (.invokevirtual 65, 3, 77) := by decide +kernel
theorem fX1_copyLines_77 : zf mX1_copyLines 77 = some (.ireturn, 1, 78) := by decide +kernel
theorem fX1_copyLines_78 : zf mX1_copyLines 78 = some (.aload_n 0, 1, 79) := by decide +kernel
theorem fX1_copyLines_79 : zf mX1_copyLines 79 = some (.getfield 12, 3, 82) := by decide +kernel
theorem fX1_copyLines_82 : zf mX1_copyLines 82 = some (.iload_n 1, 1, 83) := by decide +kernel
theorem fX1_copyLines_83 : zf mX1_copyLines 83 = some (.invokevirtual 68, 3, 86) := by decide +kernel
theorem fX1_copyLines_86 : zf mX1_copyLines 86 = some (.istore 5, 2, 88) := by decide +kernel
theorem fX1_copyLines_88 : zf mX1_copyLines 88 = some (.aload_n 0, 1, 89) := by decide +kernel
theorem fX1_copyLines_89 : zf mX1_copyLines 89 = some (.getfield 29, 3, 92) := by decide +kernel
theorem fX1_copyLines_92 : zf mX1_copyLines 92 = some (.iload 5, 2, 94) := by decide +kernel
theorem fX1_copyLines_94 : zf mX1_copyLines 94 = some (.iload_n 2, 1, 95) := by decide +kernel
theorem fX1_copyLines_95 : zf mX1_copyLines 95 = some (.iload_n 3, 1, 96) := by decide +kernel
theorem fX1_copyLines_96 : zf mX1_copyLines 96 = some (.iload 4, 2, 98) := by decide +kernel
theorem fX1_copyLines_98 : zf mX1_copyLines 98 = some (.invokevirtual 101, 3, 101) := by decide +kernel
theorem fX1_copyLines_101 : zf mX1_copyLines 101 = some (.ifCond .ne 14, 3, 104) := by decide +kernel
theorem fX1_copyLines_104 : zf mX1_copyLines 104 = some (.aload_n 0, 1, 105) := by decide +kernel
theorem fX1_copyLines_105 : zf mX1_copyLines 105 = some (.getfield 21, 3, 108) := by decide +kernel
theorem fX1_copyLines_108 : zf mX1_copyLines 108 = some (.iconst 3, 1, 109) := by decide +kernel
theorem fX1_copyLines_109 : zf mX1_copyLines 109 = some (.iload 5, 2, 111) := by decide +kernel
theorem fX1_copyLines_111 : zf mX1_copyLines 111 = some (.invokevirtual 65, 3, 114) := by decide +kernel
theorem fX1_copyLines_114 : zf mX1_copyLines 114 = some (.ireturn, 1, 115) := by decide +kernel
theorem fX1_copyLines_115 : zf mX1_copyLines 115 = some (.aload_n 0, 1, 116) := by decide +kernel
theorem fX1_copyLines_116 : zf mX1_copyLines 116 = some (.getfield 29, 3, 119) := by decide +kernel
theorem fX1_copyLines_119 : zf mX1_copyLines 119 = some (.invokevirtual 76, 3, 122) := by decide +kernel
theorem fX1_copyLines_122 : zf mX1_copyLines 122 = some (.ifCond .eq 13, 3, 125) := by decide +kernel
theorem fX1_copyLines_125 : zf mX1_copyLines 125 = some (.aload_n 0, 1, 126) := by decide +kernel
theorem fX1_copyLines_126 : zf mX1_copyLines 126 = some (.getfield 21, 3, 129) := by decide +kernel
theorem fX1_copyLines_129 : zf mX1_copyLines 129 = some (.iconst 2, 1, 130) := by decide +kernel
theorem fX1_copyLines_130 : zf mX1_copyLines 130 = some (.iconst 0, 1, 131) := by decide +kernel
theorem fX1_copyLines_131 : zf mX1_copyLines 131 = some (.invokevirtual 65, 3, 134) := by decide +kernel
theorem fX1_copyLines_134 : zf mX1_copyLines 134 = some (.ireturn, 1, 135) := by decide +kernel
theorem fX1_copyLines_135 : zf mX1_copyLines 135 = some (.aload_n 0, 1, 136) := by decide +kernel
theorem fX1_copyLines_136 : zf mX1_copyLines 136 = some (.getfield 12, 3, 139) := by decide +kernel
theorem fX1_copyLines_139 : zf mX1_copyLines 139 = some (.iload_n 1, 1, 140) := by decide +kernel
theorem fX1_copyLines_140 : zf mX1_copyLines 140 = some (.aload_n 0, 1, 141) := by decide +kernel
theorem fX1_copyLines_141 : zf mX1_copyLines 141 = some (.getfield 29, 3, 144) := by decide +kernel
theorem fX1_copyLines_144 : zf mX1_copyLines 144 = some (.iload 5, 2, 146) := by decide +kernel
theorem fX1_copyLines_146 : zf mX1_copyLines 146 = some (.aload_n 0, 1, 147) := by decide +kernel
theorem fX1_copyLines_147 : zf mX1_copyLines 147 = some (.getfield 12, 3, 150) := by decide +kernel
theorem fX1_copyLines_150 : zf mX1_copyLines 150 = some (.getfield 80, 3, 153) := by decide +kernel
theorem fX1_copyLines_153 : zf mX1_copyLines 153 = some (.iload_n 2, 1, 154) := by decide +kernel
theorem fX1_copyLines_154 : zf mX1_copyLines 154 = some (.iload_n 3, 1, 155) := by decide +kernel
theorem fX1_copyLines_155 : zf mX1_copyLines 155 = some (.iload 4, 2, 157) := by decide +kernel
theorem fX1_copyLines_157 : zf mX1_copyLines 157 = some (.invokevirtual 104, 3, 160) := by decide +kernel
theorem fX1_copyLines_160 : zf mX1_copyLines 160 = some (.invokevirtual 87, 3, 163) := by decide +kernel
theorem fX1_copyLines_163 : zf mX1_copyLines 163 = some (.aload_n 0, 1, 164) := by decide +kernel
theorem fX1_copyLines_164 : zf mX1_copyLines 164 = some (.getfield 12, 3, 167) := by decide +kernel
theorem fX1_copyLines_167 : zf mX1_copyLines 167 = some (.dup, 1, 168) := by decide +kernel
theorem fX1_copyLines_168 : zf mX1_copyLines 168 = some (.getfield 108, 3, 171) := by decide +kernel
theorem fX1_copyLines_171 : zf mX1_copyLines 171 = some (.iconst 1, 1, 172) := by decide +kernel
theorem fX1_copyLines_172 : zf mX1_copyLines 172 = some (.iadd, 1, 173) := by decide +kernel
theorem fX1_copyLines_173 : zf mX1_copyLines 173 = some (.putfield 108, 3, 176) := by decide +kernel
theorem fX1_copyLines_176 : zf mX1_copyLines 176 = some (.aload_n 0, 1, 177) := by decide +kernel
theorem fX1_copyLines_177 : zf mX1_copyLines 177 = some (.getfield 12, 3, 180) := by decide +kernel
theorem fX1_copyLines_180 : zf mX1_copyLines 180 = some (.iload_n 1, 1, 181) := by decide +kernel
theorem fX1_copyLines_181 : zf mX1_copyLines 181 = some (.invokevirtual 68, 3, 184) := by decide +kernel
theorem fX1_copyLines_184 : zf mX1_copyLines 184 = some (.ireturn, 1, 185) := by decide +kernel
theorem fX1_takeOver_0 : zf mX1_takeOver 0 = some (.iload_n 1, 1, 1) := by decide +kernel
theorem fX1_takeOver_1 : zf mX1_takeOver 1 = some (.invokestatic 58, 3, 4) := by decide +kernel
theorem fX1_takeOver_4 : zf mX1_takeOver 4 = some (.ifCond .eq 10, 3, 7) := by decide +kernel
theorem fX1_takeOver_7 : zf mX1_takeOver 7 = some (.iload_n 2, 1, 8) := by decide +kernel
theorem fX1_takeOver_8 : zf mX1_takeOver 8 = some (.invokestatic 58, 3, 11) := by decide +kernel
theorem fX1_takeOver_11 : zf mX1_takeOver 11 = some (.ifCond .ne 13, 3, 14) := by decide +kernel
theorem fX1_takeOver_14 : zf mX1_takeOver 14 = some (.aload_n 0, 1, 15) := by decide +kernel
theorem fX1_takeOver_15 : zf mX1_takeOver 15 = some (.getfield 21, 3, 18) := by decide +kernel
theorem fX1_takeOver_18 : zf mX1_takeOver 18 = some (.iconst 1, 1, 19) := by decide +kernel
theorem fX1_takeOver_19 : zf mX1_takeOver 19 = some (.iconst 0, 1, 20) := by decide +kernel
theorem fX1_takeOver_20 : zf mX1_takeOver 20 = some (.invokevirtual 65, 3, 23) := by decide +kernel
theorem fX1_takeOver_23 : zf mX1_takeOver 23 = some (.ireturn, 1, 24) := by decide +kernel
theorem fX1_takeOver_24 : zf mX1_takeOver 24 = some (.iload_n 1, 1, 25) := by decide +kernel
theorem fX1_takeOver_25 : zf mX1_takeOver 25 = some (.iload_n 2, 1, 26) := by decide +kernel
theorem fX1_takeOver_26 : zf mX1_takeOver 26 = some (.if_icmp .ne 14, 3, 29) := by decide +kernel
theorem fX1_takeOver_29 : zf mX1_takeOver 29 = some (.aload_n 0, 1, 30) := by decide +kernel
theorem fX1_takeOver_30 : zf mX1_takeOver 30 = some (.getfield 21, 3, 33) := by decide +kernel
theorem fX1_takeOver_33 : zf mX1_takeOver 33 = some (.bipush 6, 2, 35) := by decide +kernel
theorem fX1_takeOver_35 : zf mX1_takeOver 35 = some (.iload_n 1, 1, 36) := by decide +kernel
theorem fX1_takeOver_36 : zf mX1_takeOver 36 = some (.invokevirtual 65, 3, 39) := by decide +kernel
theorem fX1_takeOver_39 : zf mX1_takeOver 39 = some (.ireturn, 1, 40) := by decide +kernel
theorem fX1_takeOver_40 : zf mX1_takeOver 40 = some (.aload_n 0, 1, 41) := by decide +kernel
theorem fX1_takeOver_41 : zf mX1_takeOver 41 = some (.getfield 12, 3, 44) := by decide +kernel
theorem fX1_takeOver_44 : zf mX1_takeOver 44 = some (.iload_n 2, 1, 45) := by decide +kernel
theorem fX1_takeOver_45 : zf mX1_takeOver 45 = some (.invokevirtual 68, 3, 48) := by decide +kernel
theorem fX1_takeOver_48 : zf mX1_takeOver 48 = some (.istore_n 3, 1, 49) := by decide +kernel
theorem fX1_takeOver_49 : zf mX1_takeOver 49 = some (.aload_n 0, 1, 50) := by decide +kernel
theorem fX1_takeOver_50 : zf mX1_takeOver 50 = some (.getfield 12, 3, 53) := by decide +kernel
theorem fX1_takeOver_53 : zf mX1_takeOver 53 = some (.iload_n 1, 1, 54) := by decide +kernel
theorem fX1_takeOver_54 : zf mX1_takeOver 54 = some (.invokevirtual 68, 3, 57) := by decide +kernel
theorem fX1_takeOver_57 : zf mX1_takeOver 57 = some (.iload_n 3, 1, 58) := by decide +kernel
theorem fX1_takeOver_58 : zf mX1_takeOver 58 = some (.if_icmp .ne 13, 3, 61) := by decide +kernel
theorem fX1_takeOver_61 : zf mX1_takeOver 61 = some (.aload_n 0, 1, 62) := by decide +kernel
theorem fX1_takeOver_62 : zf mX1_takeOver 62 = some (.getfield 21, 3, 65) := by decide +kernel
theorem fX1_takeOver_65 : zf mX1_takeOver 65 = some (.iconst 3, 1, 66) := by decide +kernel
theorem fX1_takeOver_66 : zf mX1_takeOver 66 = some (.iload_n 3, 1, 67) := by decide +kernel
theorem fX1_takeOver_67 : zf mX1_takeOver 67 = some (.invokevirtual 65, 3, 70) := by decide +kernel
theorem fX1_takeOver_70 : zf mX1_takeOver 70 = some (.ireturn, 1, 71) := by decide +kernel
theorem fX1_takeOver_71 : zf mX1_takeOver 71 = some (.aload_n 0, 1, 72) := by decide +kernel
theorem fX1_takeOver_72 : zf mX1_takeOver 72 = some (.getfield 12, 3, 75) := by decide +kernel
theorem fX1_takeOver_75 : zf mX1_takeOver 75 = some (.iload_n 1, 1, 76) := by decide +kernel
theorem fX1_takeOver_76 : zf mX1_takeOver 76 = some (.iload_n 3, 1, 77) := by decide +kernel
theorem fX1_takeOver_77 : zf mX1_takeOver 77 = some (.invokevirtual 87, 3, 80) := by decide +kernel
theorem fX1_takeOver_80 : zf mX1_takeOver 80 = some (.iload_n 3, 1, 81) := by decide +kernel
theorem fX1_takeOver_81 : zf mX1_takeOver 81 = some (.ireturn, 1, 82) := by decide +kernel
theorem fX1_goBack_0 : zf mX1_goBack 0 = some (.iload_n 1, 1, 1) := by decide +kernel
theorem fX1_goBack_1 : zf mX1_goBack 1 = some (.invokestatic 58, 3, 4) := by decide +kernel
theorem fX1_goBack_4 : zf mX1_goBack 4 = some (.ifCond .eq 14, 3, 7) := by decide +kernel
theorem fX1_goBack_7 : zf mX1_goBack 7 = some (.iload_n 2, 1, 8) := by decide +kernel
theorem fX1_goBack_8 : zf mX1_goBack 8 = some (.iconst 1, 1, 9) := by decide +kernel
theorem fX1_goBack_9 : zf mX1_goBack 9 = some (.if_icmp .lt 9, 3, 12) := by decide +kernel
theorem fX1_goBack_12 : zf mX1_goBack 12 = some (.iload_n 2, 1, 13) := by decide +kernel
theorem fX1_goBack_13 : zf mX1_goBack 13 = some (.bipush 40, 2, 15) := by decide +kernel
theorem fX1_goBack_15 : zf mX1_goBack 15 = some (.if_icmp .lt 13, 3, 18) := by decide +kernel
theorem fX1_goBack_18 : zf mX1_goBack 18 = some (.aload_n 0, 1, 19) := by decide +kernel
theorem fX1_goBack_19 : zf mX1_goBack 19 = some (.getfield 21, 3, 22) := by decide +kernel
theorem fX1_goBack_22 : zf mX1_goBack 22 = some (.iconst 1, 1, 23) := by decide +kernel
theorem fX1_goBack_23 : zf mX1_goBack 23 = some (.iconst 0, 1, 24) := by decide +kernel
theorem fX1_goBack_24 : zf mX1_goBack 24 = some (.invokevirtual 65, 3, 27) := by decide +kernel
theorem fX1_goBack_27 : zf mX1_goBack 27 = some (.ireturn, 1, 28) := by decide +kernel
theorem fX1_goBack_28 : zf mX1_goBack 28 = some (.aload_n 0, 1, 29) := by decide +kernel
theorem fX1_goBack_29 : zf mX1_goBack 29 = some (.getfield 12, 3, 32) := by decide +kernel
theorem fX1_goBack_32 : zf mX1_goBack 32 = some (.iload_n 1, 1, 33) := by decide +kernel
theorem fX1_goBack_33 : zf mX1_goBack 33 = some (.invokevirtual 68, 3, 36) := by decide +kernel
theorem fX1_goBack_36 : zf mX1_goBack 36 = some (.istore_n 3, 1, 37) := by decide +kernel
theorem fX1_goBack_37 : zf mX1_goBack 37 = some (.aload_n 0, 1, 38) := by decide +kernel
theorem fX1_goBack_38 : zf mX1_goBack 38 = some (.getfield 29, 3, 41) := by decide +kernel
theorem fX1_goBack_41 : zf mX1_goBack 41 = some (.iload_n 3, 1, 42) := by decide +kernel
theorem fX1_goBack_42 : zf mX1_goBack 42 = some (.invokevirtual 111, 3, 45) := by decide +kernel
theorem fX1_goBack_45 : zf mX1_goBack 45 = some (.istore 4, 2, 47) := by decide +kernel
theorem fX1_goBack_47 : zf mX1_goBack 47 = some (.iload 4, 2, 49) := by decide +kernel
theorem fX1_goBack_49 : zf mX1_goBack 49 = some (.iload_n 2, 1, 50) := by decide +kernel
theorem fX1_goBack_50 : zf mX1_goBack 50 = some (.if_icmp .ge 15, 3, 53) := by decide +kernel
theorem fX1_goBack_53 : zf mX1_goBack 53 = some (.aload_n 0, 1, 54) := by decide +kernel
theorem fX1_goBack_54 : zf mX1_goBack 54 = some (.getfield 21, 3, 57) := by decide +kernel
theorem fX1_goBack_57 : zf mX1_goBack 57 = some (.bipush 7, 2, 59) := by decide +kernel
theorem fX1_goBack_59 : zf mX1_goBack 59 = some (.iload 4, 2, 61) := by decide +kernel
theorem fX1_goBack_61 : zf mX1_goBack 61 = some (.invokevirtual 65, 3, 64) := by decide +kernel
theorem fX1_goBack_64 : zf mX1_goBack 64 = some (.ireturn, 1, 65) := by decide +kernel
theorem fX1_goBack_65 : zf mX1_goBack 65 = some (.aload_n 0, 1, 66) := by decide +kernel
theorem fX1_goBack_66 : zf mX1_goBack 66 = some (.getfield 12, 3, 69) := by decide +kernel
theorem fX1_goBack_69 : zf mX1_goBack 69 = some (.iload_n 1, 1, 70) := by decide +kernel
theorem fX1_goBack_70 : zf mX1_goBack 70 = some (.aload_n 0, 1, 71) := by decide +kernel
theorem fX1_goBack_71 : zf mX1_goBack 71 = some (.getfield 29, 3, 74) := by decide +kernel
theorem fX1_goBack_74 : zf mX1_goBack 74 = some (.iload_n 3, 1, 75) := by decide +kernel
theorem fX1_goBack_75 : zf mX1_goBack 75 = some (.iload_n 2, 1, 76) := by decide +kernel
theorem fX1_goBack_76 : zf mX1_goBack 76 = some (.invokevirtual 114, 3, 79) := by decide +kernel
theorem fX1_goBack_79 : zf mX1_goBack 79 = some (.invokevirtual 87, 3, 82) := by decide +kernel
theorem fX1_goBack_82 : zf mX1_goBack 82 = some (.aload_n 0, 1, 83) := by decide +kernel
theorem fX1_goBack_83 : zf mX1_goBack 83 = some (.getfield 12, 3, 86) := by decide +kernel
theorem fX1_goBack_86 : zf mX1_goBack 86 = some (.iload_n 1, 1, 87) := by decide +kernel
theorem fX1_goBack_87 : zf mX1_goBack 87 = some (.invokevirtual 68, 3, 90) := by decide +kernel
theorem fX1_goBack_90 : zf mX1_goBack 90 = some (.ireturn, 1, 91) := by decide +kernel
theorem fX1_letGoBy_0 : zf mX1_letGoBy 0 = some (.iload_n 1, 1, 1) := by decide +kernel
theorem fX1_letGoBy_1 : zf mX1_letGoBy 1 = some (.iconst 1, 1, 2) := by decide +kernel
theorem fX1_letGoBy_2 : zf mX1_letGoBy 2 = some (.if_icmp .lt 9, 3, 5) := by decide +kernel
theorem fX1_letGoBy_5 : zf mX1_letGoBy 5 = some (.iload_n 1, 1, 6) := by decide +kernel
theorem fX1_letGoBy_6 : zf mX1_letGoBy 6 = some (.bipush 99, 2, 8) := by decide +kernel
theorem fX1_letGoBy_8 : zf mX1_letGoBy 8 = some (.if_icmp .le 13, 3, 11) := by decide +kernel
theorem fX1_letGoBy_11 : zf mX1_letGoBy 11 = some (.aload_n 0, 1, 12) := by decide +kernel
theorem fX1_letGoBy_12 : zf mX1_letGoBy 12 = some (.getfield 21, 3, 15) := by decide +kernel
theorem fX1_letGoBy_15 : zf mX1_letGoBy 15 = some (.iconst 1, 1, 16) := by decide +kernel
theorem fX1_letGoBy_16 : zf mX1_letGoBy 16 = some (.iconst 0, 1, 17) := by decide +kernel
theorem fX1_letGoBy_17 : zf mX1_letGoBy 17 = some (.invokevirtual 65, 3, 20) := by decide +kernel
theorem fX1_letGoBy_20 : zf mX1_letGoBy 20 = some (.ireturn, 1, 21) := by decide +kernel
theorem fX1_letGoBy_21 : zf mX1_letGoBy 21 = some (.aload_n 0, 1, 22) := by decide +kernel
theorem fX1_letGoBy_22 : zf mX1_letGoBy 22 = some (.getfield 12, 3, 25) := by decide +kernel
theorem fX1_letGoBy_25 : zf mX1_letGoBy 25 = some (.getfield 80, 3, 28) := by decide +kernel
theorem fX1_letGoBy_28 : zf mX1_letGoBy 28 = some (.iload_n 1, 1, 29) := by decide +kernel
theorem fX1_letGoBy_29 : zf mX1_letGoBy 29 = some (.iadd, 1, 30) := by decide +kernel
theorem fX1_letGoBy_30 : zf mX1_letGoBy 30 = some (.bipush 99, 2, 32) := by decide +kernel
theorem fX1_letGoBy_32 : zf mX1_letGoBy 32 = some (.if_icmp .le 25, 3, 35) := by decide +kernel
theorem fX1_letGoBy_35 : zf mX1_letGoBy 35 = some (.aload_n 0, 1, 36) := by decide +kernel
theorem fX1_letGoBy_36 : zf mX1_letGoBy 36 = some (.getfield 21, 3, 39) := by decide +kernel
theorem fX1_letGoBy_39 : zf mX1_letGoBy 39 = some (.bipush 8, 2, 41) := by decide +kernel
theorem fX1_letGoBy_41 : zf mX1_letGoBy 41 = some (.aload_n 0, 1, 42) := by decide +kernel
theorem fX1_letGoBy_42 : zf mX1_letGoBy 42 = some (.getfield 12, 3, 45) := by decide +kernel
theorem fX1_letGoBy_45 : zf mX1_letGoBy 45 = some (.getfield 80, 3, 48) := by decide +kernel
theorem fX1_letGoBy_48 : zf mX1_letGoBy 48 = some (.iload_n 1, 1, 49) := by decide +kernel
theorem fX1_letGoBy_49 : zf mX1_letGoBy 49 = some (.iadd, 1, 50) := by decide +kernel
theorem fX1_letGoBy_50 : zf mX1_letGoBy 50 = some (.bipush 99, 2, 52) := by decide +kernel
theorem fX1_letGoBy_52 : zf mX1_letGoBy 52 = some (.isub, 1, 53) := by decide +kernel
theorem fX1_letGoBy_53 : zf mX1_letGoBy 53 = some (.invokevirtual 65, 3, 56) := by decide +kernel
theorem fX1_letGoBy_56 : zf mX1_letGoBy 56 = some (.ireturn, 1, 57) := by decide +kernel
theorem fX1_letGoBy_57 : zf mX1_letGoBy 57 = some (.aload_n 0, 1, 58) := by decide +kernel
theorem fX1_letGoBy_58 : zf mX1_letGoBy 58 = some (.getfield 12, 3, 61) := by decide +kernel
theorem fX1_letGoBy_61 : zf mX1_letGoBy 61 = some (.dup, 1, 62) := by decide +kernel
theorem fX1_letGoBy_62 : zf mX1_letGoBy 62 = some (.getfield 80, 3, 65) := by decide +kernel
theorem fX1_letGoBy_65 : zf mX1_letGoBy 65 = some (.iload_n 1, 1, 66) := by decide +kernel
theorem fX1_letGoBy_66 : zf mX1_letGoBy 66 = some (.iadd, 1, 67) := by decide +kernel
theorem fX1_letGoBy_67 : zf mX1_letGoBy 67 = some (.putfield 80, 3, 70) := by decide +kernel
theorem fX1_letGoBy_70 : zf mX1_letGoBy 70 = some (.aload_n 0, 1, 71) := by decide +kernel
theorem fX1_letGoBy_71 : zf mX1_letGoBy 71 = some (.getfield 12, 3, 74) := by decide +kernel
theorem fX1_letGoBy_74 : zf mX1_letGoBy 74 = some (.getfield 80, 3, 77) := by decide +kernel
theorem fX1_letGoBy_77 : zf mX1_letGoBy 77 = some (.ireturn, 1, 78) := by decide +kernel
theorem fX2_init_0 : zf mX2_init 0 = some (.aload_n 0, 1, 1) := by decide +kernel
theorem fX2_init_1 : zf mX2_init 1 = some (.invokespecial 3, 3, 4) := by decide +kernel
theorem fX2_init_4 : zf mX2_init 4 = some (.aload_n 0, 1, 5) := by decide +kernel
theorem fX2_init_5 : zf mX2_init 5 = some (.bipush 60, 2, 7) := by decide +kernel
theorem fX2_init_7 : zf mX2_init 7 = some (.newarray .char, 2, 9) := by decide +kernel
theorem fX2_init_9 : zf mX2_init 9 = some (.putfield 9, 3, 12) := by decide +kernel
theorem fX2_init_12 : zf mX2_init 12 = some (.aload_n 0, 1, 13) := by decide +kernel
theorem fX2_init_13 : zf mX2_init 13 = some (.iconst 0, 1, 14) := by decide +kernel
theorem fX2_init_14 : zf mX2_init 14 = some (.putfield 15, 3, 17) := by decide +kernel
theorem fX2_init_17 : zf mX2_init 17 = some (.aload_n 0, 1, 18) := by decide +kernel
theorem fX2_init_18 : zf mX2_init 18 = some (.iconst 0, 1, 19) := by decide +kernel
theorem fX2_init_19 : zf mX2_init 19 = some (.putfield 19, 3, 22) := by decide +kernel
theorem fX2_init_22 : zf mX2_init 22 = some (.aload_n 0, 1, 23) := by decide +kernel
theorem fX2_init_23 : zf mX2_init 23 = some (.bipush 32, 2, 25) := by decide +kernel
theorem fX2_init_25 : zf mX2_init 25 = some (.putfield 22, 3, 28) := by decide +kernel
theorem fX2_init_28 : zf mX2_init 28 = some (.aload_n 0, 1, 29) := by decide +kernel
theorem fX2_init_29 : zf mX2_init 29 = some (.iconst 4, 1, 30) := by decide +kernel
theorem fX2_init_30 : zf mX2_init 30 = some (.newarray .int, 2, 32) := by decide +kernel
theorem fX2_init_32 : zf mX2_init 32 = some (.putfield 26, 3, 35) := by decide +kernel
theorem fX2_init_35 : zf mX2_init 35 = some (.return_, 1, 36) := by decide +kernel
theorem fX2_size_0 : zf mX2_size 0 = some (.aload_n 0, 1, 1) := by decide +kernel
theorem fX2_size_1 : zf mX2_size 1 = some (.getfield 15, 3, 4) := by decide +kernel
theorem fX2_size_4 : zf mX2_size 4 = some (.ireturn, 1, 5) := by decide +kernel
theorem fX2_isFull_0 : zf mX2_isFull 0 = some (.aload_n 0, 1, 1) := by decide +kernel
theorem fX2_isFull_1 : zf mX2_isFull 1 = some (.getfield 15, 3, 4) := by decide +kernel
theorem fX2_isFull_4 : zf mX2_isFull 4 = some (.bipush 60, 2, 6) := by decide +kernel
theorem fX2_isFull_6 : zf mX2_isFull 6 = some (.if_icmp .lt 7, 3, 9) := by decide +kernel
theorem fX2_isFull_9 : zf mX2_isFull 9 = some (.iconst 1, 1, 10) := by decide +kernel
theorem fX2_isFull_10 : zf mX2_isFull 10 = some (.goto 4, 3, 13) := by decide +kernel
theorem fX2_isFull_13 : zf mX2_isFull 13 = some (.iconst 0, 1, 14) := by decide +kernel
theorem fX2_isFull_14 : zf mX2_isFull 14 = some (.ireturn, 1, 15) := by decide +kernel
theorem fX2_put_0 : zf mX2_put 0 = some (.aload_n 0, 1, 1) := by decide +kernel
theorem fX2_put_1 : zf mX2_put 1 = some (.invokevirtual 30, 3, 4) := by decide +kernel
theorem fX2_put_4 : zf mX2_put 4 = some (.ifCond .ne 23, 3, 7) := by decide +kernel
theorem fX2_put_7 : zf mX2_put 7 = some (.aload_n 0, 1, 8) := by decide +kernel
theorem fX2_put_8 : zf mX2_put 8 = some (.getfield 9, 3, 11) := by decide +kernel
theorem fX2_put_11 : zf mX2_put 11 = some (.aload_n 0, 1, 12) := by decide +kernel
theorem fX2_put_12 : zf mX2_put 12 = some (.getfield 15, 3, 15) := by decide +kernel
theorem fX2_put_15 : zf mX2_put 15 = some (.iload_n 1, 1, 16) := by decide +kernel
theorem fX2_put_16 : zf mX2_put 16 = some (.castore, 1, 17) := by decide +kernel
theorem fX2_put_17 : zf mX2_put 17 = some (.aload_n 0, 1, 18) := by decide +kernel
theorem fX2_put_18 : zf mX2_put 18 = some (.dup, 1, 19) := by decide +kernel
theorem fX2_put_19 : zf mX2_put 19 = some (.getfield 15, 3, 22) := by decide +kernel
theorem fX2_put_22 : zf mX2_put 22 = some (.iconst 1, 1, 23) := by decide +kernel
theorem fX2_put_23 : zf mX2_put 23 = some (.iadd, 1, 24) := by decide +kernel
theorem fX2_put_24 : zf mX2_put 24 = some (.putfield 15, 3, 27) := by decide +kernel
theorem fX2_put_27 : zf mX2_put 27 = some (.return_, 1, 28) := by decide +kernel
theorem fX2_clear_0 : zf mX2_clear 0 = some (.aload_n 0, 1, 1) := by decide +kernel
theorem fX2_clear_1 : zf mX2_clear 1 = some (.iconst 0, 1, 2) := by decide +kernel
theorem fX2_clear_2 : zf mX2_clear 2 = some (.putfield 15, 3, 5) := by decide +kernel
theorem fX2_clear_5 : zf mX2_clear 5 = some (.return_, 1, 6) := by decide +kernel
theorem fX2_rewind_0 : zf mX2_rewind 0 = some (.aload_n 0, 1, 1) := by decide +kernel
theorem fX2_rewind_1 : zf mX2_rewind 1 = some (.iconst 0, 1, 2) := by decide +kernel
theorem fX2_rewind_2 : zf mX2_rewind 2 = some (.putfield 19, 3, 5) := by decide +kernel
theorem fX2_rewind_5 : zf mX2_rewind 5 = some (.return_, 1, 6) := by decide +kernel
theorem fX2_kind_0 : zf mX2_kind 0 = some (.aload_n 0, 1, 1) := by decide +kernel
theorem fX2_kind_1 : zf mX2_kind 1 = some (.getfield 22, 3, 4) := by decide +kernel
theorem fX2_kind_4 : zf mX2_kind 4 = some (.ireturn, 1, 5) := by decide +kernel
theorem fX2_number_0 : zf mX2_number 0 = some (.iload_n 1, 1, 1) := by decide +kernel
theorem fX2_number_1 : zf mX2_number 1 = some (.ifCond .lt 17, 3, 4) := by decide +kernel
theorem fX2_number_4 : zf mX2_number 4 = some (.iload_n 1, 1, 5) := by decide +kernel
theorem fX2_number_5 : zf mX2_number 5 = some (.iconst 4, 1, 6) := by decide +kernel
theorem fX2_number_6 : zf mX2_number 6 = some (.if_icmp .ge 12, 3, 9) := by decide +kernel
theorem fX2_number_9 : zf mX2_number 9 = some (.aload_n 0, 1, 10) := by decide +kernel
theorem fX2_number_10 : zf mX2_number 10 = some (.getfield 26, 3, 13) := by decide +kernel
theorem fX2_number_13 : zf mX2_number 13 = some (.iload_n 1, 1, 14) := by decide +kernel
theorem fX2_number_14 : zf mX2_number 14 = some (.iaload, 1, 15) := by decide +kernel
theorem fX2_number_15 : zf mX2_number 15 = some (.goto 4, 3, 18) := by decide +kernel
theorem fX2_number_18 : zf mX2_number 18 = some (.iconst 0, 1, 19) := by decide +kernel
theorem fX2_number_19 : zf mX2_number 19 = some (.ireturn, 1, 20) := by decide +kernel
theorem fX2_findFault_0 : zf mX2_findFault 0 = some (.aload_n 0, 1, 1) := by decide +kernel
theorem fX2_findFault_1 : zf mX2_findFault 1 = some (.invokevirtual 34, 3, 4) := by decide +kernel
theorem fX2_findFault_4 : zf mX2_findFault 4 = some (.iconst 0, 1, 5) := by decide +kernel
theorem fX2_findFault_5 : zf mX2_findFault 5 = some (.istore_n 1, 1, 6) := by decide +kernel
theorem fX2_findFault_6 : zf mX2_findFault 6 = some (.iload_n 1, 1, 7) := by decide +kernel
theorem fX2_findFault_7 : zf mX2_findFault 7 = some (.bipush 60, 2, 9) := by decide +kernel
theorem fX2_findFault_9 : zf mX2_findFault 9 = some (.if_icmp .ge 48, 3, 12) := by decide +kernel
theorem fX2_findFault_12 : zf mX2_findFault 12 = some (.aload_n 0, 1, 13) := by decide +kernel
theorem fX2_findFault_13 : zf mX2_findFault 13 = some (.invokevirtual 37, 3, 16) := by decide +kernel
theorem fX2_findFault_16 : zf mX2_findFault 16 = some (.ifCond .ne 8, 3, 19) := by decide +kernel
theorem fX2_findFault_19 : zf mX2_findFault 19 = some (.aload_n 0, 1, 20) := by decide +kernel
theorem fX2_findFault_20 : zf mX2_findFault 20 = some (.getfield 19, 3, 23) := by decide +kernel
theorem fX2_findFault_23 : zf mX2_findFault 23 = some (.ireturn, 1, 24) := by decide +kernel
theorem fX2_findFault_24 : zf mX2_findFault 24 = some (.aload_n 0, 1, 25) := by decide +kernel
theorem fX2_findFault_25 : zf mX2_findFault 25 = some (.getfield 19, 3, 28) := by decide +kernel
theorem fX2_findFault_28 : zf mX2_findFault 28 = some (.aload_n 0, 1, 29) := by decide +kernel
theorem fX2_findFault_29 : zf mX2_findFault 29 = some (.getfield 15, 3, 32) := by decide +kernel
theorem fX2_findFault_32 : zf mX2_findFault 32 = some (.if_icmp .lt 5, 3, 35) := by decide +kernel
theorem fX2_findFault_35 : zf mX2_findFault 35 = some (.iconst (-1), 1, 36) := by decide +kernel
theorem fX2_findFault_36 : zf mX2_findFault 36 = some (.ireturn, 1, 37) := by decide +kernel
theorem fX2_findFault_37 : zf mX2_findFault 37 = some (.aload_n 0, 1, 38) := by decide +kernel
theorem fX2_findFault_38 : zf mX2_findFault 38 = some (.bipush 59, 2, 40) := by decide +kernel
theorem fX2_findFault_40 : zf mX2_findFault 40 = some (.invokevirtual 40, 3, 43) := by decide +kernel
theorem fX2_findFault_43 : zf mX2_findFault 43 = some (.ifCond .ne 8, 3, 46) := by decide +kernel
theorem fX2_findFault_46 : zf mX2_findFault 46 = some (.aload_n 0, 1, 47) := by decide +kernel
theorem fX2_findFault_47 : zf mX2_findFault 47 = some (.getfield 19, 3, 50) := by decide +kernel
theorem fX2_findFault_50 : zf mX2_findFault 50 = some (.ireturn, 1, 51) := by decide +kernel
theorem fX2_findFault_51 : zf mX2_findFault 51 = some (.iinc 1 1, 3, 54) := by decide +kernel
theorem fX2_findFault_54 : zf mX2_findFault 54 = some (.goto (-48), 3, 57) := by decide +kernel
theorem fX2_findFault_57 : zf mX2_findFault 57 = some (.aload_n 0, 1, 58) := by decide +kernel
theorem fX2_findFault_58 : zf mX2_findFault 58 = some (.getfield 19, 3, 61) := by decide +kernel
theorem fX2_findFault_61 : zf mX2_findFault 61 = some (.ireturn, 1, 62) := by decide +kernel
theorem fX2_readCommand_0 : zf mX2_readCommand 0 = some (.aload_n 0, 1, 1) := by decide +kernel
theorem fX2_readCommand_1 : zf mX2_readCommand 1 = some (.invokevirtual 44, 3, 4) := by decide +kernel
theorem fX2_readCommand_4 : zf mX2_readCommand 4 = some (.istore_n 1, 1, 5) := by decide +kernel
theorem fX2_readCommand_5 : zf mX2_readCommand 5 = some (.iload_n 1, 1, 6) := by decide +kernel
theorem fX2_readCommand_6 : zf mX2_readCommand 6 = some (.invokestatic 48, 3, 9) := by decide +kernel
theorem fX2_readCommand_9 : zf mX2_readCommand 9 = some (.astore_n 2, 1, 10) := by decide +kernel
theorem fX2_readCommand_10 : zf mX2_readCommand 10 = some (.aload_n 2, 1, 11) := by decide +kernel
theorem fX2_readCommand_11 : zf mX2_readCommand 11 = some (.invokevirtual 52, 3, 14) := by decide +kernel
theorem fX2_readCommand_14 : zf mX2_readCommand 14 = some (.ifCond .eq 5, 3, 17) := by decide +kernel
theorem fX2_readCommand_17 : zf mX2_readCommand 17 = some (.iconst 0, 1, 18) := by decide +kernel
theorem fX2_readCommand_18 : zf mX2_readCommand 18 = some (.ireturn, 1, 19) := by decide +kernel
theorem fX2_readCommand_19 : zf mX2_readCommand 19 = some (.aload_n 0, 1, 20) := by decide +kernel
theorem fX2_readCommand_20 : zf mX2_readCommand 20 = some (.iload_n 1, 1, 21) := by decide +kernel
theorem fX2_readCommand_21 : zf mX2_readCommand 21 = some (.putfield 22, 3, 24) := by decide +kernel
theorem fX2_readCommand_24 : zf mX2_readCommand 24 = some (.aload_n 0, 1, 25) := by decide +kernel
theorem fX2_readCommand_25 : zf mX2_readCommand 25 = some (.dup, 1, 26) := by decide +kernel
theorem fX2_readCommand_26 : zf mX2_readCommand 26 = some (.getfield 19, 3, 29) := by decide +kernel
theorem fX2_readCommand_29 : zf mX2_readCommand 29 = some (.iconst 1, 1, 30) := by decide +kernel
theorem fX2_readCommand_30 : zf mX2_readCommand 30 = some (.iadd, 1, 31) := by decide +kernel
theorem fX2_readCommand_31 : zf mX2_readCommand 31 = some (.putfield 19, 3, 34) := by decide +kernel
theorem fX2_readCommand_34 : zf mX2_readCommand 34 = some (.iconst 0, 1, 35) := by decide +kernel
theorem fX2_readCommand_35 : zf mX2_readCommand 35 = some (.istore_n 3, 1, 36) := by decide +kernel
theorem fX2_readCommand_36 : zf mX2_readCommand 36 = some (.iconst 0, 1, 37) := by decide +kernel
theorem fX2_readCommand_37 : zf mX2_readCommand 37 = some (.istore 4, 2, 39) := by decide +kernel
theorem fX2_readCommand_39 : zf mX2_readCommand 39 = some (.iload 4, 2, 41) := by decide +kernel
theorem fX2_readCommand_41 : zf mX2_readCommand 41 = some (.aload_n 2, 1, 42) := by decide +kernel
theorem fX2_readCommand_42 : zf mX2_readCommand 42 = some (.invokevirtual 57, 3, 45) := by decide +kernel
theorem fX2_readCommand_45 : zf mX2_readCommand 45 = some (.if_icmp .ge 57, 3, 48) := by decide +kernel
theorem fX2_readCommand_48 : zf mX2_readCommand 48 = some (.aload_n 2, 1, 49) := by decide +kernel
theorem fX2_readCommand_49 : zf mX2_readCommand 49 = some (.iload 4, 2, 51) := by decide +kernel
theorem fX2_readCommand_51 : zf mX2_readCommand 51 = some (.invokevirtual 60, 3, 54) := by decide +kernel
theorem fX2_readCommand_54 : zf mX2_readCommand 54 = some (.istore 5, 2, 56) := by decide +kernel
theorem fX2_readCommand_56 : zf mX2_readCommand 56 = some (.iload 5, 2, 58) := by decide +kernel
theorem fX2_readCommand_58 : zf mX2_readCommand 58 = some (.invokestatic 64, 3, 61) := by decide +kernel
theorem fX2_readCommand_61 : zf mX2_readCommand 61 = some (.ifCond .eq 24, 3, 64) := by decide +kernel
theorem fX2_readCommand_64 : zf mX2_readCommand 64 = some (.aload_n 0, 1, 65) := by decide +kernel
theorem fX2_readCommand_65 : zf mX2_readCommand 65 = some (.iload_n 3, 1, 66) := by decide +kernel
theorem fX2_readCommand_66 : zf mX2_readCommand 66 = some (.iload 5, 2, 68) := by decide +kernel
theorem fX2_readCommand_68 : zf mX2_readCommand 68 = some (.bipush 48, 2, 70) := by decide +kernel
theorem fX2_readCommand_70 : zf mX2_readCommand 70 = some (.isub, 1, 71) := by decide +kernel
theorem fX2_readCommand_71 : zf mX2_readCommand 71 = some (.invokevirtual 67, 3, 74) := by decide +kernel
theorem fX2_readCommand_74 : zf mX2_readCommand 74 = some (.ifCond .ne 5, 3, 77) := by decide +kernel
theorem fX2_readCommand_77 : zf mX2_readCommand 77 = some (.iconst 0, 1, 78) := by decide +kernel
theorem fX2_readCommand_78 : zf mX2_readCommand 78 = some (.ireturn, 1, 79) := by decide +kernel
theorem fX2_readCommand_79 : zf mX2_readCommand 79 = some (.iinc 3 1, 3, 82) := by decide +kernel
theorem fX2_readCommand_82 : zf mX2_readCommand 82 = some (.goto 14, 3, 85) := by decide +kernel
theorem fX2_readCommand_85 : zf mX2_readCommand 85 = some (.aload_n 0, 1, 86) := by decide +kernel
theorem fX2_readCommand_86 : zf mX2_readCommand 86 = some (.iload 5, 2, 88) := by decide +kernel
theorem fX2_readCommand_88 : zf mX2_readCommand 88 = some (.invokevirtual 40, 3, 91) := by decide +kernel
theorem fX2_readCommand_91 : zf mX2_readCommand 91 = some (.ifCond .ne 5, 3, 94) := by decide +kernel
theorem fX2_readCommand_94 : zf mX2_readCommand 94 = some (.iconst 0, 1, 95) := by decide +kernel
theorem fX2_readCommand_95 : zf mX2_readCommand 95 = some (.ireturn, 1, 96) := by decide +kernel
theorem fX2_readCommand_96 : zf mX2_readCommand 96 = some (.iinc 4 1, 3, 99) := by decide +kernel
theorem fX2_readCommand_99 : zf mX2_readCommand 99 = some (.goto (-60), 3, 102) := by decide +kernel
theorem fX2_readCommand_102 : zf mX2_readCommand 102 = some (.iconst 1, 1, 103) := by decide +kernel
theorem fX2_readCommand_103 : zf mX2_readCommand 103 = some (.ireturn, 1, 104) := by decide +kernel
theorem fX2_readSign_0 : zf mX2_readSign 0 = some (.aload_n 0, 1, 1) := by decide +kernel
theorem fX2_readSign_1 : zf mX2_readSign 1 = some (.invokevirtual 44, 3, 4) := by decide +kernel
theorem fX2_readSign_4 : zf mX2_readSign 4 = some (.iload_n 1, 1, 5) := by decide +kernel
theorem fX2_readSign_5 : zf mX2_readSign 5 = some (.if_icmp .eq 5, 3, 8) := by decide +kernel
theorem fX2_readSign_8 : zf mX2_readSign 8 = some (.iconst 0, 1, 9) := by decide +kernel
theorem fX2_readSign_9 : zf mX2_readSign 9 = some (.ireturn, 1, 10) := by decide +kernel
theorem fX2_readSign_10 : zf mX2_readSign 10 = some (.aload_n 0, 1, 11) := by decide +kernel
theorem fX2_readSign_11 : zf mX2_readSign 11 = some (.dup, 1, 12) := by decide +kernel
theorem fX2_readSign_12 : zf mX2_readSign 12 = some (.getfield 19, 3, 15) := by decide +kernel
theorem fX2_readSign_15 : zf mX2_readSign 15 = some (.iconst 1, 1, 16) := by decide +kernel
theorem fX2_readSign_16 : zf mX2_readSign 16 = some (.iadd, 1, 17) := by decide +kernel
theorem fX2_readSign_17 : zf mX2_readSign 17 = some (.putfield 19, 3, 20) := by decide +kernel
theorem fX2_readSign_20 : zf mX2_readSign 20 = some (.iconst 1, 1, 21) := by decide +kernel
theorem fX2_readSign_21 : zf mX2_readSign 21 = some (.ireturn, 1, 22) := by decide +kernel
theorem fX2_readNumber_0 : zf mX2_readNumber 0 = some (.iconst 0, 1, 1) := by decide +kernel
theorem fX2_readNumber_1 : zf mX2_readNumber 1 = some (.istore_n 3, 1, 2) := by decide +kernel
theorem fX2_readNumber_2 : zf mX2_readNumber 2 = some (.iconst 0, 1, 3) := by decide +kernel
theorem fX2_readNumber_3 : zf mX2_readNumber 3 = some (.istore 4, 2, 5) := by decide +kernel
theorem fX2_readNumber_5 : zf mX2_readNumber 5 = some (.iload 4, 2, 7) := by decide +kernel
theorem fX2_readNumber_7 : zf mX2_readNumber 7 = some (.iload_n 2, 1, 8) := by decide +kernel
theorem fX2_readNumber_8 : zf mX2_readNumber 8 = some (.if_icmp .ge 42, 3, 11) := by decide +kernel
theorem fX2_readNumber_11 : zf mX2_readNumber 11 = some (.aload_n 0, 1, 12) := by decide +kernel
theorem fX2_readNumber_12 : zf mX2_readNumber 12 = some (.invokevirtual 44, 3, 15) := by decide +kernel
theorem fX2_readNumber_15 : zf mX2_readNumber 15 = some (.invokestatic 64, 3, 18) := by decide +kernel
theorem fX2_readNumber_18 : zf mX2_readNumber 18 = some (.ifCond .eq 32, 3, 21) := by decide +kernel
theorem fX2_readNumber_21 : zf mX2_readNumber 21 = some (.bipush 10, 2, 23) := by decide +kernel
theorem fX2_readNumber_23 : zf mX2_readNumber 23 = some (.iload_n 3, 1, 24) := by decide +kernel
theorem fX2_readNumber_24 : zf mX2_readNumber 24 = some (.imul, 1, 25) := by decide +kernel
theorem fX2_readNumber_25 : zf mX2_readNumber 25 = some (.aload_n 0, 1, 26) := by decide +kernel
theorem fX2_readNumber_26 : zf mX2_readNumber 26 = some (.invokevirtual 44, 3, 29) := by decide +kernel
theorem fX2_readNumber_29 : zf mX2_readNumber 29 = some (.bipush 48, 2, 31) := by decide +kernel
theorem fX2_readNumber_31 : zf mX2_readNumber 31 = some (.isub, 1, 32) := by decide +kernel
theorem fX2_readNumber_32 : zf mX2_readNumber 32 = some (.iadd, 1, 33) := by decide +kernel
theorem fX2_readNumber_33 : zf mX2_readNumber 33 = some (.istore_n 3, 1, 34) := by decide +kernel
theorem fX2_readNumber_34 : zf mX2_readNumber 34 = some (.iinc 4 1, 3, 37) := by decide +kernel
theorem fX2_readNumber_37 : zf mX2_readNumber 37 = some (.aload_n 0, 1, 38) := by decide +kernel
theorem fX2_readNumber_38 : zf mX2_readNumber 38 = some (.dup, 1, 39) := by decide +kernel
theorem fX2_readNumber_39 : zf mX2_readNumber 39 = some (.getfield 19, 3, 42) := by decide +kernel
theorem fX2_readNumber_42 : zf mX2_readNumber 42 = some (.iconst 1, 1, 43) := by decide +kernel
theorem fX2_readNumber_43 : zf mX2_readNumber 43 = some (.iadd, 1, 44) := by decide +kernel
theorem fX2_readNumber_44 : zf mX2_readNumber 44 = some (.putfield 19, 3, 47) := by decide +kernel
theorem fX2_readNumber_47 : zf mX2_readNumber 47 = some (.goto (-42), 3, 50) := by decide +kernel
theorem fX2_readNumber_50 : zf mX2_readNumber 50 = some (.iload_n 1, 1, 51) := by decide +kernel
theorem fX2_readNumber_51 : zf mX2_readNumber 51 = some (.ifCond .lt 15, 3, 54) := by decide +kernel
theorem fX2_readNumber_54 : zf mX2_readNumber 54 = some (.iload_n 1, 1, 55) := by decide +kernel
theorem fX2_readNumber_55 : zf mX2_readNumber 55 = some (.iconst 4, 1, 56) := by decide +kernel
theorem fX2_readNumber_56 : zf mX2_readNumber 56 = some (.if_icmp .ge 10, 3, 59) := by decide +kernel
theorem fX2_readNumber_59 : zf mX2_readNumber 59 = some (.aload_n 0, 1, 60) := by decide +kernel
theorem fX2_readNumber_60 : zf mX2_readNumber 60 = some (.getfield 26, 3, 63) := by decide +kernel
theorem fX2_readNumber_63 : zf mX2_readNumber 63 = some (.iload_n 1, 1, 64) := by decide +kernel
theorem fX2_readNumber_64 : zf mX2_readNumber 64 = some (.iload_n 3, 1, 65) := by decide +kernel
theorem fX2_readNumber_65 : zf mX2_readNumber 65 = some (.iastore, 1, 66) := by decide +kernel
theorem fX2_readNumber_66 : zf mX2_readNumber 66 = some (.iload 4, 2, 68) := by decide +kernel
theorem fX2_readNumber_68 : zf mX2_readNumber 68 = some (.ifCond .le 7, 3, 71) := by decide +kernel
theorem fX2_readNumber_71 : zf mX2_readNumber 71 = some (.iconst 1, 1, 72) := by decide +kernel
theorem fX2_readNumber_72 : zf mX2_readNumber 72 = some (.goto 4, 3, 75) := by decide +kernel
theorem fX2_readNumber_75 : zf mX2_readNumber 75 = some (.iconst 0, 1, 76) := by decide +kernel
theorem fX2_readNumber_76 : zf mX2_readNumber 76 = some (.ireturn, 1, 77) := by decide +kernel
theorem fX2_signAhead_0 : zf mX2_signAhead 0 = some (.aload_n 0, 1, 1) := by decide +kernel
theorem fX2_signAhead_1 : zf mX2_signAhead 1 = some (.getfield 19, 3, 4) := by decide +kernel
theorem fX2_signAhead_4 : zf mX2_signAhead 4 = some (.ifCond .lt 35, 3, 7) := by decide +kernel
theorem fX2_signAhead_7 : zf mX2_signAhead 7 = some (.aload_n 0, 1, 8) := by decide +kernel
theorem fX2_signAhead_8 : zf mX2_signAhead 8 = some (.getfield 19, 3, 11) := by decide +kernel
theorem fX2_signAhead_11 : zf mX2_signAhead 11 = some (.aload_n 0, 1, 12) := by decide +kernel
theorem fX2_signAhead_12 : zf mX2_signAhead 12 = some (.getfield 15, 3, 15) := by decide +kernel
theorem fX2_signAhead_15 : zf mX2_signAhead 15 = some (.if_icmp .ge 24, 3, 18) := by decide +kernel
theorem fX2_signAhead_18 : zf mX2_signAhead 18 = some (.aload_n 0, 1, 19) := by decide +kernel
theorem fX2_signAhead_19 : zf mX2_signAhead 19 = some (.getfield 19, 3, 22) := by decide +kernel
theorem fX2_signAhead_22 : zf mX2_signAhead 22 = some (.bipush 60, 2, 24) := by decide +kernel
theorem fX2_signAhead_24 : zf mX2_signAhead 24 = some (.if_icmp .ge 15, 3, 27) := by decide +kernel
theorem fX2_signAhead_27 : zf mX2_signAhead 27 = some (.aload_n 0, 1, 28) := by decide +kernel
theorem fX2_signAhead_28 : zf mX2_signAhead 28 = some (.getfield 9, 3, 31) := by decide +kernel
theorem fX2_signAhead_31 : zf mX2_signAhead 31 = some (.aload_n 0, 1, 32) := by decide +kernel
theorem fX2_signAhead_32 : zf mX2_signAhead 32 = some (.getfield 19, 3, 35) := by decide +kernel
theorem fX2_signAhead_35 : zf mX2_signAhead 35 = some (.caload, 1, 36) := by decide +kernel
theorem fX2_signAhead_36 : zf mX2_signAhead 36 = some (.goto 4, 3, 39) := by decide +kernel
theorem fX2_signAhead_39 : zf mX2_signAhead 39 = some (.iconst 0, 1, 40) := by decide +kernel
theorem fX2_signAhead_40 : zf mX2_signAhead 40 = some (.ireturn, 1, 41) := by decide +kernel
theorem fX2_formOf_0 : zf mX2_formOf 0 = some (.iload_n 0, 1, 1) := by decide +kernel
theorem fX2_formOf_1 : zf mX2_formOf 1 = some (.lookupswitch 66 #[(98, 60), (102, 57), (103, 54), (119, 51), (121, 63)], 51, 52) := by decide +kernel
theorem fX2_formOf_52 : zf mX2_formOf 52 = some (.ldc 71, 2, 54) := by decide +kernel
theorem fX2_formOf_54 : zf mX2_formOf 54 = some (.areturn, 1, 55) := by decide +kernel
theorem fX2_formOf_55 : zf mX2_formOf 55 = some (.ldc 73, 2, 57) := by decide +kernel
theorem fX2_formOf_57 : zf mX2_formOf 57 = some (.areturn, 1, 58) := by decide +kernel
theorem fX2_formOf_58 : zf mX2_formOf 58 = some (.ldc 75, 2, 60) := by decide +kernel
theorem fX2_formOf_60 : zf mX2_formOf 60 = some (.areturn, 1, 61) := by decide +kernel
theorem fX2_formOf_61 : zf mX2_formOf 61 = some (.ldc 77, 2, 63) := by decide +kernel
theorem fX2_formOf_63 : zf mX2_formOf 63 = some (.areturn, 1, 64) := by decide +kernel
theorem fX2_formOf_64 : zf mX2_formOf 64 = some (.ldc 79, 2, 66) := by decide +kernel
theorem fX2_formOf_66 : zf mX2_formOf 66 = some (.areturn, 1, 67) := by decide +kernel
theorem fX2_formOf_67 : zf mX2_formOf 67 = some (.ldc 81, 2, 69) := by decide +kernel
theorem fX2_formOf_69 : zf mX2_formOf 69 = some (.areturn, 1, 70) := by decide +kernel
theorem fX3_init_0 : zf mX3_init 0 = some (.aload_n 0, 1, 1) := by decide +kernel
theorem fX3_init_1 : zf mX3_init 1 = some (.invokespecial 3, 3, 4) := by decide +kernel
theorem fX3_init_4 : zf mX3_init 4 = some (.aload_n 0, 1, 5) := by decide +kernel
theorem fX3_init_5 : zf mX3_init 5 = some (.bipush 72, 2, 7) := by decide +kernel
theorem fX3_init_7 : zf mX3_init 7 = some (.newarray .int, 2, 9) := by decide +kernel
theorem fX3_init_9 : zf mX3_init 9 = some (.putfield 11, 3, 12) := by decide +kernel
theorem fX3_init_12 : zf mX3_init 12 = some (.aload_n 0, 1, 13) := by decide +kernel
theorem fX3_init_13 : zf mX3_init 13 = some (.iconst 0, 1, 14) := by decide +kernel
theorem fX3_init_14 : zf mX3_init 14 = some (.putfield 17, 3, 17) := by decide +kernel
theorem fX3_init_17 : zf mX3_init 17 = some (.return_, 1, 18) := by decide +kernel
theorem fX3_size_0 : zf mX3_size 0 = some (.aload_n 0, 1, 1) := by decide +kernel
theorem fX3_size_1 : zf mX3_size 1 = some (.getfield 17, 3, 4) := by decide +kernel
theorem fX3_size_4 : zf mX3_size 4 = some (.ireturn, 1, 5) := by decide +kernel
theorem fX3_note_0 : zf mX3_note 0 = some (.aload_n 1, 1, 1) := by decide +kernel
theorem fX3_note_1 : zf mX3_note 1 = some (.aload_n 0, 1, 2) := by decide +kernel
theorem fX3_note_2 : zf mX3_note 2 = some (.getfield 11, 3, 5) := by decide +kernel
theorem fX3_note_5 : zf mX3_note 5 = some (.aload_n 0, 1, 6) := by decide +kernel
theorem fX3_note_6 : zf mX3_note 6 = some (.getfield 17, 3, 9) := by decide +kernel
theorem fX3_note_9 : zf mX3_note 9 = some (.bipush 8, 2, 11) := by decide +kernel
theorem fX3_note_11 : zf mX3_note 11 = some (.imul, 1, 12) := by decide +kernel
theorem fX3_note_12 : zf mX3_note 12 = some (.invokevirtual 21, 3, 15) := by decide +kernel
theorem fX3_note_15 : zf mX3_note 15 = some (.return_, 1, 16) := by decide +kernel
theorem fX3_takeBack_0 : zf mX3_takeBack 0 = some (.aload_n 1, 1, 1) := by decide +kernel
theorem fX3_takeBack_1 : zf mX3_takeBack 1 = some (.aload_n 0, 1, 2) := by decide +kernel
theorem fX3_takeBack_2 : zf mX3_takeBack 2 = some (.getfield 11, 3, 5) := by decide +kernel
theorem fX3_takeBack_5 : zf mX3_takeBack 5 = some (.aload_n 0, 1, 6) := by decide +kernel
theorem fX3_takeBack_6 : zf mX3_takeBack 6 = some (.getfield 17, 3, 9) := by decide +kernel
theorem fX3_takeBack_9 : zf mX3_takeBack 9 = some (.bipush 8, 2, 11) := by decide +kernel
theorem fX3_takeBack_11 : zf mX3_takeBack 11 = some (.imul, 1, 12) := by decide +kernel
theorem fX3_takeBack_12 : zf mX3_takeBack 12 = some (.invokevirtual 25, 3, 15) := by decide +kernel
theorem fX3_takeBack_15 : zf mX3_takeBack 15 = some (.return_, 1, 16) := by decide +kernel
theorem fX3_keep_0 : zf mX3_keep 0 = some (.aload_n 0, 1, 1) := by decide +kernel
theorem fX3_keep_1 : zf mX3_keep 1 = some (.getfield 17, 3, 4) := by decide +kernel
theorem fX3_keep_4 : zf mX3_keep 4 = some (.bipush 8, 2, 6) := by decide +kernel
theorem fX3_keep_6 : zf mX3_keep 6 = some (.if_icmp .ge 16, 3, 9) := by decide +kernel
theorem fX3_keep_9 : zf mX3_keep 9 = some (.aload_n 0, 1, 10) := by decide +kernel
theorem fX3_keep_10 : zf mX3_keep 10 = some (.dup, 1, 11) := by decide +kernel
theorem fX3_keep_11 : zf mX3_keep 11 = some (.getfield 17, 3, 14) := by decide +kernel
theorem fX3_keep_14 : zf mX3_keep 14 = some (.iconst 1, 1, 15) := by decide +kernel
theorem fX3_keep_15 : zf mX3_keep 15 = some (.iadd, 1, 16) := by decide +kernel
theorem fX3_keep_16 : zf mX3_keep 16 = some (.putfield 17, 3, 19) := by decide +kernel
theorem fX3_keep_19 : zf mX3_keep 19 = some (.goto 19, 3, 22) := by decide +kernel
theorem fX3_keep_22 : zf mX3_keep 22 = some (.aload_n 0, 1, 23) := by decide +kernel
theorem fX3_keep_23 : zf mX3_keep 23 = some (.getfield 11, 3, 26) := by decide +kernel
theorem fX3_keep_26 : zf mX3_keep 26 = some (.bipush 8, 2, 28) := by decide +kernel
theorem fX3_keep_28 : zf mX3_keep 28 = some (.aload_n 0, 1, 29) := by decide +kernel
theorem fX3_keep_29 : zf mX3_keep 29 = some (.getfield 11, 3, 32) := by decide +kernel
theorem fX3_keep_32 : zf mX3_keep 32 = some (.iconst 0, 1, 33) := by decide +kernel
theorem fX3_keep_33 : zf mX3_keep 33 = some (.bipush 64, 2, 35) := by decide +kernel
theorem fX3_keep_35 : zf mX3_keep 35 = some (.invokestatic 28, 3, 38) := by decide +kernel
theorem fX3_keep_38 : zf mX3_keep 38 = some (.return_, 1, 39) := by decide +kernel
theorem fX3_dropLatest_0 : zf mX3_dropLatest 0 = some (.aload_n 0, 1, 1) := by decide +kernel
theorem fX3_dropLatest_1 : zf mX3_dropLatest 1 = some (.getfield 17, 3, 4) := by decide +kernel
theorem fX3_dropLatest_4 : zf mX3_dropLatest 4 = some (.ifCond .le 13, 3, 7) := by decide +kernel
theorem fX3_dropLatest_7 : zf mX3_dropLatest 7 = some (.aload_n 0, 1, 8) := by decide +kernel
theorem fX3_dropLatest_8 : zf mX3_dropLatest 8 = some (.dup, 1, 9) := by decide +kernel
theorem fX3_dropLatest_9 : zf mX3_dropLatest 9 = some (.getfield 17, 3, 12) := by decide +kernel
theorem fX3_dropLatest_12 : zf mX3_dropLatest 12 = some (.iconst 1, 1, 13) := by decide +kernel
theorem fX3_dropLatest_13 : zf mX3_dropLatest 13 = some (.isub, 1, 14) := by decide +kernel
theorem fX3_dropLatest_14 : zf mX3_dropLatest 14 = some (.putfield 17, 3, 17) := by decide +kernel
theorem fX3_dropLatest_17 : zf mX3_dropLatest 17 = some (.return_, 1, 18) := by decide +kernel
theorem fX3_forget_0 : zf mX3_forget 0 = some (.aload_n 0, 1, 1) := by decide +kernel
theorem fX3_forget_1 : zf mX3_forget 1 = some (.iconst 0, 1, 2) := by decide +kernel
theorem fX3_forget_2 : zf mX3_forget 2 = some (.putfield 17, 3, 5) := by decide +kernel
theorem fX3_forget_5 : zf mX3_forget 5 = some (.return_, 1, 6) := by decide +kernel
theorem fX4_init_0 : zf mX4_init 0 = some (.aload_n 0, 1, 1) := by decide +kernel
theorem fX4_init_1 : zf mX4_init 1 = some (.invokespecial 3, 3, 4) := by decide +kernel
theorem fX4_init_4 : zf mX4_init 4 = some (.aload_n 0, 1, 5) := by decide +kernel
theorem fX4_init_5 : zf mX4_init 5 = some (.iconst 0, 1, 6) := by decide +kernel
theorem fX4_init_6 : zf mX4_init 6 = some (.putfield 9, 3, 9) := by decide +kernel
theorem fX4_init_9 : zf mX4_init 9 = some (.aload_n 0, 1, 10) := by decide +kernel
theorem fX4_init_10 : zf mX4_init 10 = some (.iconst 0, 1, 11) := by decide +kernel
theorem fX4_init_11 : zf mX4_init 11 = some (.putfield 15, 3, 14) := by decide +kernel
theorem fX4_init_14 : zf mX4_init 14 = some (.aload_n 0, 1, 15) := by decide +kernel
theorem fX4_init_15 : zf mX4_init 15 = some (.iconst 0, 1, 16) := by decide +kernel
theorem fX4_init_16 : zf mX4_init 16 = some (.putfield 18, 3, 19) := by decide +kernel
theorem fX4_init_19 : zf mX4_init 19 = some (.return_, 1, 20) := by decide +kernel
theorem fX4_refuse_0 : zf mX4_refuse 0 = some (.aload_n 0, 1, 1) := by decide +kernel
theorem fX4_refuse_1 : zf mX4_refuse 1 = some (.iload_n 1, 1, 2) := by decide +kernel
theorem fX4_refuse_2 : zf mX4_refuse 2 = some (.putfield 9, 3, 5) := by decide +kernel
theorem fX4_refuse_5 : zf mX4_refuse 5 = some (.aload_n 0, 1, 6) := by decide +kernel
theorem fX4_refuse_6 : zf mX4_refuse 6 = some (.iload_n 2, 1, 7) := by decide +kernel
theorem fX4_refuse_7 : zf mX4_refuse 7 = some (.putfield 15, 3, 10) := by decide +kernel
theorem fX4_refuse_10 : zf mX4_refuse 10 = some (.aload_n 0, 1, 11) := by decide +kernel
theorem fX4_refuse_11 : zf mX4_refuse 11 = some (.iconst 0, 1, 12) := by decide +kernel
theorem fX4_refuse_12 : zf mX4_refuse 12 = some (.putfield 18, 3, 15) := by decide +kernel
theorem fX4_refuse_15 : zf mX4_refuse 15 = some (.iconst (-1), 1, 16) := by decide +kernel
theorem fX4_refuse_16 : zf mX4_refuse 16 = some (.ireturn, 1, 17) := by decide +kernel
theorem fX5_init_0 : zf mX5_init 0 = some (.aload_n 0, 1, 1) := by decide +kernel
theorem fX5_init_1 : zf mX5_init 1 = some (.invokespecial 3, 3, 4) := by decide +kernel
theorem fX5_init_4 : zf mX5_init 4 = some (.aload_n 0, 1, 5) := by decide +kernel
theorem fX5_init_5 : zf mX5_init 5 = some (.bipush 109, 2, 7) := by decide +kernel
theorem fX5_init_7 : zf mX5_init 7 = some (.newarray .char, 2, 9) := by decide +kernel
theorem fX5_init_9 : zf mX5_init 9 = some (.putfield 9, 3, 12) := by decide +kernel
theorem fX5_init_12 : zf mX5_init 12 = some (.aload_n 0, 1, 13) := by decide +kernel
theorem fX5_init_13 : zf mX5_init 13 = some (.iconst 0, 1, 14) := by decide +kernel
theorem fX5_init_14 : zf mX5_init 14 = some (.putfield 15, 3, 17) := by decide +kernel
theorem fX5_init_17 : zf mX5_init 17 = some (.return_, 1, 18) := by decide +kernel
theorem fX5_size_0 : zf mX5_size 0 = some (.aload_n 0, 1, 1) := by decide +kernel
theorem fX5_size_1 : zf mX5_size 1 = some (.getfield 15, 3, 4) := by decide +kernel
theorem fX5_size_4 : zf mX5_size 4 = some (.ireturn, 1, 5) := by decide +kernel
theorem fX5_signAt_0 : zf mX5_signAt 0 = some (.iload_n 1, 1, 1) := by decide +kernel
theorem fX5_signAt_1 : zf mX5_signAt 1 = some (.ifCond .lt 26, 3, 4) := by decide +kernel
theorem fX5_signAt_4 : zf mX5_signAt 4 = some (.iload_n 1, 1, 5) := by decide +kernel
theorem fX5_signAt_5 : zf mX5_signAt 5 = some (.aload_n 0, 1, 6) := by decide +kernel
theorem fX5_signAt_6 : zf mX5_signAt 6 = some (.getfield 15, 3, 9) := by decide +kernel
theorem fX5_signAt_9 : zf mX5_signAt 9 = some (.if_icmp .ge 18, 3, 12) := by decide +kernel
theorem fX5_signAt_12 : zf mX5_signAt 12 = some (.iload_n 1, 1, 13) := by decide +kernel
theorem fX5_signAt_13 : zf mX5_signAt 13 = some (.bipush 109, 2, 15) := by decide +kernel
theorem fX5_signAt_15 : zf mX5_signAt 15 = some (.if_icmp .ge 12, 3, 18) := by decide +kernel
theorem fX5_signAt_18 : zf mX5_signAt 18 = some (.aload_n 0, 1, 19) := by decide +kernel
theorem fX5_signAt_19 : zf mX5_signAt 19 = some (.getfield 9, 3, 22) := by decide +kernel
theorem fX5_signAt_22 : zf mX5_signAt 22 = some (.iload_n 1, 1, 23) := by decide +kernel
theorem fX5_signAt_23 : zf mX5_signAt 23 = some (.caload, 1, 24) := by decide +kernel
theorem fX5_signAt_24 : zf mX5_signAt 24 = some (.goto 4, 3, 27) := by decide +kernel
theorem fX5_signAt_27 : zf mX5_signAt 27 = some (.iconst 0, 1, 28) := by decide +kernel
theorem fX5_signAt_28 : zf mX5_signAt 28 = some (.ireturn, 1, 29) := by decide +kernel
theorem fX5_clear_0 : zf mX5_clear 0 = some (.aload_n 0, 1, 1) := by decide +kernel
theorem fX5_clear_1 : zf mX5_clear 1 = some (.iconst 0, 1, 2) := by decide +kernel
theorem fX5_clear_2 : zf mX5_clear 2 = some (.putfield 15, 3, 5) := by decide +kernel
theorem fX5_clear_5 : zf mX5_clear 5 = some (.return_, 1, 6) := by decide +kernel
theorem fX5_put_0 : zf mX5_put 0 = some (.aload_n 0, 1, 1) := by decide +kernel
theorem fX5_put_1 : zf mX5_put 1 = some (.getfield 15, 3, 4) := by decide +kernel
theorem fX5_put_4 : zf mX5_put 4 = some (.bipush 109, 2, 6) := by decide +kernel
theorem fX5_put_6 : zf mX5_put 6 = some (.if_icmp .ge 23, 3, 9) := by decide +kernel
theorem fX5_put_9 : zf mX5_put 9 = some (.aload_n 0, 1, 10) := by decide +kernel
theorem fX5_put_10 : zf mX5_put 10 = some (.getfield 9, 3, 13) := by decide +kernel
theorem fX5_put_13 : zf mX5_put 13 = some (.aload_n 0, 1, 14) := by decide +kernel
theorem fX5_put_14 : zf mX5_put 14 = some (.getfield 15, 3, 17) := by decide +kernel
theorem fX5_put_17 : zf mX5_put 17 = some (.iload_n 1, 1, 18) := by decide +kernel
theorem fX5_put_18 : zf mX5_put 18 = some (.castore, 1, 19) := by decide +kernel
theorem fX5_put_19 : zf mX5_put 19 = some (.aload_n 0, 1, 20) := by decide +kernel
theorem fX5_put_20 : zf mX5_put 20 = some (.dup, 1, 21) := by decide +kernel
theorem fX5_put_21 : zf mX5_put 21 = some (.getfield 15, 3, 24) := by decide +kernel
theorem fX5_put_24 : zf mX5_put 24 = some (.iconst 1, 1, 25) := by decide +kernel
theorem fX5_put_25 : zf mX5_put 25 = some (.iadd, 1, 26) := by decide +kernel
theorem fX5_put_26 : zf mX5_put 26 = some (.putfield 15, 3, 29) := by decide +kernel
theorem fX5_put_29 : zf mX5_put 29 = some (.return_, 1, 30) := by decide +kernel
theorem fX5_separate_0 : zf mX5_separate 0 = some (.aload_n 0, 1, 1) := by decide +kernel
theorem fX5_separate_1 : zf mX5_separate 1 = some (.getfield 15, 3, 4) := by decide +kernel
theorem fX5_separate_4 : zf mX5_separate 4 = some (.ifCond .le 8, 3, 7) := by decide +kernel
theorem fX5_separate_7 : zf mX5_separate 7 = some (.aload_n 0, 1, 8) := by decide +kernel
theorem fX5_separate_8 : zf mX5_separate 8 = some (.iload_n 1, 1, 9) := by decide +kernel
theorem fX5_separate_9 : zf mX5_separate 9 = some (.invokevirtual 19, 3, 12) := by decide +kernel
theorem fX5_separate_12 : zf mX5_separate 12 = some (.return_, 1, 13) := by decide +kernel
theorem fX5_putNumber_0 : zf mX5_putNumber 0 = some (.iload_n 1, 1, 1) := by decide +kernel
theorem fX5_putNumber_1 : zf mX5_putNumber 1 = some (.bipush 100, 2, 3) := by decide +kernel
theorem fX5_putNumber_3 : zf mX5_putNumber 3 = some (.if_icmp .lt 15, 3, 6) := by decide +kernel
theorem fX5_putNumber_6 : zf mX5_putNumber 6 = some (.aload_n 0, 1, 7) := by decide +kernel
theorem fX5_putNumber_7 : zf mX5_putNumber 7 = some (.bipush 48, 2, 9) := by decide +kernel
theorem fX5_putNumber_9 : zf mX5_putNumber 9 = some (.iload_n 1, 1, 10) := by decide +kernel
theorem fX5_putNumber_10 : zf mX5_putNumber 10 = some (.bipush 100, 2, 12) := by decide +kernel
theorem fX5_putNumber_12 : zf mX5_putNumber 12 = some (.idiv, 1, 13) := by decide +kernel
theorem fX5_putNumber_13 : zf mX5_putNumber 13 = some (.iadd, 1, 14) := by decide +kernel
theorem fX5_putNumber_14 : zf mX5_putNumber 14 = some (.i2c, 1, 15) := by decide +kernel
theorem fX5_putNumber_15 : zf mX5_putNumber 15 = some (.invokevirtual 19, 3, 18) := by decide +kernel
theorem fX5_putNumber_18 : zf mX5_putNumber 18 = some (.iload_n 1, 1, 19) := by decide +kernel
theorem fX5_putNumber_19 : zf mX5_putNumber 19 = some (.bipush 10, 2, 21) := by decide +kernel
theorem fX5_putNumber_21 : zf mX5_putNumber 21 = some (.if_icmp .lt 18, 3, 24) := by decide +kernel
theorem fX5_putNumber_24 : zf mX5_putNumber 24 = some (.aload_n 0, 1, 25) := by decide +kernel
theorem fX5_putNumber_25 : zf mX5_putNumber 25 = some (.bipush 48, 2, 27) := by decide +kernel
theorem fX5_putNumber_27 : zf mX5_putNumber 27 = some (.iload_n 1, 1, 28) := by decide +kernel
theorem fX5_putNumber_28 : zf mX5_putNumber 28 = some (.bipush 10, 2, 30) := by decide +kernel
theorem fX5_putNumber_30 : zf mX5_putNumber 30 = some (.idiv, 1, 31) := by decide +kernel
theorem fX5_putNumber_31 : zf mX5_putNumber 31 = some (.bipush 10, 2, 33) := by decide +kernel
theorem fX5_putNumber_33 : zf mX5_putNumber 33 = some (.irem, 1, 34) := by decide +kernel
theorem fX5_putNumber_34 : zf mX5_putNumber 34 = some (.iadd, 1, 35) := by decide +kernel
theorem fX5_putNumber_35 : zf mX5_putNumber 35 = some (.i2c, 1, 36) := by decide +kernel
theorem fX5_putNumber_36 : zf mX5_putNumber 36 = some (.invokevirtual 19, 3, 39) := by decide +kernel
theorem fX5_putNumber_39 : zf mX5_putNumber 39 = some (.aload_n 0, 1, 40) := by decide +kernel
theorem fX5_putNumber_40 : zf mX5_putNumber 40 = some (.bipush 48, 2, 42) := by decide +kernel
theorem fX5_putNumber_42 : zf mX5_putNumber 42 = some (.iload_n 1, 1, 43) := by decide +kernel
theorem fX5_putNumber_43 : zf mX5_putNumber 43 = some (.bipush 10, 2, 45) := by decide +kernel
theorem fX5_putNumber_45 : zf mX5_putNumber 45 = some (.irem, 1, 46) := by decide +kernel
theorem fX5_putNumber_46 : zf mX5_putNumber 46 = some (.iadd, 1, 47) := by decide +kernel
theorem fX5_putNumber_47 : zf mX5_putNumber 47 = some (.i2c, 1, 48) := by decide +kernel
theorem fX5_putNumber_48 : zf mX5_putNumber 48 = some (.invokevirtual 19, 3, 51) := by decide +kernel
theorem fX5_putNumber_51 : zf mX5_putNumber 51 = some (.return_, 1, 52) := by decide +kernel
theorem fX6_init_0 : zf mX6_init 0 = some (.aload_n 0, 1, 1) := by decide +kernel
theorem fX6_init_1 : zf mX6_init 1 = some (.invokespecial 3, 3, 4) := by decide +kernel
theorem fX6_init_4 : zf mX6_init 4 = some (.aload_n 0, 1, 5) := by decide +kernel
theorem fX6_init_5 : zf mX6_init 5 = some (.iconst 1, 1, 6) := by decide +kernel
theorem fX6_init_6 : zf mX6_init 6 = some (.putfield 9, 3, 9) := by decide +kernel
theorem fX6_init_9 : zf mX6_init 9 = some (.aload_n 0, 1, 10) := by decide +kernel
theorem fX6_init_10 : zf mX6_init 10 = some (.bipush 40, 2, 12) := by decide +kernel
theorem fX6_init_12 : zf mX6_init 12 = some (.newarray .int, 2, 14) := by decide +kernel
theorem fX6_init_14 : zf mX6_init 14 = some (.putfield 15, 3, 17) := by decide +kernel
theorem fX6_init_17 : zf mX6_init 17 = some (.aload_n 0, 1, 18) := by decide +kernel
theorem fX6_init_18 : zf mX6_init 18 = some (.bipush 40, 2, 20) := by decide +kernel
theorem fX6_init_20 : zf mX6_init 20 = some (.newarray .int, 2, 22) := by decide +kernel
theorem fX6_init_22 : zf mX6_init 22 = some (.putfield 19, 3, 25) := by decide +kernel
theorem fX6_init_25 : zf mX6_init 25 = some (.aload_n 0, 1, 26) := by decide +kernel
theorem fX6_init_26 : zf mX6_init 26 = some (.sipush 1240, 3, 29) := by decide +kernel
theorem fX6_init_29 : zf mX6_init 29 = some (.newarray .int, 2, 31) := by decide +kernel
theorem fX6_init_31 : zf mX6_init 31 = some (.putfield 22, 3, 34) := by decide +kernel
theorem fX6_init_34 : zf mX6_init 34 = some (.aload_n 0, 1, 35) := by decide +kernel
theorem fX6_init_35 : zf mX6_init 35 = some (.sipush 1240, 3, 38) := by decide +kernel
theorem fX6_init_38 : zf mX6_init 38 = some (.newarray .int, 2, 40) := by decide +kernel
theorem fX6_init_40 : zf mX6_init 40 = some (.putfield 25, 3, 43) := by decide +kernel
theorem fX6_init_43 : zf mX6_init 43 = some (.aload_n 0, 1, 44) := by decide +kernel
theorem fX6_init_44 : zf mX6_init 44 = some (.getfield 15, 3, 47) := by decide +kernel
theorem fX6_init_47 : zf mX6_init 47 = some (.iconst 0, 1, 48) := by decide +kernel
theorem fX6_init_48 : zf mX6_init 48 = some (.iconst (-1), 1, 49) := by decide +kernel
theorem fX6_init_49 : zf mX6_init 49 = some (.iastore, 1, 50) := by decide +kernel
theorem fX6_init_50 : zf mX6_init 50 = some (.return_, 1, 51) := by decide +kernel
theorem fX6_copyFrom_0 : zf mX6_copyFrom 0 = some (.aload_n 0, 1, 1) := by decide +kernel
theorem fX6_copyFrom_1 : zf mX6_copyFrom 1 = some (.aload_n 1, 1, 2) := by decide +kernel
theorem fX6_copyFrom_2 : zf mX6_copyFrom 2 = some (.getfield 9, 3, 5) := by decide +kernel
theorem fX6_copyFrom_5 : zf mX6_copyFrom 5 = some (.putfield 9, 3, 8) := by decide +kernel
theorem fX6_copyFrom_8 : zf mX6_copyFrom 8 = some (.aload_n 1, 1, 9) := by decide +kernel
theorem fX6_copyFrom_9 : zf mX6_copyFrom 9 = some (.getfield 15, 3, 12) := by decide +kernel
theorem fX6_copyFrom_12 : zf mX6_copyFrom 12 = some (.iconst 0, 1, 13) := by decide +kernel
theorem fX6_copyFrom_13 : zf mX6_copyFrom 13 = some (.aload_n 0, 1, 14) := by decide +kernel
theorem fX6_copyFrom_14 : zf mX6_copyFrom 14 = some (.getfield 15, 3, 17) := by decide +kernel
theorem fX6_copyFrom_17 : zf mX6_copyFrom 17 = some (.iconst 0, 1, 18) := by decide +kernel
theorem fX6_copyFrom_18 : zf mX6_copyFrom 18 = some (.bipush 40, 2, 20) := by decide +kernel
theorem fX6_copyFrom_20 : zf mX6_copyFrom 20 = some (.invokestatic 28, 3, 23) := by decide +kernel
theorem fX6_copyFrom_23 : zf mX6_copyFrom 23 = some (.aload_n 1, 1, 24) := by decide +kernel
theorem fX6_copyFrom_24 : zf mX6_copyFrom 24 = some (.getfield 19, 3, 27) := by decide +kernel
theorem fX6_copyFrom_27 : zf mX6_copyFrom 27 = some (.iconst 0, 1, 28) := by decide +kernel
theorem fX6_copyFrom_28 : zf mX6_copyFrom 28 = some (.aload_n 0, 1, 29) := by decide +kernel
theorem fX6_copyFrom_29 : zf mX6_copyFrom 29 = some (.getfield 19, 3, 32) := by decide +kernel
theorem fX6_copyFrom_32 : zf mX6_copyFrom 32 = some (.iconst 0, 1, 33) := by decide +kernel
theorem fX6_copyFrom_33 : zf mX6_copyFrom 33 = some (.bipush 40, 2, 35) := by decide +kernel
theorem fX6_copyFrom_35 : zf mX6_copyFrom 35 = some (.invokestatic 28, 3, 38) := by decide +kernel
theorem fX6_copyFrom_38 : zf mX6_copyFrom 38 = some (.aload_n 1, 1, 39) := by decide +kernel
theorem fX6_copyFrom_39 : zf mX6_copyFrom 39 = some (.getfield 22, 3, 42) := by decide +kernel
theorem fX6_copyFrom_42 : zf mX6_copyFrom 42 = some (.iconst 0, 1, 43) := by decide +kernel
theorem fX6_copyFrom_43 : zf mX6_copyFrom 43 = some (.aload_n 0, 1, 44) := by decide +kernel
theorem fX6_copyFrom_44 : zf mX6_copyFrom 44 = some (.getfield 22, 3, 47) := by decide +kernel
theorem fX6_copyFrom_47 : zf mX6_copyFrom 47 = some (.iconst 0, 1, 48) := by decide +kernel
theorem fX6_copyFrom_48 : zf mX6_copyFrom 48 = some (.sipush 1240, 3, 51) := by decide +kernel
theorem fX6_copyFrom_51 : zf mX6_copyFrom 51 = some (.invokestatic 28, 3, 54) := by decide +kernel
theorem fX6_copyFrom_54 : zf mX6_copyFrom 54 = some (.aload_n 1, 1, 55) := by decide +kernel
theorem fX6_copyFrom_55 : zf mX6_copyFrom 55 = some (.getfield 25, 3, 58) := by decide +kernel
theorem fX6_copyFrom_58 : zf mX6_copyFrom 58 = some (.iconst 0, 1, 59) := by decide +kernel
theorem fX6_copyFrom_59 : zf mX6_copyFrom 59 = some (.aload_n 0, 1, 60) := by decide +kernel
theorem fX6_copyFrom_60 : zf mX6_copyFrom 60 = some (.getfield 25, 3, 63) := by decide +kernel
theorem fX6_copyFrom_63 : zf mX6_copyFrom 63 = some (.iconst 0, 1, 64) := by decide +kernel
theorem fX6_copyFrom_64 : zf mX6_copyFrom 64 = some (.sipush 1240, 3, 67) := by decide +kernel
theorem fX6_copyFrom_67 : zf mX6_copyFrom 67 = some (.invokestatic 28, 3, 70) := by decide +kernel
theorem fX6_copyFrom_70 : zf mX6_copyFrom 70 = some (.return_, 1, 71) := by decide +kernel
theorem fX6_size_0 : zf mX6_size 0 = some (.aload_n 0, 1, 1) := by decide +kernel
theorem fX6_size_1 : zf mX6_size 1 = some (.getfield 9, 3, 4) := by decide +kernel
theorem fX6_size_4 : zf mX6_size 4 = some (.ireturn, 1, 5) := by decide +kernel
theorem fX6_forgetFrom_0 : zf mX6_forgetFrom 0 = some (.iload_n 1, 1, 1) := by decide +kernel
theorem fX6_forgetFrom_1 : zf mX6_forgetFrom 1 = some (.iconst 1, 1, 2) := by decide +kernel
theorem fX6_forgetFrom_2 : zf mX6_forgetFrom 2 = some (.if_icmp .lt 16, 3, 5) := by decide +kernel
theorem fX6_forgetFrom_5 : zf mX6_forgetFrom 5 = some (.iload_n 1, 1, 6) := by decide +kernel
theorem fX6_forgetFrom_6 : zf mX6_forgetFrom 6 = some (.aload_n 0, 1, 7) := by decide +kernel
theorem fX6_forgetFrom_7 : zf mX6_forgetFrom 7 = some (.getfield 9, 3, 10) := by decide +kernel
theorem fX6_forgetFrom_10 : zf mX6_forgetFrom 10 = some (.if_icmp .ge 8, 3, 13) := by decide +kernel
theorem fX6_forgetFrom_13 : zf mX6_forgetFrom 13 = some (.aload_n 0, 1, 14) := by decide +kernel
theorem fX6_forgetFrom_14 : zf mX6_forgetFrom 14 = some (.iload_n 1, 1, 15) := by decide +kernel
theorem fX6_forgetFrom_15 : zf mX6_forgetFrom 15 = some (.putfield 9, 3, 18) := by decide +kernel
theorem fX6_forgetFrom_18 : zf mX6_forgetFrom 18 = some (.return_, 1, 19) := by decide +kernel
theorem fX6_has_0 : zf mX6_has 0 = some (.iload_n 1, 1, 1) := by decide +kernel
theorem fX6_has_1 : zf mX6_has 1 = some (.ifCond .lt 21, 3, 4) := by decide +kernel
theorem fX6_has_4 : zf mX6_has 4 = some (.iload_n 1, 1, 5) := by decide +kernel
theorem fX6_has_5 : zf mX6_has 5 = some (.aload_n 0, 1, 6) := by decide +kernel
theorem fX6_has_6 : zf mX6_has 6 = some (.getfield 9, 3, 9) := by decide +kernel
theorem fX6_has_9 : zf mX6_has 9 = some (.if_icmp .ge 13, 3, 12) := by decide +kernel
theorem fX6_has_12 : zf mX6_has 12 = some (.iload_n 1, 1, 13) := by decide +kernel
theorem fX6_has_13 : zf mX6_has 13 = some (.bipush 40, 2, 15) := by decide +kernel
theorem fX6_has_15 : zf mX6_has 15 = some (.if_icmp .ge 7, 3, 18) := by decide +kernel
theorem fX6_has_18 : zf mX6_has 18 = some (.iconst 1, 1, 19) := by decide +kernel
theorem fX6_has_19 : zf mX6_has 19 = some (.goto 4, 3, 22) := by decide +kernel
theorem fX6_has_22 : zf mX6_has 22 = some (.iconst 0, 1, 23) := by decide +kernel
theorem fX6_has_23 : zf mX6_has 23 = some (.ireturn, 1, 24) := by decide +kernel
theorem fX6_isFull_0 : zf mX6_isFull 0 = some (.aload_n 0, 1, 1) := by decide +kernel
theorem fX6_isFull_1 : zf mX6_isFull 1 = some (.getfield 9, 3, 4) := by decide +kernel
theorem fX6_isFull_4 : zf mX6_isFull 4 = some (.bipush 40, 2, 6) := by decide +kernel
theorem fX6_isFull_6 : zf mX6_isFull 6 = some (.if_icmp .lt 7, 3, 9) := by decide +kernel
theorem fX6_isFull_9 : zf mX6_isFull 9 = some (.iconst 1, 1, 10) := by decide +kernel
theorem fX6_isFull_10 : zf mX6_isFull 10 = some (.goto 4, 3, 13) := by decide +kernel
theorem fX6_isFull_13 : zf mX6_isFull 13 = some (.iconst 0, 1, 14) := by decide +kernel
theorem fX6_isFull_14 : zf mX6_isFull 14 = some (.ireturn, 1, 15) := by decide +kernel
theorem fX6_parentOf_0 : zf mX6_parentOf 0 = some (.aload_n 0, 1, 1) := by decide +kernel
theorem fX6_parentOf_1 : zf mX6_parentOf 1 = some (.iload_n 1, 1, 2) := by decide +kernel
theorem fX6_parentOf_2 : zf mX6_parentOf 2 = some (.invokevirtual 34, 3, 5) := by decide +kernel
theorem fX6_parentOf_5 : zf mX6_parentOf 5 = some (.ifCond .eq 12, 3, 8) := by decide +kernel
theorem fX6_parentOf_8 : zf mX6_parentOf 8 = some (.aload_n 0, 1, 9) := by decide +kernel
theorem fX6_parentOf_9 : zf mX6_parentOf 9 = some (.getfield 15, 3, 12) := by decide +kernel
theorem fX6_parentOf_12 : zf mX6_parentOf 12 = some (.iload_n 1, 1, 13) := by decide +kernel
theorem fX6_parentOf_13 : zf mX6_parentOf 13 = some (.iaload, 1, 14) := by decide +kernel
theorem fX6_parentOf_14 : zf mX6_parentOf 14 = some (.goto 4, 3, 17) := by decide +kernel
theorem fX6_parentOf_17 : zf mX6_parentOf 17 = some (.iconst (-1), 1, 18) := by decide +kernel
theorem fX6_parentOf_18 : zf mX6_parentOf 18 = some (.ireturn, 1, 19) := by decide +kernel
theorem fX6_yearOf_0 : zf mX6_yearOf 0 = some (.aload_n 0, 1, 1) := by decide +kernel
theorem fX6_yearOf_1 : zf mX6_yearOf 1 = some (.iload_n 1, 1, 2) := by decide +kernel
theorem fX6_yearOf_2 : zf mX6_yearOf 2 = some (.invokevirtual 34, 3, 5) := by decide +kernel
theorem fX6_yearOf_5 : zf mX6_yearOf 5 = some (.ifCond .eq 12, 3, 8) := by decide +kernel
theorem fX6_yearOf_8 : zf mX6_yearOf 8 = some (.aload_n 0, 1, 9) := by decide +kernel
theorem fX6_yearOf_9 : zf mX6_yearOf 9 = some (.getfield 19, 3, 12) := by decide +kernel
theorem fX6_yearOf_12 : zf mX6_yearOf 12 = some (.iload_n 1, 1, 13) := by decide +kernel
theorem fX6_yearOf_13 : zf mX6_yearOf 13 = some (.iaload, 1, 14) := by decide +kernel
theorem fX6_yearOf_14 : zf mX6_yearOf 14 = some (.goto 4, 3, 17) := by decide +kernel
theorem fX6_yearOf_17 : zf mX6_yearOf 17 = some (.iconst 0, 1, 18) := by decide +kernel
theorem fX6_yearOf_18 : zf mX6_yearOf 18 = some (.ireturn, 1, 19) := by decide +kernel
theorem fX6_makerOf_0 : zf mX6_makerOf 0 = some (.aload_n 0, 1, 1) := by decide +kernel
theorem fX6_makerOf_1 : zf mX6_makerOf 1 = some (.iload_n 1, 1, 2) := by decide +kernel
theorem fX6_makerOf_2 : zf mX6_makerOf 2 = some (.invokevirtual 34, 3, 5) := by decide +kernel
theorem fX6_makerOf_5 : zf mX6_makerOf 5 = some (.ifCond .eq 24, 3, 8) := by decide +kernel
theorem fX6_makerOf_8 : zf mX6_makerOf 8 = some (.iload_n 2, 1, 9) := by decide +kernel
theorem fX6_makerOf_9 : zf mX6_makerOf 9 = some (.invokestatic 38, 3, 12) := by decide +kernel
theorem fX6_makerOf_12 : zf mX6_makerOf 12 = some (.ifCond .eq 17, 3, 15) := by decide +kernel
theorem fX6_makerOf_15 : zf mX6_makerOf 15 = some (.aload_n 0, 1, 16) := by decide +kernel
theorem fX6_makerOf_16 : zf mX6_makerOf 16 = some (.getfield 22, 3, 19) := by decide +kernel
theorem fX6_makerOf_19 : zf mX6_makerOf 19 = some (.iload_n 1, 1, 20) := by decide +kernel
theorem fX6_makerOf_20 : zf mX6_makerOf 20 = some (.bipush 31, 2, 22) := by decide +kernel
theorem fX6_makerOf_22 : zf mX6_makerOf 22 = some (.imul, 1, 23) := by decide +kernel
theorem fX6_makerOf_23 : zf mX6_makerOf 23 = some (.iload_n 2, 1, 24) := by decide +kernel
theorem fX6_makerOf_24 : zf mX6_makerOf 24 = some (.iadd, 1, 25) := by decide +kernel
theorem fX6_makerOf_25 : zf mX6_makerOf 25 = some (.iaload, 1, 26) := by decide +kernel
theorem fX6_makerOf_26 : zf mX6_makerOf 26 = some (.goto 4, 3, 29) := by decide +kernel
theorem fX6_makerOf_29 : zf mX6_makerOf 29 = some (.iconst (-1), 1, 30) := by decide +kernel
theorem fX6_makerOf_30 : zf mX6_makerOf 30 = some (.ireturn, 1, 31) := by decide +kernel
theorem fX6_totalOf_0 : zf mX6_totalOf 0 = some (.aload_n 0, 1, 1) := by decide +kernel
theorem fX6_totalOf_1 : zf mX6_totalOf 1 = some (.iload_n 1, 1, 2) := by decide +kernel
theorem fX6_totalOf_2 : zf mX6_totalOf 2 = some (.invokevirtual 34, 3, 5) := by decide +kernel
theorem fX6_totalOf_5 : zf mX6_totalOf 5 = some (.ifCond .eq 10, 3, 8) := by decide +kernel
theorem fX6_totalOf_8 : zf mX6_totalOf 8 = some (.iload_n 2, 1, 9) := by decide +kernel
theorem fX6_totalOf_9 : zf mX6_totalOf 9 = some (.invokestatic 38, 3, 12) := by decide +kernel
theorem fX6_totalOf_12 : zf mX6_totalOf 12 = some (.ifCond .ne 5, 3, 15) := by decide +kernel
theorem fX6_totalOf_15 : zf mX6_totalOf 15 = some (.iconst 0, 1, 16) := by decide +kernel
theorem fX6_totalOf_16 : zf mX6_totalOf 16 = some (.ireturn, 1, 17) := by decide +kernel
theorem fX6_totalOf_17 : zf mX6_totalOf 17 = some (.aload_n 0, 1, 18) := by decide +kernel
theorem fX6_totalOf_18 : zf mX6_totalOf 18 = some (.getfield 22, 3, 21) := by decide +kernel
theorem fX6_totalOf_21 : zf mX6_totalOf 21 = some (.iload_n 1, 1, 22) := by decide +kernel
theorem fX6_totalOf_22 : zf mX6_totalOf 22 = some (.bipush 31, 2, 24) := by decide +kernel
theorem fX6_totalOf_24 : zf mX6_totalOf 24 = some (.imul, 1, 25) := by decide +kernel
theorem fX6_totalOf_25 : zf mX6_totalOf 25 = some (.iload_n 2, 1, 26) := by decide +kernel
theorem fX6_totalOf_26 : zf mX6_totalOf 26 = some (.iadd, 1, 27) := by decide +kernel
theorem fX6_totalOf_27 : zf mX6_totalOf 27 = some (.iaload, 1, 28) := by decide +kernel
theorem fX6_totalOf_28 : zf mX6_totalOf 28 = some (.istore_n 3, 1, 29) := by decide +kernel
theorem fX6_totalOf_29 : zf mX6_totalOf 29 = some (.aload_n 0, 1, 30) := by decide +kernel
theorem fX6_totalOf_30 : zf mX6_totalOf 30 = some (.iload_n 3, 1, 31) := by decide +kernel
theorem fX6_totalOf_31 : zf mX6_totalOf 31 = some (.invokevirtual 34, 3, 34) := by decide +kernel
theorem fX6_totalOf_34 : zf mX6_totalOf 34 = some (.ifCond .eq 17, 3, 37) := by decide +kernel
theorem fX6_totalOf_37 : zf mX6_totalOf 37 = some (.aload_n 0, 1, 38) := by decide +kernel
theorem fX6_totalOf_38 : zf mX6_totalOf 38 = some (.getfield 25, 3, 41) := by decide +kernel
theorem fX6_totalOf_41 : zf mX6_totalOf 41 = some (.iload_n 3, 1, 42) := by decide +kernel
theorem fX6_totalOf_42 : zf mX6_totalOf 42 = some (.bipush 31, 2, 44) := by decide +kernel
theorem fX6_totalOf_44 : zf mX6_totalOf 44 = some (.imul, 1, 45) := by decide +kernel
theorem fX6_totalOf_45 : zf mX6_totalOf 45 = some (.iload_n 2, 1, 46) := by decide +kernel
theorem fX6_totalOf_46 : zf mX6_totalOf 46 = some (.iadd, 1, 47) := by decide +kernel
theorem fX6_totalOf_47 : zf mX6_totalOf 47 = some (.iaload, 1, 48) := by decide +kernel
theorem fX6_totalOf_48 : zf mX6_totalOf 48 = some (.goto 4, 3, 51) := by decide +kernel
theorem fX6_totalOf_51 : zf mX6_totalOf 51 = some (.iconst 0, 1, 52) := by decide +kernel
theorem fX6_totalOf_52 : zf mX6_totalOf 52 = some (.ireturn, 1, 53) := by decide +kernel
theorem fX6_amountOn_0 : zf mX6_amountOn 0 = some (.aload_n 0, 1, 1) := by decide +kernel
theorem fX6_amountOn_1 : zf mX6_amountOn 1 = some (.iload_n 1, 1, 2) := by decide +kernel
theorem fX6_amountOn_2 : zf mX6_amountOn 2 = some (.bipush 15, 2, 4) := by decide +kernel
theorem fX6_amountOn_4 : zf mX6_amountOn 4 = some (.iload_n 2, 1, 5) := by decide +kernel
theorem fX6_amountOn_5 : zf mX6_amountOn 5 = some (.iadd, 1, 6) := by decide +kernel
theorem fX6_amountOn_6 : zf mX6_amountOn 6 = some (.invokevirtual 41, 3, 9) := by decide +kernel
theorem fX6_amountOn_9 : zf mX6_amountOn 9 = some (.ireturn, 1, 10) := by decide +kernel
theorem fX6_addWritten_0 : zf mX6_addWritten 0 = some (.aload_n 0, 1, 1) := by decide +kernel
theorem fX6_addWritten_1 : zf mX6_addWritten 1 = some (.iload_n 1, 1, 2) := by decide +kernel
theorem fX6_addWritten_2 : zf mX6_addWritten 2 = some (.iload_n 2, 1, 3) := by decide +kernel
theorem fX6_addWritten_3 : zf mX6_addWritten 3 = some (.invokevirtual 45, 3, 6) := by decide +kernel
theorem fX6_addWritten_6 : zf mX6_addWritten 6 = some (.istore 5, 2, 8) := by decide +kernel
theorem fX6_addWritten_8 : zf mX6_addWritten 8 = some (.bipush 30, 2, 10) := by decide +kernel
theorem fX6_addWritten_10 : zf mX6_addWritten 10 = some (.istore 6, 2, 12) := by decide +kernel
theorem fX6_addWritten_12 : zf mX6_addWritten 12 = some (.iload 6, 2, 14) := by decide +kernel
theorem fX6_addWritten_14 : zf mX6_addWritten 14 = some (.ifCond .lt 57, 3, 17) := by decide +kernel
theorem fX6_addWritten_17 : zf mX6_addWritten 17 = some (.iload 6, 2, 19) := by decide +kernel
theorem fX6_addWritten_19 : zf mX6_addWritten 19 = some (.bipush 15, 2, 21) := by decide +kernel
theorem fX6_addWritten_21 : zf mX6_addWritten 21 = some (.iload_n 3, 1, 22) := by decide +kernel
theorem fX6_addWritten_22 : zf mX6_addWritten 22 = some (.iadd, 1, 23) := by decide +kernel
theorem fX6_addWritten_23 : zf mX6_addWritten 23 = some (.if_icmp .ne 16, 3, 26) := by decide +kernel
theorem fX6_addWritten_26 : zf mX6_addWritten 26 = some (.aload_n 0, 1, 27) := by decide +kernel
theorem fX6_addWritten_27 : zf mX6_addWritten 27 = some (.iload 5, 2, 29) := by decide +kernel
theorem fX6_addWritten_29 : zf mX6_addWritten 29 = some (.iload 6, 2, 31) := by decide +kernel
theorem fX6_addWritten_31 : zf mX6_addWritten 31 = some (.iload 4, 2, 33) := by decide +kernel
theorem fX6_addWritten_33 : zf mX6_addWritten 33 = some (.invokevirtual 48, 3, 36) := by decide +kernel
theorem fX6_addWritten_36 : zf mX6_addWritten 36 = some (.goto 29, 3, 39) := by decide +kernel
theorem fX6_addWritten_39 : zf mX6_addWritten 39 = some (.iload 6, 2, 41) := by decide +kernel
theorem fX6_addWritten_41 : zf mX6_addWritten 41 = some (.iload_n 3, 1, 42) := by decide +kernel
theorem fX6_addWritten_42 : zf mX6_addWritten 42 = some (.iload_n 3, 1, 43) := by decide +kernel
theorem fX6_addWritten_43 : zf mX6_addWritten 43 = some (.invokestatic 52, 3, 46) := by decide +kernel
theorem fX6_addWritten_46 : zf mX6_addWritten 46 = some (.ifCond .eq 19, 3, 49) := by decide +kernel
theorem fX6_addWritten_49 : zf mX6_addWritten 49 = some (.aload_n 0, 1, 50) := by decide +kernel
theorem fX6_addWritten_50 : zf mX6_addWritten 50 = some (.iload 5, 2, 52) := by decide +kernel
theorem fX6_addWritten_52 : zf mX6_addWritten 52 = some (.iload 6, 2, 54) := by decide +kernel
theorem fX6_addWritten_54 : zf mX6_addWritten 54 = some (.aload_n 0, 1, 55) := by decide +kernel
theorem fX6_addWritten_55 : zf mX6_addWritten 55 = some (.iload 5, 2, 57) := by decide +kernel
theorem fX6_addWritten_57 : zf mX6_addWritten 57 = some (.iload 6, 2, 59) := by decide +kernel
theorem fX6_addWritten_59 : zf mX6_addWritten 59 = some (.invokevirtual 56, 3, 62) := by decide +kernel
theorem fX6_addWritten_62 : zf mX6_addWritten 62 = some (.invokevirtual 48, 3, 65) := by decide +kernel
theorem fX6_addWritten_65 : zf mX6_addWritten 65 = some (.iinc 6 (-1), 3, 68) := by decide +kernel
theorem fX6_addWritten_68 : zf mX6_addWritten 68 = some (.goto (-56), 3, 71) := by decide +kernel
theorem fX6_addWritten_71 : zf mX6_addWritten 71 = some (.iload 5, 2, 73) := by decide +kernel
theorem fX6_addWritten_73 : zf mX6_addWritten 73 = some (.ireturn, 1, 74) := by decide +kernel
theorem fX6_addGrafted_0 : zf mX6_addGrafted 0 = some (.aload_n 0, 1, 1) := by decide +kernel
theorem fX6_addGrafted_1 : zf mX6_addGrafted 1 = some (.iload_n 1, 1, 2) := by decide +kernel
theorem fX6_addGrafted_2 : zf mX6_addGrafted 2 = some (.iload_n 2, 1, 3) := by decide +kernel
theorem fX6_addGrafted_3 : zf mX6_addGrafted 3 = some (.invokevirtual 45, 3, 6) := by decide +kernel
theorem fX6_addGrafted_6 : zf mX6_addGrafted 6 = some (.istore 6, 2, 8) := by decide +kernel
theorem fX6_addGrafted_8 : zf mX6_addGrafted 8 = some (.bipush 30, 2, 10) := by decide +kernel
theorem fX6_addGrafted_10 : zf mX6_addGrafted 10 = some (.istore 7, 2, 12) := by decide +kernel
theorem fX6_addGrafted_12 : zf mX6_addGrafted 12 = some (.iload 7, 2, 14) := by decide +kernel
theorem fX6_addGrafted_14 : zf mX6_addGrafted 14 = some (.ifCond .lt 61, 3, 17) := by decide +kernel
theorem fX6_addGrafted_17 : zf mX6_addGrafted 17 = some (.iload 7, 2, 19) := by decide +kernel
theorem fX6_addGrafted_19 : zf mX6_addGrafted 19 = some (.iload 4, 2, 21) := by decide +kernel
theorem fX6_addGrafted_21 : zf mX6_addGrafted 21 = some (.iload 5, 2, 23) := by decide +kernel
theorem fX6_addGrafted_23 : zf mX6_addGrafted 23 = some (.invokestatic 59, 3, 26) := by decide +kernel
theorem fX6_addGrafted_26 : zf mX6_addGrafted 26 = some (.ifCond .eq 15, 3, 29) := by decide +kernel
theorem fX6_addGrafted_29 : zf mX6_addGrafted 29 = some (.aload_n 0, 1, 30) := by decide +kernel
theorem fX6_addGrafted_30 : zf mX6_addGrafted 30 = some (.iload 6, 2, 32) := by decide +kernel
theorem fX6_addGrafted_32 : zf mX6_addGrafted 32 = some (.iload 7, 2, 34) := by decide +kernel
theorem fX6_addGrafted_34 : zf mX6_addGrafted 34 = some (.iload_n 3, 1, 35) := by decide +kernel
theorem fX6_addGrafted_35 : zf mX6_addGrafted 35 = some (.invokevirtual 62, 3, 38) := by decide +kernel
theorem fX6_addGrafted_38 : zf mX6_addGrafted 38 = some (.goto 31, 3, 41) := by decide +kernel
theorem fX6_addGrafted_41 : zf mX6_addGrafted 41 = some (.iload 7, 2, 43) := by decide +kernel
theorem fX6_addGrafted_43 : zf mX6_addGrafted 43 = some (.iload 4, 2, 45) := by decide +kernel
theorem fX6_addGrafted_45 : zf mX6_addGrafted 45 = some (.iload 5, 2, 47) := by decide +kernel
theorem fX6_addGrafted_47 : zf mX6_addGrafted 47 = some (.invokestatic 52, 3, 50) := by decide +kernel
theorem fX6_addGrafted_50 : zf mX6_addGrafted 50 = some (.ifCond .eq 19, 3, 53) := by decide +kernel
theorem fX6_addGrafted_53 : zf mX6_addGrafted 53 = some (.aload_n 0, 1, 54) := by decide +kernel
theorem fX6_addGrafted_54 : zf mX6_addGrafted 54 = some (.iload 6, 2, 56) := by decide +kernel
theorem fX6_addGrafted_56 : zf mX6_addGrafted 56 = some (.iload 7, 2, 58) := by decide +kernel
theorem fX6_addGrafted_58 : zf mX6_addGrafted 58 = some (.aload_n 0, 1, 59) := by decide +kernel
theorem fX6_addGrafted_59 : zf mX6_addGrafted 59 = some (.iload 6, 2, 61) := by decide +kernel
theorem fX6_addGrafted_61 : zf mX6_addGrafted 61 = some (.iload 7, 2, 63) := by decide +kernel
theorem fX6_addGrafted_63 : zf mX6_addGrafted 63 = some (.invokevirtual 56, 3, 66) := by decide +kernel
theorem fX6_addGrafted_66 : zf mX6_addGrafted 66 = some (.invokevirtual 48, 3, 69) := by decide +kernel
theorem fX6_addGrafted_69 : zf mX6_addGrafted 69 = some (.iinc 7 (-1), 3, 72) := by decide +kernel
theorem fX6_addGrafted_72 : zf mX6_addGrafted 72 = some (.goto (-60), 3, 75) := by decide +kernel
theorem fX6_addGrafted_75 : zf mX6_addGrafted 75 = some (.iload 6, 2, 77) := by decide +kernel
theorem fX6_addGrafted_77 : zf mX6_addGrafted 77 = some (.ireturn, 1, 78) := by decide +kernel
theorem fX6_addChild_0 : zf mX6_addChild 0 = some (.aload_n 0, 1, 1) := by decide +kernel
theorem fX6_addChild_1 : zf mX6_addChild 1 = some (.invokevirtual 65, 3, 4) := by decide +kernel
theorem fX6_addChild_4 : zf mX6_addChild 4 = some (.ifCond .ne 11, 3, 7) := by decide +kernel
theorem fX6_addChild_7 : zf mX6_addChild 7 = some (.aload_n 0, 1, 8) := by decide +kernel
theorem fX6_addChild_8 : zf mX6_addChild 8 = some (.iload_n 1, 1, 9) := by decide +kernel
theorem fX6_addChild_9 : zf mX6_addChild 9 = some (.invokevirtual 34, 3, 12) := by decide +kernel
theorem fX6_addChild_12 : zf mX6_addChild 12 = some (.ifCond .ne 5, 3, 15) := by decide +kernel
theorem fX6_addChild_15 : zf mX6_addChild 15 = some (.iconst (-1), 1, 16) := by decide +kernel
theorem fX6_addChild_16 : zf mX6_addChild 16 = some (.ireturn, 1, 17) := by decide +kernel
theorem fX6_addChild_17 : zf mX6_addChild 17 = some (.aload_n 0, 1, 18) := by decide +kernel
theorem fX6_addChild_18 : zf mX6_addChild 18 = some (.getfield 9, 3, 21) := by decide +kernel
theorem fX6_addChild_21 : zf mX6_addChild 21 = some (.istore_n 3, 1, 22) := by decide +kernel
theorem fX6_addChild_22 : zf mX6_addChild 22 = some (.aload_n 0, 1, 23) := by decide +kernel
theorem fX6_addChild_23 : zf mX6_addChild 23 = some (.dup, 1, 24) := by decide +kernel
theorem fX6_addChild_24 : zf mX6_addChild 24 = some (.getfield 9, 3, 27) := by decide +kernel
theorem fX6_addChild_27 : zf mX6_addChild 27 = some (.iconst 1, 1, 28) := by decide +kernel
theorem fX6_addChild_28 : zf mX6_addChild 28 = some (.iadd, 1, 29) := by decide +kernel
theorem fX6_addChild_29 : zf mX6_addChild 29 = some (.putfield 9, 3, 32) := by decide +kernel
theorem fX6_addChild_32 : zf mX6_addChild 32 = some (.aload_n 0, 1, 33) := by decide +kernel
theorem fX6_addChild_33 : zf mX6_addChild 33 = some (.getfield 15, 3, 36) := by decide +kernel
theorem fX6_addChild_36 : zf mX6_addChild 36 = some (.iload_n 3, 1, 37) := by decide +kernel
theorem fX6_addChild_37 : zf mX6_addChild 37 = some (.iload_n 1, 1, 38) := by decide +kernel
theorem fX6_addChild_38 : zf mX6_addChild 38 = some (.iastore, 1, 39) := by decide +kernel
theorem fX6_addChild_39 : zf mX6_addChild 39 = some (.aload_n 0, 1, 40) := by decide +kernel
theorem fX6_addChild_40 : zf mX6_addChild 40 = some (.getfield 19, 3, 43) := by decide +kernel
theorem fX6_addChild_43 : zf mX6_addChild 43 = some (.iload_n 3, 1, 44) := by decide +kernel
theorem fX6_addChild_44 : zf mX6_addChild 44 = some (.iload_n 2, 1, 45) := by decide +kernel
theorem fX6_addChild_45 : zf mX6_addChild 45 = some (.iastore, 1, 46) := by decide +kernel
theorem fX6_addChild_46 : zf mX6_addChild 46 = some (.aload_n 0, 1, 47) := by decide +kernel
theorem fX6_addChild_47 : zf mX6_addChild 47 = some (.getfield 22, 3, 50) := by decide +kernel
theorem fX6_addChild_50 : zf mX6_addChild 50 = some (.iload_n 1, 1, 51) := by decide +kernel
theorem fX6_addChild_51 : zf mX6_addChild 51 = some (.bipush 31, 2, 53) := by decide +kernel
theorem fX6_addChild_53 : zf mX6_addChild 53 = some (.imul, 1, 54) := by decide +kernel
theorem fX6_addChild_54 : zf mX6_addChild 54 = some (.aload_n 0, 1, 55) := by decide +kernel
theorem fX6_addChild_55 : zf mX6_addChild 55 = some (.getfield 22, 3, 58) := by decide +kernel
theorem fX6_addChild_58 : zf mX6_addChild 58 = some (.iload_n 3, 1, 59) := by decide +kernel
theorem fX6_addChild_59 : zf mX6_addChild 59 = some (.bipush 31, 2, 61) := by decide +kernel
theorem fX6_addChild_61 : zf mX6_addChild 61 = some (.imul, 1, 62) := by decide +kernel
theorem fX6_addChild_62 : zf mX6_addChild 62 = some (.bipush 31, 2, 64) := by decide +kernel
theorem fX6_addChild_64 : zf mX6_addChild 64 = some (.invokestatic 28, 3, 67) := by decide +kernel
theorem fX6_addChild_67 : zf mX6_addChild 67 = some (.iload_n 3, 1, 68) := by decide +kernel
theorem fX6_addChild_68 : zf mX6_addChild 68 = some (.ireturn, 1, 69) := by decide +kernel
theorem fX6_makePage_0 : zf mX6_makePage 0 = some (.aload_n 0, 1, 1) := by decide +kernel
theorem fX6_makePage_1 : zf mX6_makePage 1 = some (.iload_n 1, 1, 2) := by decide +kernel
theorem fX6_makePage_2 : zf mX6_makePage 2 = some (.invokevirtual 34, 3, 5) := by decide +kernel
theorem fX6_makePage_5 : zf mX6_makePage 5 = some (.ifCond .eq 34, 3, 8) := by decide +kernel
theorem fX6_makePage_8 : zf mX6_makePage 8 = some (.iload_n 2, 1, 9) := by decide +kernel
theorem fX6_makePage_9 : zf mX6_makePage 9 = some (.invokestatic 38, 3, 12) := by decide +kernel
theorem fX6_makePage_12 : zf mX6_makePage 12 = some (.ifCond .eq 27, 3, 15) := by decide +kernel
theorem fX6_makePage_15 : zf mX6_makePage 15 = some (.aload_n 0, 1, 16) := by decide +kernel
theorem fX6_makePage_16 : zf mX6_makePage 16 = some (.getfield 22, 3, 19) := by decide +kernel
theorem fX6_makePage_19 : zf mX6_makePage 19 = some (.iload_n 1, 1, 20) := by decide +kernel
theorem fX6_makePage_20 : zf mX6_makePage 20 = some (.bipush 31, 2, 22) := by decide +kernel
theorem fX6_makePage_22 : zf mX6_makePage 22 = some (.imul, 1, 23) := by decide +kernel
theorem fX6_makePage_23 : zf mX6_makePage 23 = some (.iload_n 2, 1, 24) := by decide +kernel
theorem fX6_makePage_24 : zf mX6_makePage 24 = some (.iadd, 1, 25) := by decide +kernel
theorem fX6_makePage_25 : zf mX6_makePage 25 = some (.iload_n 1, 1, 26) := by decide +kernel
theorem fX6_makePage_26 : zf mX6_makePage 26 = some (.iastore, 1, 27) := by decide +kernel
theorem fX6_makePage_27 : zf mX6_makePage 27 = some (.aload_n 0, 1, 28) := by decide +kernel
theorem fX6_makePage_28 : zf mX6_makePage 28 = some (.getfield 25, 3, 31) := by decide +kernel
theorem fX6_makePage_31 : zf mX6_makePage 31 = some (.iload_n 1, 1, 32) := by decide +kernel
theorem fX6_makePage_32 : zf mX6_makePage 32 = some (.bipush 31, 2, 34) := by decide +kernel
theorem fX6_makePage_34 : zf mX6_makePage 34 = some (.imul, 1, 35) := by decide +kernel
theorem fX6_makePage_35 : zf mX6_makePage 35 = some (.iload_n 2, 1, 36) := by decide +kernel
theorem fX6_makePage_36 : zf mX6_makePage 36 = some (.iadd, 1, 37) := by decide +kernel
theorem fX6_makePage_37 : zf mX6_makePage 37 = some (.iload_n 3, 1, 38) := by decide +kernel
theorem fX6_makePage_38 : zf mX6_makePage 38 = some (.iastore, 1, 39) := by decide +kernel
theorem fX6_makePage_39 : zf mX6_makePage 39 = some (.return_, 1, 40) := by decide +kernel
theorem fX6_takePage_0 : zf mX6_takePage 0 = some (.aload_n 0, 1, 1) := by decide +kernel
theorem fX6_takePage_1 : zf mX6_takePage 1 = some (.iload_n 1, 1, 2) := by decide +kernel
theorem fX6_takePage_2 : zf mX6_takePage 2 = some (.invokevirtual 34, 3, 5) := by decide +kernel
theorem fX6_takePage_5 : zf mX6_takePage 5 = some (.ifCond .eq 40, 3, 8) := by decide +kernel
theorem fX6_takePage_8 : zf mX6_takePage 8 = some (.aload_n 0, 1, 9) := by decide +kernel
theorem fX6_takePage_9 : zf mX6_takePage 9 = some (.iload_n 3, 1, 10) := by decide +kernel
theorem fX6_takePage_10 : zf mX6_takePage 10 = some (.invokevirtual 34, 3, 13) := by decide +kernel
theorem fX6_takePage_13 : zf mX6_takePage 13 = some (.ifCond .eq 32, 3, 16) := by decide +kernel
theorem fX6_takePage_16 : zf mX6_takePage 16 = some (.iload_n 2, 1, 17) := by decide +kernel
theorem fX6_takePage_17 : zf mX6_takePage 17 = some (.invokestatic 38, 3, 20) := by decide +kernel
theorem fX6_takePage_20 : zf mX6_takePage 20 = some (.ifCond .eq 25, 3, 23) := by decide +kernel
theorem fX6_takePage_23 : zf mX6_takePage 23 = some (.aload_n 0, 1, 24) := by decide +kernel
theorem fX6_takePage_24 : zf mX6_takePage 24 = some (.getfield 22, 3, 27) := by decide +kernel
theorem fX6_takePage_27 : zf mX6_takePage 27 = some (.iload_n 1, 1, 28) := by decide +kernel
theorem fX6_takePage_28 : zf mX6_takePage 28 = some (.bipush 31, 2, 30) := by decide +kernel
theorem fX6_takePage_30 : zf mX6_takePage 30 = some (.imul, 1, 31) := by decide +kernel
theorem fX6_takePage_31 : zf mX6_takePage 31 = some (.iload_n 2, 1, 32) := by decide +kernel
theorem fX6_takePage_32 : zf mX6_takePage 32 = some (.iadd, 1, 33) := by decide +kernel
theorem fX6_takePage_33 : zf mX6_takePage 33 = some (.aload_n 0, 1, 34) := by decide +kernel
theorem fX6_takePage_34 : zf mX6_takePage 34 = some (.getfield 22, 3, 37) := by decide +kernel
theorem fX6_takePage_37 : zf mX6_takePage 37 = some (.iload_n 3, 1, 38) := by decide +kernel
theorem fX6_takePage_38 : zf mX6_takePage 38 = some (.bipush 31, 2, 40) := by decide +kernel
theorem fX6_takePage_40 : zf mX6_takePage 40 = some (.imul, 1, 41) := by decide +kernel
theorem fX6_takePage_41 : zf mX6_takePage 41 = some (.iload_n 2, 1, 42) := by decide +kernel
theorem fX6_takePage_42 : zf mX6_takePage 42 = some (.iadd, 1, 43) := by decide +kernel
theorem fX6_takePage_43 : zf mX6_takePage 43 = some (.iaload, 1, 44) := by decide +kernel
theorem fX6_takePage_44 : zf mX6_takePage 44 = some (.iastore, 1, 45) := by decide +kernel
theorem fX6_takePage_45 : zf mX6_takePage 45 = some (.return_, 1, 46) := by decide +kernel
theorem fX6_totalOfHalves_0 : zf mX6_totalOfHalves 0 = some (.aload_n 0, 1, 1) := by decide +kernel
theorem fX6_totalOfHalves_1 : zf mX6_totalOfHalves 1 = some (.iload_n 1, 1, 2) := by decide +kernel
theorem fX6_totalOfHalves_2 : zf mX6_totalOfHalves 2 = some (.iconst 2, 1, 3) := by decide +kernel
theorem fX6_totalOfHalves_3 : zf mX6_totalOfHalves 3 = some (.iload_n 2, 1, 4) := by decide +kernel
theorem fX6_totalOfHalves_4 : zf mX6_totalOfHalves 4 = some (.imul, 1, 5) := by decide +kernel
theorem fX6_totalOfHalves_5 : zf mX6_totalOfHalves 5 = some (.iconst 1, 1, 6) := by decide +kernel
theorem fX6_totalOfHalves_6 : zf mX6_totalOfHalves 6 = some (.iadd, 1, 7) := by decide +kernel
theorem fX6_totalOfHalves_7 : zf mX6_totalOfHalves 7 = some (.invokevirtual 41, 3, 10) := by decide +kernel
theorem fX6_totalOfHalves_10 : zf mX6_totalOfHalves 10 = some (.aload_n 0, 1, 11) := by decide +kernel
theorem fX6_totalOfHalves_11 : zf mX6_totalOfHalves 11 = some (.iload_n 1, 1, 12) := by decide +kernel
theorem fX6_totalOfHalves_12 : zf mX6_totalOfHalves 12 = some (.iconst 2, 1, 13) := by decide +kernel
theorem fX6_totalOfHalves_13 : zf mX6_totalOfHalves 13 = some (.iload_n 2, 1, 14) := by decide +kernel
theorem fX6_totalOfHalves_14 : zf mX6_totalOfHalves 14 = some (.imul, 1, 15) := by decide +kernel
theorem fX6_totalOfHalves_15 : zf mX6_totalOfHalves 15 = some (.iconst 2, 1, 16) := by decide +kernel
theorem fX6_totalOfHalves_16 : zf mX6_totalOfHalves 16 = some (.iadd, 1, 17) := by decide +kernel
theorem fX6_totalOfHalves_17 : zf mX6_totalOfHalves 17 = some (.invokevirtual 41, 3, 20) := by decide +kernel
theorem fX6_totalOfHalves_20 : zf mX6_totalOfHalves 20 = some (.iadd, 1, 21) := by decide +kernel
theorem fX6_totalOfHalves_21 : zf mX6_totalOfHalves 21 = some (.ireturn, 1, 22) := by decide +kernel
theorem fX6_sumByPages_0 : zf mX6_sumByPages 0 = some (.iconst 0, 1, 1) := by decide +kernel
theorem fX6_sumByPages_1 : zf mX6_sumByPages 1 = some (.istore 4, 2, 3) := by decide +kernel
theorem fX6_sumByPages_3 : zf mX6_sumByPages 3 = some (.iconst 0, 1, 4) := by decide +kernel
theorem fX6_sumByPages_4 : zf mX6_sumByPages 4 = some (.istore 5, 2, 6) := by decide +kernel
theorem fX6_sumByPages_6 : zf mX6_sumByPages 6 = some (.iload 5, 2, 8) := by decide +kernel
theorem fX6_sumByPages_8 : zf mX6_sumByPages 8 = some (.bipush 31, 2, 10) := by decide +kernel
theorem fX6_sumByPages_10 : zf mX6_sumByPages 10 = some (.if_icmp .ge 62, 3, 13) := by decide +kernel
theorem fX6_sumByPages_13 : zf mX6_sumByPages 13 = some (.iload 5, 2, 15) := by decide +kernel
theorem fX6_sumByPages_15 : zf mX6_sumByPages 15 = some (.ifCond .le 21, 3, 18) := by decide +kernel
theorem fX6_sumByPages_18 : zf mX6_sumByPages 18 = some (.iload 5, 2, 20) := by decide +kernel
theorem fX6_sumByPages_20 : zf mX6_sumByPages 20 = some (.iconst 1, 1, 21) := by decide +kernel
theorem fX6_sumByPages_21 : zf mX6_sumByPages 21 = some (.isub, 1, 22) := by decide +kernel
theorem fX6_sumByPages_22 : zf mX6_sumByPages 22 = some (.iconst 2, 1, 23) := by decide +kernel
theorem fX6_sumByPages_23 : zf mX6_sumByPages 23 = some (.idiv, 1, 24) := by decide +kernel
theorem fX6_sumByPages_24 : zf mX6_sumByPages 24 = some (.iload_n 2, 1, 25) := by decide +kernel
theorem fX6_sumByPages_25 : zf mX6_sumByPages 25 = some (.iload_n 3, 1, 26) := by decide +kernel
theorem fX6_sumByPages_26 : zf mX6_sumByPages 26 = some (.invokestatic 59, 3, 29) := by decide +kernel
theorem fX6_sumByPages_29 : zf mX6_sumByPages 29 = some (.ifCond .eq 7, 3, 32) := by decide +kernel
theorem fX6_sumByPages_32 : zf mX6_sumByPages 32 = some (.iconst 1, 1, 33) := by decide +kernel
theorem fX6_sumByPages_33 : zf mX6_sumByPages 33 = some (.goto 4, 3, 36) := by decide +kernel
theorem fX6_sumByPages_36 : zf mX6_sumByPages 36 = some (.iconst 0, 1, 37) := by decide +kernel
theorem fX6_sumByPages_37 : zf mX6_sumByPages 37 = some (.istore 6, 2, 39) := by decide +kernel
theorem fX6_sumByPages_39 : zf mX6_sumByPages 39 = some (.iload 6, 2, 41) := by decide +kernel
theorem fX6_sumByPages_41 : zf mX6_sumByPages 41 = some (.ifCond .ne 25, 3, 44) := by decide +kernel
theorem fX6_sumByPages_44 : zf mX6_sumByPages 44 = some (.iload 5, 2, 46) := by decide +kernel
theorem fX6_sumByPages_46 : zf mX6_sumByPages 46 = some (.iload_n 2, 1, 47) := by decide +kernel
theorem fX6_sumByPages_47 : zf mX6_sumByPages 47 = some (.iload_n 3, 1, 48) := by decide +kernel
theorem fX6_sumByPages_48 : zf mX6_sumByPages 48 = some (.invokestatic 59, 3, 51) := by decide +kernel
theorem fX6_sumByPages_51 : zf mX6_sumByPages 51 = some (.ifCond .eq 15, 3, 54) := by decide +kernel
theorem fX6_sumByPages_54 : zf mX6_sumByPages 54 = some (.iload 4, 2, 56) := by decide +kernel
theorem fX6_sumByPages_56 : zf mX6_sumByPages 56 = some (.aload_n 0, 1, 57) := by decide +kernel
theorem fX6_sumByPages_57 : zf mX6_sumByPages 57 = some (.iload_n 1, 1, 58) := by decide +kernel
theorem fX6_sumByPages_58 : zf mX6_sumByPages 58 = some (.iload 5, 2, 60) := by decide +kernel
theorem fX6_sumByPages_60 : zf mX6_sumByPages 60 = some (.invokevirtual 41, 3, 63) := by decide +kernel
theorem fX6_sumByPages_63 : zf mX6_sumByPages 63 = some (.iadd, 1, 64) := by decide +kernel
theorem fX6_sumByPages_64 : zf mX6_sumByPages 64 = some (.istore 4, 2, 66) := by decide +kernel
theorem fX6_sumByPages_66 : zf mX6_sumByPages 66 = some (.iinc 5 1, 3, 69) := by decide +kernel
theorem fX6_sumByPages_69 : zf mX6_sumByPages 69 = some (.goto (-63), 3, 72) := by decide +kernel
theorem fX6_sumByPages_72 : zf mX6_sumByPages 72 = some (.iload 4, 2, 74) := by decide +kernel
theorem fX6_sumByPages_74 : zf mX6_sumByPages 74 = some (.ireturn, 1, 75) := by decide +kernel
theorem fX6_sumByLines_0 : zf mX6_sumByLines 0 = some (.iconst 0, 1, 1) := by decide +kernel
theorem fX6_sumByLines_1 : zf mX6_sumByLines 1 = some (.istore 4, 2, 3) := by decide +kernel
theorem fX6_sumByLines_3 : zf mX6_sumByLines 3 = some (.iconst 0, 1, 4) := by decide +kernel
theorem fX6_sumByLines_4 : zf mX6_sumByLines 4 = some (.istore 5, 2, 6) := by decide +kernel
theorem fX6_sumByLines_6 : zf mX6_sumByLines 6 = some (.iload 5, 2, 8) := by decide +kernel
theorem fX6_sumByLines_8 : zf mX6_sumByLines 8 = some (.bipush 16, 2, 10) := by decide +kernel
theorem fX6_sumByLines_10 : zf mX6_sumByLines 10 = some (.if_icmp .ge 33, 3, 13) := by decide +kernel
theorem fX6_sumByLines_13 : zf mX6_sumByLines 13 = some (.iload 5, 2, 15) := by decide +kernel
theorem fX6_sumByLines_15 : zf mX6_sumByLines 15 = some (.iload_n 2, 1, 16) := by decide +kernel
theorem fX6_sumByLines_16 : zf mX6_sumByLines 16 = some (.if_icmp .lt 21, 3, 19) := by decide +kernel
theorem fX6_sumByLines_19 : zf mX6_sumByLines 19 = some (.iload 5, 2, 21) := by decide +kernel
theorem fX6_sumByLines_21 : zf mX6_sumByLines 21 = some (.iload_n 3, 1, 22) := by decide +kernel
theorem fX6_sumByLines_22 : zf mX6_sumByLines 22 = some (.if_icmp .gt 15, 3, 25) := by decide +kernel
theorem fX6_sumByLines_25 : zf mX6_sumByLines 25 = some (.iload 4, 2, 27) := by decide +kernel
theorem fX6_sumByLines_27 : zf mX6_sumByLines 27 = some (.aload_n 0, 1, 28) := by decide +kernel
theorem fX6_sumByLines_28 : zf mX6_sumByLines 28 = some (.iload_n 1, 1, 29) := by decide +kernel
theorem fX6_sumByLines_29 : zf mX6_sumByLines 29 = some (.iload 5, 2, 31) := by decide +kernel
theorem fX6_sumByLines_31 : zf mX6_sumByLines 31 = some (.invokevirtual 69, 3, 34) := by decide +kernel
theorem fX6_sumByLines_34 : zf mX6_sumByLines 34 = some (.iadd, 1, 35) := by decide +kernel
theorem fX6_sumByLines_35 : zf mX6_sumByLines 35 = some (.istore 4, 2, 37) := by decide +kernel
theorem fX6_sumByLines_37 : zf mX6_sumByLines 37 = some (.iinc 5 1, 3, 40) := by decide +kernel
theorem fX6_sumByLines_40 : zf mX6_sumByLines 40 = some (.goto (-34), 3, 43) := by decide +kernel
theorem fX6_sumByLines_43 : zf mX6_sumByLines 43 = some (.iload 4, 2, 45) := by decide +kernel
theorem fX6_sumByLines_45 : zf mX6_sumByLines 45 = some (.ireturn, 1, 46) := by decide +kernel
theorem fX6_lineWithMost_0 : zf mX6_lineWithMost 0 = some (.iload_n 2, 1, 1) := by decide +kernel
theorem fX6_lineWithMost_1 : zf mX6_lineWithMost 1 = some (.istore 4, 2, 3) := by decide +kernel
theorem fX6_lineWithMost_3 : zf mX6_lineWithMost 3 = some (.iconst 0, 1, 4) := by decide +kernel
theorem fX6_lineWithMost_4 : zf mX6_lineWithMost 4 = some (.istore 5, 2, 6) := by decide +kernel
theorem fX6_lineWithMost_6 : zf mX6_lineWithMost 6 = some (.iload 5, 2, 8) := by decide +kernel
theorem fX6_lineWithMost_8 : zf mX6_lineWithMost 8 = some (.bipush 16, 2, 10) := by decide +kernel
theorem fX6_lineWithMost_10 : zf mX6_lineWithMost 10 = some (.if_icmp .ge 42, 3, 13) := by decide +kernel
theorem fX6_lineWithMost_13 : zf mX6_lineWithMost 13 = some (.iload 5, 2, 15) := by decide +kernel
theorem fX6_lineWithMost_15 : zf mX6_lineWithMost 15 = some (.iload_n 2, 1, 16) := by decide +kernel
theorem fX6_lineWithMost_16 : zf mX6_lineWithMost 16 = some (.if_icmp .le 30, 3, 19) := by decide +kernel
theorem fX6_lineWithMost_19 : zf mX6_lineWithMost 19 = some (.iload 5, 2, 21) := by decide +kernel
theorem fX6_lineWithMost_21 : zf mX6_lineWithMost 21 = some (.iload_n 3, 1, 22) := by decide +kernel
theorem fX6_lineWithMost_22 : zf mX6_lineWithMost 22 = some (.if_icmp .gt 24, 3, 25) := by decide +kernel
theorem fX6_lineWithMost_25 : zf mX6_lineWithMost 25 = some (.aload_n 0, 1, 26) := by decide +kernel
theorem fX6_lineWithMost_26 : zf mX6_lineWithMost 26 = some (.iload_n 1, 1, 27) := by decide +kernel
theorem fX6_lineWithMost_27 : zf mX6_lineWithMost 27 = some (.iload 5, 2, 29) := by decide +kernel
theorem fX6_lineWithMost_29 : zf mX6_lineWithMost 29 = some (.invokevirtual 69, 3, 32) := by decide +kernel
theorem fX6_lineWithMost_32 : zf mX6_lineWithMost 32 = some (.aload_n 0, 1, 33) := by decide +kernel
theorem fX6_lineWithMost_33 : zf mX6_lineWithMost 33 = some (.iload_n 1, 1, 34) := by decide +kernel
theorem fX6_lineWithMost_34 : zf mX6_lineWithMost 34 = some (.iload 4, 2, 36) := by decide +kernel
theorem fX6_lineWithMost_36 : zf mX6_lineWithMost 36 = some (.invokevirtual 69, 3, 39) := by decide +kernel
theorem fX6_lineWithMost_39 : zf mX6_lineWithMost 39 = some (.if_icmp .le 7, 3, 42) := by decide +kernel
theorem fX6_lineWithMost_42 : zf mX6_lineWithMost 42 = some (.iload 5, 2, 44) := by decide +kernel
theorem fX6_lineWithMost_44 : zf mX6_lineWithMost 44 = some (.istore 4, 2, 46) := by decide +kernel
theorem fX6_lineWithMost_46 : zf mX6_lineWithMost 46 = some (.iinc 5 1, 3, 49) := by decide +kernel
theorem fX6_lineWithMost_49 : zf mX6_lineWithMost 49 = some (.goto (-43), 3, 52) := by decide +kernel
theorem fX6_lineWithMost_52 : zf mX6_lineWithMost 52 = some (.iload 4, 2, 54) := by decide +kernel
theorem fX6_lineWithMost_54 : zf mX6_lineWithMost 54 = some (.ireturn, 1, 55) := by decide +kernel
theorem fX6_lineReaching_0 : zf mX6_lineReaching 0 = some (.iconst 0, 1, 1) := by decide +kernel
theorem fX6_lineReaching_1 : zf mX6_lineReaching 1 = some (.istore_n 3, 1, 2) := by decide +kernel
theorem fX6_lineReaching_2 : zf mX6_lineReaching 2 = some (.iconst 0, 1, 3) := by decide +kernel
theorem fX6_lineReaching_3 : zf mX6_lineReaching 3 = some (.istore 4, 2, 5) := by decide +kernel
theorem fX6_lineReaching_5 : zf mX6_lineReaching 5 = some (.iload 4, 2, 7) := by decide +kernel
theorem fX6_lineReaching_7 : zf mX6_lineReaching 7 = some (.bipush 16, 2, 9) := by decide +kernel
theorem fX6_lineReaching_9 : zf mX6_lineReaching 9 = some (.if_icmp .ge 27, 3, 12) := by decide +kernel
theorem fX6_lineReaching_12 : zf mX6_lineReaching 12 = some (.iload_n 3, 1, 13) := by decide +kernel
theorem fX6_lineReaching_13 : zf mX6_lineReaching 13 = some (.aload_n 0, 1, 14) := by decide +kernel
theorem fX6_lineReaching_14 : zf mX6_lineReaching 14 = some (.iload_n 1, 1, 15) := by decide +kernel
theorem fX6_lineReaching_15 : zf mX6_lineReaching 15 = some (.iload 4, 2, 17) := by decide +kernel
theorem fX6_lineReaching_17 : zf mX6_lineReaching 17 = some (.invokevirtual 69, 3, 20) := by decide +kernel
theorem fX6_lineReaching_20 : zf mX6_lineReaching 20 = some (.iadd, 1, 21) := by decide +kernel
theorem fX6_lineReaching_21 : zf mX6_lineReaching 21 = some (.istore_n 3, 1, 22) := by decide +kernel
theorem fX6_lineReaching_22 : zf mX6_lineReaching 22 = some (.iload_n 3, 1, 23) := by decide +kernel
theorem fX6_lineReaching_23 : zf mX6_lineReaching 23 = some (.iload_n 2, 1, 24) := by decide +kernel
theorem fX6_lineReaching_24 : zf mX6_lineReaching 24 = some (.if_icmp .lt 6, 3, 27) := by decide +kernel
theorem fX6_lineReaching_27 : zf mX6_lineReaching 27 = some (.iload 4, 2, 29) := by decide +kernel
theorem fX6_lineReaching_29 : zf mX6_lineReaching 29 = some (.ireturn, 1, 30) := by decide +kernel
theorem fX6_lineReaching_30 : zf mX6_lineReaching 30 = some (.iinc 4 1, 3, 33) := by decide +kernel
theorem fX6_lineReaching_33 : zf mX6_lineReaching 33 = some (.goto (-28), 3, 36) := by decide +kernel
theorem fX6_lineReaching_36 : zf mX6_lineReaching 36 = some (.iconst (-1), 1, 37) := by decide +kernel
theorem fX6_lineReaching_37 : zf mX6_lineReaching 37 = some (.ireturn, 1, 38) := by decide +kernel
theorem fX6_earlier_0 : zf mX6_earlier 0 = some (.iload_n 1, 1, 1) := by decide +kernel
theorem fX6_earlier_1 : zf mX6_earlier 1 = some (.istore_n 3, 1, 2) := by decide +kernel
theorem fX6_earlier_2 : zf mX6_earlier 2 = some (.iconst 0, 1, 3) := by decide +kernel
theorem fX6_earlier_3 : zf mX6_earlier 3 = some (.istore 4, 2, 5) := by decide +kernel
theorem fX6_earlier_5 : zf mX6_earlier 5 = some (.iload 4, 2, 7) := by decide +kernel
theorem fX6_earlier_7 : zf mX6_earlier 7 = some (.iload_n 2, 1, 8) := by decide +kernel
theorem fX6_earlier_8 : zf mX6_earlier 8 = some (.if_icmp .ge 20, 3, 11) := by decide +kernel
theorem fX6_earlier_11 : zf mX6_earlier 11 = some (.iload_n 3, 1, 12) := by decide +kernel
theorem fX6_earlier_12 : zf mX6_earlier 12 = some (.iconst (-1), 1, 13) := by decide +kernel
theorem fX6_earlier_13 : zf mX6_earlier 13 = some (.if_icmp .eq 15, 3, 16) := by decide +kernel
theorem fX6_earlier_16 : zf mX6_earlier 16 = some (.aload_n 0, 1, 17) := by decide +kernel
theorem fX6_earlier_17 : zf mX6_earlier 17 = some (.iload_n 3, 1, 18) := by decide +kernel
theorem fX6_earlier_18 : zf mX6_earlier 18 = some (.invokevirtual 72, 3, 21) := by decide +kernel
theorem fX6_earlier_21 : zf mX6_earlier 21 = some (.istore_n 3, 1, 22) := by decide +kernel
theorem fX6_earlier_22 : zf mX6_earlier 22 = some (.iinc 4 1, 3, 25) := by decide +kernel
theorem fX6_earlier_25 : zf mX6_earlier 25 = some (.goto (-20), 3, 28) := by decide +kernel
theorem fX6_earlier_28 : zf mX6_earlier 28 = some (.iload_n 3, 1, 29) := by decide +kernel
theorem fX6_earlier_29 : zf mX6_earlier 29 = some (.ireturn, 1, 30) := by decide +kernel
theorem fX6_ancestorsOf_0 : zf mX6_ancestorsOf 0 = some (.iconst 0, 1, 1) := by decide +kernel
theorem fX6_ancestorsOf_1 : zf mX6_ancestorsOf 1 = some (.istore_n 2, 1, 2) := by decide +kernel
theorem fX6_ancestorsOf_2 : zf mX6_ancestorsOf 2 = some (.aload_n 0, 1, 3) := by decide +kernel
theorem fX6_ancestorsOf_3 : zf mX6_ancestorsOf 3 = some (.iload_n 1, 1, 4) := by decide +kernel
theorem fX6_ancestorsOf_4 : zf mX6_ancestorsOf 4 = some (.invokevirtual 72, 3, 7) := by decide +kernel
theorem fX6_ancestorsOf_7 : zf mX6_ancestorsOf 7 = some (.istore_n 3, 1, 8) := by decide +kernel
theorem fX6_ancestorsOf_8 : zf mX6_ancestorsOf 8 = some (.iload_n 2, 1, 9) := by decide +kernel
theorem fX6_ancestorsOf_9 : zf mX6_ancestorsOf 9 = some (.bipush 40, 2, 11) := by decide +kernel
theorem fX6_ancestorsOf_11 : zf mX6_ancestorsOf 11 = some (.if_icmp .ge 20, 3, 14) := by decide +kernel
theorem fX6_ancestorsOf_14 : zf mX6_ancestorsOf 14 = some (.iload_n 3, 1, 15) := by decide +kernel
theorem fX6_ancestorsOf_15 : zf mX6_ancestorsOf 15 = some (.iconst (-1), 1, 16) := by decide +kernel
theorem fX6_ancestorsOf_16 : zf mX6_ancestorsOf 16 = some (.if_icmp .eq 15, 3, 19) := by decide +kernel
theorem fX6_ancestorsOf_19 : zf mX6_ancestorsOf 19 = some (.iinc 2 1, 3, 22) := by decide +kernel
theorem fX6_ancestorsOf_22 : zf mX6_ancestorsOf 22 = some (.aload_n 0, 1, 23) := by decide +kernel
theorem fX6_ancestorsOf_23 : zf mX6_ancestorsOf 23 = some (.iload_n 3, 1, 24) := by decide +kernel
theorem fX6_ancestorsOf_24 : zf mX6_ancestorsOf 24 = some (.invokevirtual 72, 3, 27) := by decide +kernel
theorem fX6_ancestorsOf_27 : zf mX6_ancestorsOf 27 = some (.istore_n 3, 1, 28) := by decide +kernel
theorem fX6_ancestorsOf_28 : zf mX6_ancestorsOf 28 = some (.goto (-20), 3, 31) := by decide +kernel
theorem fX6_ancestorsOf_31 : zf mX6_ancestorsOf 31 = some (.iload_n 2, 1, 32) := by decide +kernel
theorem fX6_ancestorsOf_32 : zf mX6_ancestorsOf 32 = some (.ireturn, 1, 33) := by decide +kernel
theorem fX6_childrenOf_0 : zf mX6_childrenOf 0 = some (.iconst 0, 1, 1) := by decide +kernel
theorem fX6_childrenOf_1 : zf mX6_childrenOf 1 = some (.istore_n 2, 1, 2) := by decide +kernel
theorem fX6_childrenOf_2 : zf mX6_childrenOf 2 = some (.iconst 1, 1, 3) := by decide +kernel
theorem fX6_childrenOf_3 : zf mX6_childrenOf 3 = some (.istore_n 3, 1, 4) := by decide +kernel
theorem fX6_childrenOf_4 : zf mX6_childrenOf 4 = some (.iload_n 3, 1, 5) := by decide +kernel
theorem fX6_childrenOf_5 : zf mX6_childrenOf 5 = some (.aload_n 0, 1, 6) := by decide +kernel
theorem fX6_childrenOf_6 : zf mX6_childrenOf 6 = some (.getfield 9, 3, 9) := by decide +kernel
theorem fX6_childrenOf_9 : zf mX6_childrenOf 9 = some (.if_icmp .ge 21, 3, 12) := by decide +kernel
theorem fX6_childrenOf_12 : zf mX6_childrenOf 12 = some (.aload_n 0, 1, 13) := by decide +kernel
theorem fX6_childrenOf_13 : zf mX6_childrenOf 13 = some (.iload_n 3, 1, 14) := by decide +kernel
theorem fX6_childrenOf_14 : zf mX6_childrenOf 14 = some (.invokevirtual 72, 3, 17) := by decide +kernel
theorem fX6_childrenOf_17 : zf mX6_childrenOf 17 = some (.iload_n 1, 1, 18) := by decide +kernel
theorem fX6_childrenOf_18 : zf mX6_childrenOf 18 = some (.if_icmp .ne 6, 3, 21) := by decide +kernel
theorem fX6_childrenOf_21 : zf mX6_childrenOf 21 = some (.iinc 2 1, 3, 24) := by decide +kernel
theorem fX6_childrenOf_24 : zf mX6_childrenOf 24 = some (.iinc 3 1, 3, 27) := by decide +kernel
theorem fX6_childrenOf_27 : zf mX6_childrenOf 27 = some (.goto (-23), 3, 30) := by decide +kernel
theorem fX6_childrenOf_30 : zf mX6_childrenOf 30 = some (.iload_n 2, 1, 31) := by decide +kernel
theorem fX6_childrenOf_31 : zf mX6_childrenOf 31 = some (.ireturn, 1, 32) := by decide +kernel
theorem fX6_withoutChildren_0 : zf mX6_withoutChildren 0 = some (.iconst 0, 1, 1) := by decide +kernel
theorem fX6_withoutChildren_1 : zf mX6_withoutChildren 1 = some (.istore_n 1, 1, 2) := by decide +kernel
theorem fX6_withoutChildren_2 : zf mX6_withoutChildren 2 = some (.iconst 0, 1, 3) := by decide +kernel
theorem fX6_withoutChildren_3 : zf mX6_withoutChildren 3 = some (.istore_n 2, 1, 4) := by decide +kernel
theorem fX6_withoutChildren_4 : zf mX6_withoutChildren 4 = some (.iload_n 2, 1, 5) := by decide +kernel
theorem fX6_withoutChildren_5 : zf mX6_withoutChildren 5 = some (.aload_n 0, 1, 6) := by decide +kernel
theorem fX6_withoutChildren_6 : zf mX6_withoutChildren 6 = some (.getfield 9, 3, 9) := by decide +kernel
theorem fX6_withoutChildren_9 : zf mX6_withoutChildren 9 = some (.if_icmp .ge 20, 3, 12) := by decide +kernel
theorem fX6_withoutChildren_12 : zf mX6_withoutChildren 12 = some (.aload_n 0, 1, 13) := by decide +kernel
theorem fX6_withoutChildren_13 : zf mX6_withoutChildren 13 = some (.iload_n 2, 1, 14) := by decide +kernel
theorem fX6_withoutChildren_14 : zf mX6_withoutChildren 14 = some (.invokevirtual 76, 3, 17) := by decide +kernel
theorem fX6_withoutChildren_17 : zf mX6_withoutChildren 17 = some (.ifCond .ne 6, 3, 20) := by decide +kernel
theorem fX6_withoutChildren_20 : zf mX6_withoutChildren 20 = some (.iinc 1 1, 3, 23) := by decide +kernel
theorem fX6_withoutChildren_23 : zf mX6_withoutChildren 23 = some (.iinc 2 1, 3, 26) := by decide +kernel
theorem fX6_withoutChildren_26 : zf mX6_withoutChildren 26 = some (.goto (-22), 3, 29) := by decide +kernel
theorem fX6_withoutChildren_29 : zf mX6_withoutChildren 29 = some (.iload_n 1, 1, 30) := by decide +kernel
theorem fX6_withoutChildren_30 : zf mX6_withoutChildren 30 = some (.ireturn, 1, 31) := by decide +kernel
theorem fX6_pagesMadeBy_0 : zf mX6_pagesMadeBy 0 = some (.iconst 0, 1, 1) := by decide +kernel
theorem fX6_pagesMadeBy_1 : zf mX6_pagesMadeBy 1 = some (.istore_n 2, 1, 2) := by decide +kernel
theorem fX6_pagesMadeBy_2 : zf mX6_pagesMadeBy 2 = some (.iconst 0, 1, 3) := by decide +kernel
theorem fX6_pagesMadeBy_3 : zf mX6_pagesMadeBy 3 = some (.istore_n 3, 1, 4) := by decide +kernel
theorem fX6_pagesMadeBy_4 : zf mX6_pagesMadeBy 4 = some (.iload_n 3, 1, 5) := by decide +kernel
theorem fX6_pagesMadeBy_5 : zf mX6_pagesMadeBy 5 = some (.bipush 31, 2, 7) := by decide +kernel
theorem fX6_pagesMadeBy_7 : zf mX6_pagesMadeBy 7 = some (.if_icmp .ge 22, 3, 10) := by decide +kernel
theorem fX6_pagesMadeBy_10 : zf mX6_pagesMadeBy 10 = some (.aload_n 0, 1, 11) := by decide +kernel
theorem fX6_pagesMadeBy_11 : zf mX6_pagesMadeBy 11 = some (.iload_n 1, 1, 12) := by decide +kernel
theorem fX6_pagesMadeBy_12 : zf mX6_pagesMadeBy 12 = some (.iload_n 3, 1, 13) := by decide +kernel
theorem fX6_pagesMadeBy_13 : zf mX6_pagesMadeBy 13 = some (.invokevirtual 79, 3, 16) := by decide +kernel
theorem fX6_pagesMadeBy_16 : zf mX6_pagesMadeBy 16 = some (.iload_n 1, 1, 17) := by decide +kernel
theorem fX6_pagesMadeBy_17 : zf mX6_pagesMadeBy 17 = some (.if_icmp .ne 6, 3, 20) := by decide +kernel
theorem fX6_pagesMadeBy_20 : zf mX6_pagesMadeBy 20 = some (.iinc 2 1, 3, 23) := by decide +kernel
theorem fX6_pagesMadeBy_23 : zf mX6_pagesMadeBy 23 = some (.iinc 3 1, 3, 26) := by decide +kernel
theorem fX6_pagesMadeBy_26 : zf mX6_pagesMadeBy 26 = some (.goto (-22), 3, 29) := by decide +kernel
theorem fX6_pagesMadeBy_29 : zf mX6_pagesMadeBy 29 = some (.iload_n 2, 1, 30) := by decide +kernel
theorem fX6_pagesMadeBy_30 : zf mX6_pagesMadeBy 30 = some (.ireturn, 1, 31) := by decide +kernel
theorem fX6_pagesMade_0 : zf mX6_pagesMade 0 = some (.iconst 0, 1, 1) := by decide +kernel
theorem fX6_pagesMade_1 : zf mX6_pagesMade 1 = some (.istore_n 1, 1, 2) := by decide +kernel
theorem fX6_pagesMade_2 : zf mX6_pagesMade 2 = some (.iconst 0, 1, 3) := by decide +kernel
theorem fX6_pagesMade_3 : zf mX6_pagesMade 3 = some (.istore_n 2, 1, 4) := by decide +kernel
theorem fX6_pagesMade_4 : zf mX6_pagesMade 4 = some (.iload_n 2, 1, 5) := by decide +kernel
theorem fX6_pagesMade_5 : zf mX6_pagesMade 5 = some (.aload_n 0, 1, 6) := by decide +kernel
theorem fX6_pagesMade_6 : zf mX6_pagesMade 6 = some (.getfield 9, 3, 9) := by decide +kernel
theorem fX6_pagesMade_9 : zf mX6_pagesMade 9 = some (.if_icmp .ge 17, 3, 12) := by decide +kernel
theorem fX6_pagesMade_12 : zf mX6_pagesMade 12 = some (.iload_n 1, 1, 13) := by decide +kernel
theorem fX6_pagesMade_13 : zf mX6_pagesMade 13 = some (.aload_n 0, 1, 14) := by decide +kernel
theorem fX6_pagesMade_14 : zf mX6_pagesMade 14 = some (.iload_n 2, 1, 15) := by decide +kernel
theorem fX6_pagesMade_15 : zf mX6_pagesMade 15 = some (.invokevirtual 82, 3, 18) := by decide +kernel
theorem fX6_pagesMade_18 : zf mX6_pagesMade 18 = some (.iadd, 1, 19) := by decide +kernel
theorem fX6_pagesMade_19 : zf mX6_pagesMade 19 = some (.istore_n 1, 1, 20) := by decide +kernel
theorem fX6_pagesMade_20 : zf mX6_pagesMade 20 = some (.iinc 2 1, 3, 23) := by decide +kernel
theorem fX6_pagesMade_23 : zf mX6_pagesMade 23 = some (.goto (-19), 3, 26) := by decide +kernel
theorem fX6_pagesMade_26 : zf mX6_pagesMade 26 = some (.iload_n 1, 1, 27) := by decide +kernel
theorem fX6_pagesMade_27 : zf mX6_pagesMade 27 = some (.ireturn, 1, 28) := by decide +kernel
theorem fX6_linesNewIn_0 : zf mX6_linesNewIn 0 = some (.aload_n 0, 1, 1) := by decide +kernel
theorem fX6_linesNewIn_1 : zf mX6_linesNewIn 1 = some (.iload_n 1, 1, 2) := by decide +kernel
theorem fX6_linesNewIn_2 : zf mX6_linesNewIn 2 = some (.invokevirtual 72, 3, 5) := by decide +kernel
theorem fX6_linesNewIn_5 : zf mX6_linesNewIn 5 = some (.istore_n 2, 1, 6) := by decide +kernel
theorem fX6_linesNewIn_6 : zf mX6_linesNewIn 6 = some (.iload_n 2, 1, 7) := by decide +kernel
theorem fX6_linesNewIn_7 : zf mX6_linesNewIn 7 = some (.iconst (-1), 1, 8) := by decide +kernel
theorem fX6_linesNewIn_8 : zf mX6_linesNewIn 8 = some (.if_icmp .ne 7, 3, 11) := by decide +kernel
theorem fX6_linesNewIn_11 : zf mX6_linesNewIn 11 = some (.iconst 0, 1, 12) := by decide +kernel
theorem fX6_linesNewIn_12 : zf mX6_linesNewIn 12 = some (.goto 12, 3, 15) := by decide +kernel
theorem fX6_linesNewIn_15 : zf mX6_linesNewIn 15 = some (.aload_n 0, 1, 16) := by decide +kernel
theorem fX6_linesNewIn_16 : zf mX6_linesNewIn 16 = some (.iload_n 1, 1, 17) := by decide +kernel
theorem fX6_linesNewIn_17 : zf mX6_linesNewIn 17 = some (.iload_n 2, 1, 18) := by decide +kernel
theorem fX6_linesNewIn_18 : zf mX6_linesNewIn 18 = some (.iconst 0, 1, 19) := by decide +kernel
theorem fX6_linesNewIn_19 : zf mX6_linesNewIn 19 = some (.bipush 15, 2, 21) := by decide +kernel
theorem fX6_linesNewIn_21 : zf mX6_linesNewIn 21 = some (.invokevirtual 85, 3, 24) := by decide +kernel
theorem fX6_linesNewIn_24 : zf mX6_linesNewIn 24 = some (.ireturn, 1, 25) := by decide +kernel
theorem fX6_linesApart_0 : zf mX6_linesApart 0 = some (.iconst 0, 1, 1) := by decide +kernel
theorem fX6_linesApart_1 : zf mX6_linesApart 1 = some (.istore 5, 2, 3) := by decide +kernel
theorem fX6_linesApart_3 : zf mX6_linesApart 3 = some (.iconst 0, 1, 4) := by decide +kernel
theorem fX6_linesApart_4 : zf mX6_linesApart 4 = some (.istore 6, 2, 6) := by decide +kernel
theorem fX6_linesApart_6 : zf mX6_linesApart 6 = some (.iload 6, 2, 8) := by decide +kernel
theorem fX6_linesApart_8 : zf mX6_linesApart 8 = some (.bipush 16, 2, 10) := by decide +kernel
theorem fX6_linesApart_10 : zf mX6_linesApart 10 = some (.if_icmp .ge 42, 3, 13) := by decide +kernel
theorem fX6_linesApart_13 : zf mX6_linesApart 13 = some (.iload 6, 2, 15) := by decide +kernel
theorem fX6_linesApart_15 : zf mX6_linesApart 15 = some (.iload_n 3, 1, 16) := by decide +kernel
theorem fX6_linesApart_16 : zf mX6_linesApart 16 = some (.if_icmp .lt 30, 3, 19) := by decide +kernel
theorem fX6_linesApart_19 : zf mX6_linesApart 19 = some (.iload 6, 2, 21) := by decide +kernel
theorem fX6_linesApart_21 : zf mX6_linesApart 21 = some (.iload 4, 2, 23) := by decide +kernel
theorem fX6_linesApart_23 : zf mX6_linesApart 23 = some (.if_icmp .gt 23, 3, 26) := by decide +kernel
theorem fX6_linesApart_26 : zf mX6_linesApart 26 = some (.aload_n 0, 1, 27) := by decide +kernel
theorem fX6_linesApart_27 : zf mX6_linesApart 27 = some (.iload_n 1, 1, 28) := by decide +kernel
theorem fX6_linesApart_28 : zf mX6_linesApart 28 = some (.iload 6, 2, 30) := by decide +kernel
theorem fX6_linesApart_30 : zf mX6_linesApart 30 = some (.invokevirtual 69, 3, 33) := by decide +kernel
theorem fX6_linesApart_33 : zf mX6_linesApart 33 = some (.aload_n 0, 1, 34) := by decide +kernel
theorem fX6_linesApart_34 : zf mX6_linesApart 34 = some (.iload_n 2, 1, 35) := by decide +kernel
theorem fX6_linesApart_35 : zf mX6_linesApart 35 = some (.iload 6, 2, 37) := by decide +kernel
theorem fX6_linesApart_37 : zf mX6_linesApart 37 = some (.invokevirtual 69, 3, 40) := by decide +kernel
theorem fX6_linesApart_40 : zf mX6_linesApart 40 = some (.if_icmp .eq 6, 3, 43) := by decide +kernel
theorem fX6_linesApart_43 : zf mX6_linesApart 43 = some (.iinc 5 1, 3, 46) := by decide +kernel
theorem fX6_linesApart_46 : zf mX6_linesApart 46 = some (.iinc 6 1, 3, 49) := by decide +kernel
theorem fX6_linesApart_49 : zf mX6_linesApart 49 = some (.goto (-43), 3, 52) := by decide +kernel
theorem fX6_linesApart_52 : zf mX6_linesApart 52 = some (.iload 5, 2, 54) := by decide +kernel
theorem fX6_linesApart_54 : zf mX6_linesApart 54 = some (.ireturn, 1, 55) := by decide +kernel
theorem fX6_othersAlike_0 : zf mX6_othersAlike 0 = some (.iconst 0, 1, 1) := by decide +kernel
theorem fX6_othersAlike_1 : zf mX6_othersAlike 1 = some (.istore_n 2, 1, 2) := by decide +kernel
theorem fX6_othersAlike_2 : zf mX6_othersAlike 2 = some (.iconst 0, 1, 3) := by decide +kernel
theorem fX6_othersAlike_3 : zf mX6_othersAlike 3 = some (.istore_n 3, 1, 4) := by decide +kernel
theorem fX6_othersAlike_4 : zf mX6_othersAlike 4 = some (.iload_n 3, 1, 5) := by decide +kernel
theorem fX6_othersAlike_5 : zf mX6_othersAlike 5 = some (.aload_n 0, 1, 6) := by decide +kernel
theorem fX6_othersAlike_6 : zf mX6_othersAlike 6 = some (.getfield 9, 3, 9) := by decide +kernel
theorem fX6_othersAlike_9 : zf mX6_othersAlike 9 = some (.if_icmp .ge 29, 3, 12) := by decide +kernel
theorem fX6_othersAlike_12 : zf mX6_othersAlike 12 = some (.iload_n 3, 1, 13) := by decide +kernel
theorem fX6_othersAlike_13 : zf mX6_othersAlike 13 = some (.iload_n 1, 1, 14) := by decide +kernel
theorem fX6_othersAlike_14 : zf mX6_othersAlike 14 = some (.if_icmp .eq 18, 3, 17) := by decide +kernel
theorem fX6_othersAlike_17 : zf mX6_othersAlike 17 = some (.aload_n 0, 1, 18) := by decide +kernel
theorem fX6_othersAlike_18 : zf mX6_othersAlike 18 = some (.iload_n 1, 1, 19) := by decide +kernel
theorem fX6_othersAlike_19 : zf mX6_othersAlike 19 = some (.iload_n 3, 1, 20) := by decide +kernel
theorem fX6_othersAlike_20 : zf mX6_othersAlike 20 = some (.iconst 0, 1, 21) := by decide +kernel
theorem fX6_othersAlike_21 : zf mX6_othersAlike 21 = some (.bipush 15, 2, 23) := by decide +kernel
theorem fX6_othersAlike_23 : zf mX6_othersAlike 23 = some (.invokevirtual 85, 3, 26) := by decide +kernel
theorem fX6_othersAlike_26 : zf mX6_othersAlike 26 = some (.ifCond .ne 6, 3, 29) := by decide +kernel
theorem fX6_othersAlike_29 : zf mX6_othersAlike 29 = some (.iinc 2 1, 3, 32) := by decide +kernel
theorem fX6_othersAlike_32 : zf mX6_othersAlike 32 = some (.iinc 3 1, 3, 35) := by decide +kernel
theorem fX6_othersAlike_35 : zf mX6_othersAlike 35 = some (.goto (-31), 3, 38) := by decide +kernel
theorem fX6_othersAlike_38 : zf mX6_othersAlike 38 = some (.iload_n 2, 1, 39) := by decide +kernel
theorem fX6_othersAlike_39 : zf mX6_othersAlike 39 = some (.ireturn, 1, 40) := by decide +kernel
theorem fX6_latestByYear_0 : zf mX6_latestByYear 0 = some (.iload_n 1, 1, 1) := by decide +kernel
theorem fX6_latestByYear_1 : zf mX6_latestByYear 1 = some (.istore_n 3, 1, 2) := by decide +kernel
theorem fX6_latestByYear_2 : zf mX6_latestByYear 2 = some (.iconst 0, 1, 3) := by decide +kernel
theorem fX6_latestByYear_3 : zf mX6_latestByYear 3 = some (.istore 4, 2, 5) := by decide +kernel
theorem fX6_latestByYear_5 : zf mX6_latestByYear 5 = some (.iload 4, 2, 7) := by decide +kernel
theorem fX6_latestByYear_7 : zf mX6_latestByYear 7 = some (.bipush 40, 2, 9) := by decide +kernel
theorem fX6_latestByYear_9 : zf mX6_latestByYear 9 = some (.if_icmp .ge 28, 3, 12) := by decide +kernel
theorem fX6_latestByYear_12 : zf mX6_latestByYear 12 = some (.iload_n 3, 1, 13) := by decide +kernel
theorem fX6_latestByYear_13 : zf mX6_latestByYear 13 = some (.ifCond .le 24, 3, 16) := by decide +kernel
theorem fX6_latestByYear_16 : zf mX6_latestByYear 16 = some (.aload_n 0, 1, 17) := by decide +kernel
theorem fX6_latestByYear_17 : zf mX6_latestByYear 17 = some (.iload_n 3, 1, 18) := by decide +kernel
theorem fX6_latestByYear_18 : zf mX6_latestByYear 18 = some (.invokevirtual 89, 3, 21) := by decide +kernel
theorem fX6_latestByYear_21 : zf mX6_latestByYear 21 = some (.iload_n 2, 1, 22) := by decide +kernel
theorem fX6_latestByYear_22 : zf mX6_latestByYear 22 = some (.if_icmp .le 15, 3, 25) := by decide +kernel
theorem fX6_latestByYear_25 : zf mX6_latestByYear 25 = some (.aload_n 0, 1, 26) := by decide +kernel
theorem fX6_latestByYear_26 : zf mX6_latestByYear 26 = some (.iload_n 3, 1, 27) := by decide +kernel
theorem fX6_latestByYear_27 : zf mX6_latestByYear 27 = some (.invokevirtual 72, 3, 30) := by decide +kernel
theorem fX6_latestByYear_30 : zf mX6_latestByYear 30 = some (.istore_n 3, 1, 31) := by decide +kernel
theorem fX6_latestByYear_31 : zf mX6_latestByYear 31 = some (.iinc 4 1, 3, 34) := by decide +kernel
theorem fX6_latestByYear_34 : zf mX6_latestByYear 34 = some (.goto (-29), 3, 37) := by decide +kernel
theorem fX6_latestByYear_37 : zf mX6_latestByYear 37 = some (.iload_n 3, 1, 38) := by decide +kernel
theorem fX6_latestByYear_38 : zf mX6_latestByYear 38 = some (.ireturn, 1, 39) := by decide +kernel
theorem fX6_earliestWithAmountOf_0 : zf mX6_earliestWithAmountOf 0 = some (.aload_n 0, 1, 1) := by decide +kernel
theorem fX6_earliestWithAmountOf_1 : zf mX6_earliestWithAmountOf 1 = some (.iload_n 1, 1, 2) := by decide +kernel
theorem fX6_earliestWithAmountOf_2 : zf mX6_earliestWithAmountOf 2 = some (.iload_n 2, 1, 3) := by decide +kernel
theorem fX6_earliestWithAmountOf_3 : zf mX6_earliestWithAmountOf 3 = some (.invokevirtual 69, 3, 6) := by decide +kernel
theorem fX6_earliestWithAmountOf_6 : zf mX6_earliestWithAmountOf 6 = some (.istore_n 3, 1, 7) := by decide +kernel
theorem fX6_earliestWithAmountOf_7 : zf mX6_earliestWithAmountOf 7 = some (.iload_n 1, 1, 8) := by decide +kernel
theorem fX6_earliestWithAmountOf_8 : zf mX6_earliestWithAmountOf 8 = some (.istore 4, 2, 10) := by decide +kernel
theorem fX6_earliestWithAmountOf_10 : zf mX6_earliestWithAmountOf 10 = some (.aload_n 0, 1, 11) := by decide +kernel
theorem fX6_earliestWithAmountOf_11 : zf mX6_earliestWithAmountOf 11 = some (.iload_n 1, 1, 12) := by decide +kernel
theorem fX6_earliestWithAmountOf_12 : zf mX6_earliestWithAmountOf 12 = some (.invokevirtual 72, 3, 15) := by decide +kernel
theorem fX6_earliestWithAmountOf_15 : zf mX6_earliestWithAmountOf 15 = some (.istore 5, 2, 17) := by decide +kernel
theorem fX6_earliestWithAmountOf_17 : zf mX6_earliestWithAmountOf 17 = some (.iconst 0, 1, 18) := by decide +kernel
theorem fX6_earliestWithAmountOf_18 : zf mX6_earliestWithAmountOf 18 = some (.istore 6, 2, 20) := by decide +kernel
theorem fX6_earliestWithAmountOf_20 : zf mX6_earliestWithAmountOf 20 = some (.iload 6, 2, 22) := by decide +kernel
theorem fX6_earliestWithAmountOf_22 : zf mX6_earliestWithAmountOf 22 = some (.bipush 40, 2, 24) := by decide +kernel
theorem fX6_earliestWithAmountOf_24 : zf mX6_earliestWithAmountOf 24 = some (.if_icmp .ge 38, 3, 27) := by decide +kernel
theorem fX6_earliestWithAmountOf_27 : zf mX6_earliestWithAmountOf 27 = some (.iload 5, 2, 29) := by decide +kernel
theorem fX6_earliestWithAmountOf_29 : zf mX6_earliestWithAmountOf 29 = some (.iconst (-1), 1, 30) := by decide +kernel
theorem fX6_earliestWithAmountOf_30 : zf mX6_earliestWithAmountOf 30 = some (.if_icmp .eq 32, 3, 33) := by decide +kernel
theorem fX6_earliestWithAmountOf_33 : zf mX6_earliestWithAmountOf 33 = some (.aload_n 0, 1, 34) := by decide +kernel
theorem fX6_earliestWithAmountOf_34 : zf mX6_earliestWithAmountOf 34 = some (.iload 5, 2, 36) := by decide +kernel
theorem fX6_earliestWithAmountOf_36 : zf mX6_earliestWithAmountOf 36 = some (.iload_n 2, 1, 37) := by decide +kernel
theorem fX6_earliestWithAmountOf_37 : zf mX6_earliestWithAmountOf 37 = some (.invokevirtual 69, 3, 40) := by decide +kernel
theorem fX6_earliestWithAmountOf_40 : zf mX6_earliestWithAmountOf 40 = some (.iload_n 3, 1, 41) := by decide +kernel
theorem fX6_earliestWithAmountOf_41 : zf mX6_earliestWithAmountOf 41 = some (.if_icmp .ne 21, 3, 44) := by decide +kernel
theorem fX6_earliestWithAmountOf_44 : zf mX6_earliestWithAmountOf 44 = some (.iload 5, 2, 46) := by decide +kernel
theorem fX6_earliestWithAmountOf_46 : zf mX6_earliestWithAmountOf 46 = some (.istore 4, 2, 48) := by decide +kernel
theorem fX6_earliestWithAmountOf_48 : zf mX6_earliestWithAmountOf 48 = some (.aload_n 0, 1, 49) := by decide +kernel
theorem fX6_earliestWithAmountOf_49 : zf mX6_earliestWithAmountOf 49 = some (.iload 5, 2, 51) := by decide +kernel
theorem fX6_earliestWithAmountOf_51 : zf mX6_earliestWithAmountOf 51 = some (.invokevirtual 72, 3, 54) := by decide +kernel
theorem fX6_earliestWithAmountOf_54 : zf mX6_earliestWithAmountOf 54 = some (.istore 5, 2, 56) := by decide +kernel
theorem fX6_earliestWithAmountOf_56 : zf mX6_earliestWithAmountOf 56 = some (.iinc 6 1, 3, 59) := by decide +kernel
theorem fX6_earliestWithAmountOf_59 : zf mX6_earliestWithAmountOf 59 = some (.goto (-39), 3, 62) := by decide +kernel
theorem fX6_earliestWithAmountOf_62 : zf mX6_earliestWithAmountOf 62 = some (.iload 4, 2, 64) := by decide +kernel
theorem fX6_earliestWithAmountOf_64 : zf mX6_earliestWithAmountOf 64 = some (.ireturn, 1, 65) := by decide +kernel
theorem fX6_latestCommon_0 : zf mX6_latestCommon 0 = some (.iload_n 1, 1, 1) := by decide +kernel
theorem fX6_latestCommon_1 : zf mX6_latestCommon 1 = some (.istore_n 3, 1, 2) := by decide +kernel
theorem fX6_latestCommon_2 : zf mX6_latestCommon 2 = some (.iload_n 2, 1, 3) := by decide +kernel
theorem fX6_latestCommon_3 : zf mX6_latestCommon 3 = some (.istore 4, 2, 5) := by decide +kernel
theorem fX6_latestCommon_5 : zf mX6_latestCommon 5 = some (.iconst 0, 1, 6) := by decide +kernel
theorem fX6_latestCommon_6 : zf mX6_latestCommon 6 = some (.istore 5, 2, 8) := by decide +kernel
theorem fX6_latestCommon_8 : zf mX6_latestCommon 8 = some (.iload 5, 2, 10) := by decide +kernel
theorem fX6_latestCommon_10 : zf mX6_latestCommon 10 = some (.bipush 80, 2, 12) := by decide +kernel
theorem fX6_latestCommon_12 : zf mX6_latestCommon 12 = some (.if_icmp .ge 38, 3, 15) := by decide +kernel
theorem fX6_latestCommon_15 : zf mX6_latestCommon 15 = some (.iload_n 3, 1, 16) := by decide +kernel
theorem fX6_latestCommon_16 : zf mX6_latestCommon 16 = some (.iload 4, 2, 18) := by decide +kernel
theorem fX6_latestCommon_18 : zf mX6_latestCommon 18 = some (.if_icmp .eq 32, 3, 21) := by decide +kernel
theorem fX6_latestCommon_21 : zf mX6_latestCommon 21 = some (.iload_n 3, 1, 22) := by decide +kernel
theorem fX6_latestCommon_22 : zf mX6_latestCommon 22 = some (.iload 4, 2, 24) := by decide +kernel
theorem fX6_latestCommon_24 : zf mX6_latestCommon 24 = some (.if_icmp .le 12, 3, 27) := by decide +kernel
theorem fX6_latestCommon_27 : zf mX6_latestCommon 27 = some (.aload_n 0, 1, 28) := by decide +kernel
theorem fX6_latestCommon_28 : zf mX6_latestCommon 28 = some (.iload_n 3, 1, 29) := by decide +kernel
theorem fX6_latestCommon_29 : zf mX6_latestCommon 29 = some (.invokevirtual 72, 3, 32) := by decide +kernel
theorem fX6_latestCommon_32 : zf mX6_latestCommon 32 = some (.istore_n 3, 1, 33) := by decide +kernel
theorem fX6_latestCommon_33 : zf mX6_latestCommon 33 = some (.goto 11, 3, 36) := by decide +kernel
theorem fX6_latestCommon_36 : zf mX6_latestCommon 36 = some (.aload_n 0, 1, 37) := by decide +kernel
theorem fX6_latestCommon_37 : zf mX6_latestCommon 37 = some (.iload 4, 2, 39) := by decide +kernel
theorem fX6_latestCommon_39 : zf mX6_latestCommon 39 = some (.invokevirtual 72, 3, 42) := by decide +kernel
theorem fX6_latestCommon_42 : zf mX6_latestCommon 42 = some (.istore 4, 2, 44) := by decide +kernel
theorem fX6_latestCommon_44 : zf mX6_latestCommon 44 = some (.iinc 5 1, 3, 47) := by decide +kernel
theorem fX6_latestCommon_47 : zf mX6_latestCommon 47 = some (.goto (-39), 3, 50) := by decide +kernel
theorem fX6_latestCommon_50 : zf mX6_latestCommon 50 = some (.iload_n 3, 1, 51) := by decide +kernel
theorem fX6_latestCommon_51 : zf mX6_latestCommon 51 = some (.ireturn, 1, 52) := by decide +kernel
theorem fX6_pagesInBoth_0 : zf mX6_pagesInBoth 0 = some (.iconst 0, 1, 1) := by decide +kernel
theorem fX6_pagesInBoth_1 : zf mX6_pagesInBoth 1 = some (.istore_n 3, 1, 2) := by decide +kernel
theorem fX6_pagesInBoth_2 : zf mX6_pagesInBoth 2 = some (.iconst 0, 1, 3) := by decide +kernel
theorem fX6_pagesInBoth_3 : zf mX6_pagesInBoth 3 = some (.istore 4, 2, 5) := by decide +kernel
theorem fX6_pagesInBoth_5 : zf mX6_pagesInBoth 5 = some (.iload 4, 2, 7) := by decide +kernel
theorem fX6_pagesInBoth_7 : zf mX6_pagesInBoth 7 = some (.bipush 31, 2, 9) := by decide +kernel
theorem fX6_pagesInBoth_9 : zf mX6_pagesInBoth 9 = some (.if_icmp .ge 29, 3, 12) := by decide +kernel
theorem fX6_pagesInBoth_12 : zf mX6_pagesInBoth 12 = some (.aload_n 0, 1, 13) := by decide +kernel
theorem fX6_pagesInBoth_13 : zf mX6_pagesInBoth 13 = some (.iload_n 1, 1, 14) := by decide +kernel
theorem fX6_pagesInBoth_14 : zf mX6_pagesInBoth 14 = some (.iload 4, 2, 16) := by decide +kernel
theorem fX6_pagesInBoth_16 : zf mX6_pagesInBoth 16 = some (.invokevirtual 79, 3, 19) := by decide +kernel
theorem fX6_pagesInBoth_19 : zf mX6_pagesInBoth 19 = some (.aload_n 0, 1, 20) := by decide +kernel
theorem fX6_pagesInBoth_20 : zf mX6_pagesInBoth 20 = some (.iload_n 2, 1, 21) := by decide +kernel
theorem fX6_pagesInBoth_21 : zf mX6_pagesInBoth 21 = some (.iload 4, 2, 23) := by decide +kernel
theorem fX6_pagesInBoth_23 : zf mX6_pagesInBoth 23 = some (.invokevirtual 79, 3, 26) := by decide +kernel
theorem fX6_pagesInBoth_26 : zf mX6_pagesInBoth 26 = some (.if_icmp .ne 6, 3, 29) := by decide +kernel
theorem fX6_pagesInBoth_29 : zf mX6_pagesInBoth 29 = some (.iinc 3 1, 3, 32) := by decide +kernel
theorem fX6_pagesInBoth_32 : zf mX6_pagesInBoth 32 = some (.iinc 4 1, 3, 35) := by decide +kernel
theorem fX6_pagesInBoth_35 : zf mX6_pagesInBoth 35 = some (.goto (-30), 3, 38) := by decide +kernel
theorem fX6_pagesInBoth_38 : zf mX6_pagesInBoth 38 = some (.iload_n 3, 1, 39) := by decide +kernel
theorem fX6_pagesInBoth_39 : zf mX6_pagesInBoth 39 = some (.ireturn, 1, 40) := by decide +kernel
theorem fX6_usersOf_0 : zf mX6_usersOf 0 = some (.iconst 0, 1, 1) := by decide +kernel
theorem fX6_usersOf_1 : zf mX6_usersOf 1 = some (.istore_n 3, 1, 2) := by decide +kernel
theorem fX6_usersOf_2 : zf mX6_usersOf 2 = some (.iconst 0, 1, 3) := by decide +kernel
theorem fX6_usersOf_3 : zf mX6_usersOf 3 = some (.istore 4, 2, 5) := by decide +kernel
theorem fX6_usersOf_5 : zf mX6_usersOf 5 = some (.iload 4, 2, 7) := by decide +kernel
theorem fX6_usersOf_7 : zf mX6_usersOf 7 = some (.aload_n 0, 1, 8) := by decide +kernel
theorem fX6_usersOf_8 : zf mX6_usersOf 8 = some (.getfield 9, 3, 11) := by decide +kernel
theorem fX6_usersOf_11 : zf mX6_usersOf 11 = some (.if_icmp .ge 23, 3, 14) := by decide +kernel
theorem fX6_usersOf_14 : zf mX6_usersOf 14 = some (.aload_n 0, 1, 15) := by decide +kernel
theorem fX6_usersOf_15 : zf mX6_usersOf 15 = some (.iload 4, 2, 17) := by decide +kernel
theorem fX6_usersOf_17 : zf mX6_usersOf 17 = some (.iload_n 2, 1, 18) := by decide +kernel
theorem fX6_usersOf_18 : zf mX6_usersOf 18 = some (.invokevirtual 79, 3, 21) := by decide +kernel
theorem fX6_usersOf_21 : zf mX6_usersOf 21 = some (.iload_n 1, 1, 22) := by decide +kernel
theorem fX6_usersOf_22 : zf mX6_usersOf 22 = some (.if_icmp .ne 6, 3, 25) := by decide +kernel
theorem fX6_usersOf_25 : zf mX6_usersOf 25 = some (.iinc 3 1, 3, 28) := by decide +kernel
theorem fX6_usersOf_28 : zf mX6_usersOf 28 = some (.iinc 4 1, 3, 31) := by decide +kernel
theorem fX6_usersOf_31 : zf mX6_usersOf 31 = some (.goto (-26), 3, 34) := by decide +kernel
theorem fX6_usersOf_34 : zf mX6_usersOf 34 = some (.iload_n 3, 1, 35) := by decide +kernel
theorem fX6_usersOf_35 : zf mX6_usersOf 35 = some (.ireturn, 1, 36) := by decide +kernel
theorem fX6_atPlace_0 : zf mX6_atPlace 0 = some (.iconst 0, 1, 1) := by decide +kernel
theorem fX6_atPlace_1 : zf mX6_atPlace 1 = some (.istore_n 2, 1, 2) := by decide +kernel
theorem fX6_atPlace_2 : zf mX6_atPlace 2 = some (.iload_n 2, 1, 3) := by decide +kernel
theorem fX6_atPlace_3 : zf mX6_atPlace 3 = some (.aload_n 0, 1, 4) := by decide +kernel
theorem fX6_atPlace_4 : zf mX6_atPlace 4 = some (.getfield 9, 3, 7) := by decide +kernel
theorem fX6_atPlace_7 : zf mX6_atPlace 7 = some (.if_icmp .ge 20, 3, 10) := by decide +kernel
theorem fX6_atPlace_10 : zf mX6_atPlace 10 = some (.aload_n 0, 1, 11) := by decide +kernel
theorem fX6_atPlace_11 : zf mX6_atPlace 11 = some (.iload_n 2, 1, 12) := by decide +kernel
theorem fX6_atPlace_12 : zf mX6_atPlace 12 = some (.invokevirtual 92, 3, 15) := by decide +kernel
theorem fX6_atPlace_15 : zf mX6_atPlace 15 = some (.iload_n 1, 1, 16) := by decide +kernel
theorem fX6_atPlace_16 : zf mX6_atPlace 16 = some (.if_icmp .ne 5, 3, 19) := by decide +kernel
theorem fX6_atPlace_19 : zf mX6_atPlace 19 = some (.iload_n 2, 1, 20) := by decide +kernel
theorem fX6_atPlace_20 : zf mX6_atPlace 20 = some (.ireturn, 1, 21) := by decide +kernel
theorem fX6_atPlace_21 : zf mX6_atPlace 21 = some (.iinc 2 1, 3, 24) := by decide +kernel
theorem fX6_atPlace_24 : zf mX6_atPlace 24 = some (.goto (-22), 3, 27) := by decide +kernel
theorem fX6_atPlace_27 : zf mX6_atPlace 27 = some (.iconst (-1), 1, 28) := by decide +kernel
theorem fX6_atPlace_28 : zf mX6_atPlace 28 = some (.ireturn, 1, 29) := by decide +kernel
theorem fX6_versionsAheadOf_0 : zf mX6_versionsAheadOf 0 = some (.aload_n 0, 1, 1) := by decide +kernel
theorem fX6_versionsAheadOf_1 : zf mX6_versionsAheadOf 1 = some (.iload_n 1, 1, 2) := by decide +kernel
theorem fX6_versionsAheadOf_2 : zf mX6_versionsAheadOf 2 = some (.iconst 0, 1, 3) := by decide +kernel
theorem fX6_versionsAheadOf_3 : zf mX6_versionsAheadOf 3 = some (.invokevirtual 41, 3, 6) := by decide +kernel
theorem fX6_versionsAheadOf_6 : zf mX6_versionsAheadOf 6 = some (.istore_n 2, 1, 7) := by decide +kernel
theorem fX6_versionsAheadOf_7 : zf mX6_versionsAheadOf 7 = some (.iconst 0, 1, 8) := by decide +kernel
theorem fX6_versionsAheadOf_8 : zf mX6_versionsAheadOf 8 = some (.istore_n 3, 1, 9) := by decide +kernel
theorem fX6_versionsAheadOf_9 : zf mX6_versionsAheadOf 9 = some (.iconst 0, 1, 10) := by decide +kernel
theorem fX6_versionsAheadOf_10 : zf mX6_versionsAheadOf 10 = some (.istore 4, 2, 12) := by decide +kernel
theorem fX6_versionsAheadOf_12 : zf mX6_versionsAheadOf 12 = some (.iload 4, 2, 14) := by decide +kernel
theorem fX6_versionsAheadOf_14 : zf mX6_versionsAheadOf 14 = some (.aload_n 0, 1, 15) := by decide +kernel
theorem fX6_versionsAheadOf_15 : zf mX6_versionsAheadOf 15 = some (.getfield 9, 3, 18) := by decide +kernel
theorem fX6_versionsAheadOf_18 : zf mX6_versionsAheadOf 18 = some (.if_icmp .ge 39, 3, 21) := by decide +kernel
theorem fX6_versionsAheadOf_21 : zf mX6_versionsAheadOf 21 = some (.aload_n 0, 1, 22) := by decide +kernel
theorem fX6_versionsAheadOf_22 : zf mX6_versionsAheadOf 22 = some (.iload 4, 2, 24) := by decide +kernel
theorem fX6_versionsAheadOf_24 : zf mX6_versionsAheadOf 24 = some (.iconst 0, 1, 25) := by decide +kernel
theorem fX6_versionsAheadOf_25 : zf mX6_versionsAheadOf 25 = some (.invokevirtual 41, 3, 28) := by decide +kernel
theorem fX6_versionsAheadOf_28 : zf mX6_versionsAheadOf 28 = some (.istore 5, 2, 30) := by decide +kernel
theorem fX6_versionsAheadOf_30 : zf mX6_versionsAheadOf 30 = some (.iload 5, 2, 32) := by decide +kernel
theorem fX6_versionsAheadOf_32 : zf mX6_versionsAheadOf 32 = some (.iload_n 2, 1, 33) := by decide +kernel
theorem fX6_versionsAheadOf_33 : zf mX6_versionsAheadOf 33 = some (.if_icmp .gt 15, 3, 36) := by decide +kernel
theorem fX6_versionsAheadOf_36 : zf mX6_versionsAheadOf 36 = some (.iload 5, 2, 38) := by decide +kernel
theorem fX6_versionsAheadOf_38 : zf mX6_versionsAheadOf 38 = some (.iload_n 2, 1, 39) := by decide +kernel
theorem fX6_versionsAheadOf_39 : zf mX6_versionsAheadOf 39 = some (.if_icmp .ne 12, 3, 42) := by decide +kernel
theorem fX6_versionsAheadOf_42 : zf mX6_versionsAheadOf 42 = some (.iload 4, 2, 44) := by decide +kernel
theorem fX6_versionsAheadOf_44 : zf mX6_versionsAheadOf 44 = some (.iload_n 1, 1, 45) := by decide +kernel
theorem fX6_versionsAheadOf_45 : zf mX6_versionsAheadOf 45 = some (.if_icmp .le 6, 3, 48) := by decide +kernel
theorem fX6_versionsAheadOf_48 : zf mX6_versionsAheadOf 48 = some (.iinc 3 1, 3, 51) := by decide +kernel
theorem fX6_versionsAheadOf_51 : zf mX6_versionsAheadOf 51 = some (.iinc 4 1, 3, 54) := by decide +kernel
theorem fX6_versionsAheadOf_54 : zf mX6_versionsAheadOf 54 = some (.goto (-42), 3, 57) := by decide +kernel
theorem fX6_versionsAheadOf_57 : zf mX6_versionsAheadOf 57 = some (.iload_n 3, 1, 58) := by decide +kernel
theorem fX6_versionsAheadOf_58 : zf mX6_versionsAheadOf 58 = some (.ireturn, 1, 59) := by decide +kernel
theorem fX6_withMostPagesOfOthers_0 : zf mX6_withMostPagesOfOthers 0 = some (.iconst 1, 1, 1) := by decide +kernel
theorem fX6_withMostPagesOfOthers_1 : zf mX6_withMostPagesOfOthers 1 = some (.istore_n 1, 1, 2) := by decide +kernel
theorem fX6_withMostPagesOfOthers_2 : zf mX6_withMostPagesOfOthers 2 = some (.iconst 0, 1, 3) := by decide +kernel
theorem fX6_withMostPagesOfOthers_3 : zf mX6_withMostPagesOfOthers 3 = some (.istore_n 2, 1, 4) := by decide +kernel
theorem fX6_withMostPagesOfOthers_4 : zf mX6_withMostPagesOfOthers 4 = some (.iconst 1, 1, 5) := by decide +kernel
theorem fX6_withMostPagesOfOthers_5 : zf mX6_withMostPagesOfOthers 5 = some (.istore_n 3, 1, 6) := by decide +kernel
theorem fX6_withMostPagesOfOthers_6 : zf mX6_withMostPagesOfOthers 6 = some (.iload_n 3, 1, 7) := by decide +kernel
theorem fX6_withMostPagesOfOthers_7 : zf mX6_withMostPagesOfOthers 7 = some (.aload_n 0, 1, 8) := by decide +kernel
theorem fX6_withMostPagesOfOthers_8 : zf mX6_withMostPagesOfOthers 8 = some (.getfield 9, 3, 11) := by decide +kernel
theorem fX6_withMostPagesOfOthers_11 : zf mX6_withMostPagesOfOthers 11 = some (.if_icmp .ge 27, 3, 14) := by decide +kernel
theorem fX6_withMostPagesOfOthers_14 : zf mX6_withMostPagesOfOthers 14 = some (.aload_n 0, 1, 15) := by decide +kernel
theorem fX6_withMostPagesOfOthers_15 : zf mX6_withMostPagesOfOthers 15 = some (.iload_n 3, 1, 16) := by decide +kernel
theorem fX6_withMostPagesOfOthers_16 : zf mX6_withMostPagesOfOthers 16 = some (.invokevirtual 95, 3, 19) := by decide +kernel
theorem fX6_withMostPagesOfOthers_19 : zf mX6_withMostPagesOfOthers 19 = some (.istore 4, 2, 21) := by decide +kernel
theorem fX6_withMostPagesOfOthers_21 : zf mX6_withMostPagesOfOthers 21 = some (.iload 4, 2, 23) := by decide +kernel
theorem fX6_withMostPagesOfOthers_23 : zf mX6_withMostPagesOfOthers 23 = some (.iload_n 2, 1, 24) := by decide +kernel
theorem fX6_withMostPagesOfOthers_24 : zf mX6_withMostPagesOfOthers 24 = some (.if_icmp .le 8, 3, 27) := by decide +kernel
theorem fX6_withMostPagesOfOthers_27 : zf mX6_withMostPagesOfOthers 27 = some (.iload_n 3, 1, 28) := by decide +kernel
theorem fX6_withMostPagesOfOthers_28 : zf mX6_withMostPagesOfOthers 28 = some (.istore_n 1, 1, 29) := by decide +kernel
theorem fX6_withMostPagesOfOthers_29 : zf mX6_withMostPagesOfOthers 29 = some (.iload 4, 2, 31) := by decide +kernel
theorem fX6_withMostPagesOfOthers_31 : zf mX6_withMostPagesOfOthers 31 = some (.istore_n 2, 1, 32) := by decide +kernel
theorem fX6_withMostPagesOfOthers_32 : zf mX6_withMostPagesOfOthers 32 = some (.iinc 3 1, 3, 35) := by decide +kernel
theorem fX6_withMostPagesOfOthers_35 : zf mX6_withMostPagesOfOthers 35 = some (.goto (-29), 3, 38) := by decide +kernel
theorem fX6_withMostPagesOfOthers_38 : zf mX6_withMostPagesOfOthers 38 = some (.iload_n 1, 1, 39) := by decide +kernel
theorem fX6_withMostPagesOfOthers_39 : zf mX6_withMostPagesOfOthers 39 = some (.ireturn, 1, 40) := by decide +kernel
theorem fX6_pagesOfOthersMadeBy_0 : zf mX6_pagesOfOthersMadeBy 0 = some (.iconst 0, 1, 1) := by decide +kernel
theorem fX6_pagesOfOthersMadeBy_1 : zf mX6_pagesOfOthersMadeBy 1 = some (.istore_n 2, 1, 2) := by decide +kernel
theorem fX6_pagesOfOthersMadeBy_2 : zf mX6_pagesOfOthersMadeBy 2 = some (.iconst 0, 1, 3) := by decide +kernel
theorem fX6_pagesOfOthersMadeBy_3 : zf mX6_pagesOfOthersMadeBy 3 = some (.istore_n 3, 1, 4) := by decide +kernel
theorem fX6_pagesOfOthersMadeBy_4 : zf mX6_pagesOfOthersMadeBy 4 = some (.iload_n 3, 1, 5) := by decide +kernel
theorem fX6_pagesOfOthersMadeBy_5 : zf mX6_pagesOfOthersMadeBy 5 = some (.bipush 31, 2, 7) := by decide +kernel
theorem fX6_pagesOfOthersMadeBy_7 : zf mX6_pagesOfOthersMadeBy 7 = some (.if_icmp .ge 32, 3, 10) := by decide +kernel
theorem fX6_pagesOfOthersMadeBy_10 : zf mX6_pagesOfOthersMadeBy 10 = some (.aload_n 0, 1, 11) := by decide +kernel
theorem fX6_pagesOfOthersMadeBy_11 : zf mX6_pagesOfOthersMadeBy 11 = some (.iload_n 1, 1, 12) := by decide +kernel
theorem fX6_pagesOfOthersMadeBy_12 : zf mX6_pagesOfOthersMadeBy 12 = some (.iload_n 3, 1, 13) := by decide +kernel
theorem fX6_pagesOfOthersMadeBy_13 : zf mX6_pagesOfOthersMadeBy 13 = some (.invokevirtual 79, 3, 16) := by decide +kernel
theorem fX6_pagesOfOthersMadeBy_16 : zf mX6_pagesOfOthersMadeBy 16 = some (.iload_n 1, 1, 17) := by decide +kernel
theorem fX6_pagesOfOthersMadeBy_17 : zf mX6_pagesOfOthersMadeBy 17 = some (.if_icmp .ne 16, 3, 20) := by decide +kernel
theorem fX6_pagesOfOthersMadeBy_20 : zf mX6_pagesOfOthersMadeBy 20 = some (.aload_n 0, 1, 21) := by decide +kernel
theorem fX6_pagesOfOthersMadeBy_21 : zf mX6_pagesOfOthersMadeBy 21 = some (.iload_n 1, 1, 22) := by decide +kernel
theorem fX6_pagesOfOthersMadeBy_22 : zf mX6_pagesOfOthersMadeBy 22 = some (.iload_n 3, 1, 23) := by decide +kernel
theorem fX6_pagesOfOthersMadeBy_23 : zf mX6_pagesOfOthersMadeBy 23 = some (.invokevirtual 98, 3, 26) := by decide +kernel
theorem fX6_pagesOfOthersMadeBy_26 : zf mX6_pagesOfOthersMadeBy 26 = some (.iconst 1, 1, 27) := by decide +kernel
theorem fX6_pagesOfOthersMadeBy_27 : zf mX6_pagesOfOthersMadeBy 27 = some (.if_icmp .le 6, 3, 30) := by decide +kernel
theorem fX6_pagesOfOthersMadeBy_30 : zf mX6_pagesOfOthersMadeBy 30 = some (.iinc 2 1, 3, 33) := by decide +kernel
theorem fX6_pagesOfOthersMadeBy_33 : zf mX6_pagesOfOthersMadeBy 33 = some (.iinc 3 1, 3, 36) := by decide +kernel
theorem fX6_pagesOfOthersMadeBy_36 : zf mX6_pagesOfOthersMadeBy 36 = some (.goto (-32), 3, 39) := by decide +kernel
theorem fX6_pagesOfOthersMadeBy_39 : zf mX6_pagesOfOthersMadeBy 39 = some (.iload_n 2, 1, 40) := by decide +kernel
theorem fX6_pagesOfOthersMadeBy_40 : zf mX6_pagesOfOthersMadeBy 40 = some (.ireturn, 1, 41) := by decide +kernel
theorem fX7_init_0 : zf mX7_init 0 = some (.aload_n 0, 1, 1) := by decide +kernel
theorem fX7_init_1 : zf mX7_init 1 = some (.invokespecial 1, 3, 4) := by decide +kernel
theorem fX7_init_4 : zf mX7_init 4 = some (.aload_n 0, 1, 5) := by decide +kernel
theorem fX7_init_5 : zf mX7_init 5 = some (.new 7, 3, 8) := by decide +kernel
theorem fX7_init_8 : zf mX7_init 8 = some (.dup, 1, 9) := by decide +kernel
theorem fX7_init_9 : zf mX7_init 9 = some (.invokespecial 9, 3, 12) := by decide +kernel
theorem fX7_init_12 : zf mX7_init 12 = some (.putfield 10, 3, 15) := by decide +kernel
theorem fX7_init_15 : zf mX7_init 15 = some (.aload_n 0, 1, 16) := by decide +kernel
theorem fX7_init_16 : zf mX7_init 16 = some (.aload_n 0, 1, 17) := by decide +kernel
theorem fX7_init_17 : zf mX7_init 17 = some (.getfield 10, 3, 20) := by decide +kernel
theorem fX7_init_20 : zf mX7_init 20 = some (.getfield 16, 3, 23) := by decide +kernel
theorem fX7_init_23 : zf mX7_init 23 = some (.putfield 20, 3, 26) := by decide +kernel
theorem fX7_init_26 : zf mX7_init 26 = some (.aload_n 0, 1, 27) := by decide +kernel
theorem fX7_init_27 : zf mX7_init 27 = some (.aload_n 0, 1, 28) := by decide +kernel
theorem fX7_init_28 : zf mX7_init 28 = some (.getfield 10, 3, 31) := by decide +kernel
theorem fX7_init_31 : zf mX7_init 31 = some (.getfield 21, 3, 34) := by decide +kernel
theorem fX7_init_34 : zf mX7_init 34 = some (.putfield 25, 3, 37) := by decide +kernel
theorem fX7_init_37 : zf mX7_init 37 = some (.aload_n 0, 1, 38) := by decide +kernel
theorem fX7_init_38 : zf mX7_init 38 = some (.aload_n 0, 1, 39) := by decide +kernel
theorem fX7_init_39 : zf mX7_init 39 = some (.getfield 25, 3, 42) := by decide +kernel
theorem fX7_init_42 : zf mX7_init 42 = some (.getfield 26, 3, 45) := by decide +kernel
theorem fX7_init_45 : zf mX7_init 45 = some (.putfield 32, 3, 48) := by decide +kernel
theorem fX7_init_48 : zf mX7_init 48 = some (.aload_n 0, 1, 49) := by decide +kernel
theorem fX7_init_49 : zf mX7_init 49 = some (.new 27, 3, 52) := by decide +kernel
theorem fX7_init_52 : zf mX7_init 52 = some (.dup, 1, 53) := by decide +kernel
theorem fX7_init_53 : zf mX7_init 53 = some (.invokespecial 33, 3, 56) := by decide +kernel
theorem fX7_init_56 : zf mX7_init 56 = some (.putfield 34, 3, 59) := by decide +kernel
theorem fX7_init_59 : zf mX7_init 59 = some (.aload_n 0, 1, 60) := by decide +kernel
theorem fX7_init_60 : zf mX7_init 60 = some (.iconst 0, 1, 61) := by decide +kernel
theorem fX7_init_61 : zf mX7_init 61 = some (.putfield 37, 3, 64) := by decide +kernel
theorem fX7_init_64 : zf mX7_init 64 = some (.aload_n 0, 1, 65) := by decide +kernel
theorem fX7_init_65 : zf mX7_init 65 = some (.new 41, 3, 68) := by decide +kernel
theorem fX7_init_68 : zf mX7_init 68 = some (.dup, 1, 69) := by decide +kernel
theorem fX7_init_69 : zf mX7_init 69 = some (.invokespecial 43, 3, 72) := by decide +kernel
theorem fX7_init_72 : zf mX7_init 72 = some (.putfield 44, 3, 75) := by decide +kernel
theorem fX7_init_75 : zf mX7_init 75 = some (.aload_n 0, 1, 76) := by decide +kernel
theorem fX7_init_76 : zf mX7_init 76 = some (.new 48, 3, 79) := by decide +kernel
theorem fX7_init_79 : zf mX7_init 79 = some (.dup, 1, 80) := by decide +kernel
theorem fX7_init_80 : zf mX7_init 80 = some (.invokespecial 50, 3, 83) := by decide +kernel
theorem fX7_init_83 : zf mX7_init 83 = some (.putfield 51, 3, 86) := by decide +kernel
theorem fX7_init_86 : zf mX7_init 86 = some (.aload_n 0, 1, 87) := by decide +kernel
theorem fX7_init_87 : zf mX7_init 87 = some (.iconst (-1), 1, 88) := by decide +kernel
theorem fX7_init_88 : zf mX7_init 88 = some (.putfield 55, 3, 91) := by decide +kernel
theorem fX7_init_91 : zf mX7_init 91 = some (.aload_n 0, 1, 92) := by decide +kernel
theorem fX7_init_92 : zf mX7_init 92 = some (.new 59, 3, 95) := by decide +kernel
theorem fX7_init_95 : zf mX7_init 95 = some (.dup, 1, 96) := by decide +kernel
theorem fX7_init_96 : zf mX7_init 96 = some (.invokespecial 61, 3, 99) := by decide +kernel
theorem fX7_init_99 : zf mX7_init 99 = some (.putfield 62, 3, 102) := by decide +kernel
theorem fX7_init_102 : zf mX7_init 102 = some (.return_, 1, 103) := by decide +kernel
theorem fX7_write_0 : zf mX7_write 0 = some (.aload_n 0, 1, 1) := by decide +kernel
theorem fX7_write_1 : zf mX7_write 1 = some (.getfield 44, 3, 4) := by decide +kernel
theorem fX7_write_4 : zf mX7_write 4 = some (.aload_n 0, 1, 5) := by decide +kernel
theorem fX7_write_5 : zf mX7_write 5 = some (.getfield 25, 3, 8) := by decide +kernel
theorem fX7_write_8 : zf mX7_write 8 = some (.invokevirtual 66, 3, 11) := by decide +kernel
theorem fX7_write_11 : zf mX7_write 11 = some (.aload_n 0, 1, 12) := by decide +kernel
theorem fX7_write_12 : zf mX7_write 12 = some (.aload_n 0, 1, 13) := by decide +kernel
theorem fX7_write_13 : zf mX7_write 13 = some (.getfield 10, 3, 16) := by decide +kernel
theorem fX7_write_16 : zf mX7_write 16 = some (.iload_n 1, 1, 17) := by decide +kernel
theorem fX7_write_17 : zf mX7_write 17 = some (.iload_n 2, 1, 18) := by decide +kernel
theorem fX7_write_18 : zf mX7_write 18 = some (.iload_n 3, 1, 19) := by decide +kernel
theorem fX7_write_19 : zf mX7_write 19 = some (.invokevirtual 70, 3, 22) := by decide +kernel
theorem fX7_write_22 : zf mX7_write 22 = some (.invokevirtual 74, 3, 25) := by decide +kernel
theorem fX7_write_25 : zf mX7_write 25 = some (.ireturn, 1, 26) := by decide +kernel
theorem fX7_graft_0 : zf mX7_graft 0 = some (.aload_n 0, 1, 1) := by decide +kernel
theorem fX7_graft_1 : zf mX7_graft 1 = some (.getfield 44, 3, 4) := by decide +kernel
theorem fX7_graft_4 : zf mX7_graft 4 = some (.aload_n 0, 1, 5) := by decide +kernel
theorem fX7_graft_5 : zf mX7_graft 5 = some (.getfield 25, 3, 8) := by decide +kernel
theorem fX7_graft_8 : zf mX7_graft 8 = some (.invokevirtual 66, 3, 11) := by decide +kernel
theorem fX7_graft_11 : zf mX7_graft 11 = some (.aload_n 0, 1, 12) := by decide +kernel
theorem fX7_graft_12 : zf mX7_graft 12 = some (.aload_n 0, 1, 13) := by decide +kernel
theorem fX7_graft_13 : zf mX7_graft 13 = some (.getfield 10, 3, 16) := by decide +kernel
theorem fX7_graft_16 : zf mX7_graft 16 = some (.iload_n 1, 1, 17) := by decide +kernel
theorem fX7_graft_17 : zf mX7_graft 17 = some (.iload_n 2, 1, 18) := by decide +kernel
theorem fX7_graft_18 : zf mX7_graft 18 = some (.iload_n 3, 1, 19) := by decide +kernel
theorem fX7_graft_19 : zf mX7_graft 19 = some (.iload 4, 2, 21) := by decide +kernel
theorem fX7_graft_21 : zf mX7_graft 21 = some (.invokevirtual 78, 3, 24) := by decide +kernel
theorem fX7_graft_24 : zf mX7_graft 24 = some (.invokevirtual 74, 3, 27) := by decide +kernel
theorem fX7_graft_27 : zf mX7_graft 27 = some (.ireturn, 1, 28) := by decide +kernel
theorem fX7_fork_0 : zf mX7_fork 0 = some (.aload_n 0, 1, 1) := by decide +kernel
theorem fX7_fork_1 : zf mX7_fork 1 = some (.getfield 44, 3, 4) := by decide +kernel
theorem fX7_fork_4 : zf mX7_fork 4 = some (.aload_n 0, 1, 5) := by decide +kernel
theorem fX7_fork_5 : zf mX7_fork 5 = some (.getfield 25, 3, 8) := by decide +kernel
theorem fX7_fork_8 : zf mX7_fork 8 = some (.invokevirtual 66, 3, 11) := by decide +kernel
theorem fX7_fork_11 : zf mX7_fork 11 = some (.aload_n 0, 1, 12) := by decide +kernel
theorem fX7_fork_12 : zf mX7_fork 12 = some (.aload_n 0, 1, 13) := by decide +kernel
theorem fX7_fork_13 : zf mX7_fork 13 = some (.getfield 10, 3, 16) := by decide +kernel
theorem fX7_fork_16 : zf mX7_fork 16 = some (.iload_n 1, 1, 17) := by decide +kernel
theorem fX7_fork_17 : zf mX7_fork 17 = some (.iload_n 2, 1, 18) := by decide +kernel
theorem fX7_fork_18 : zf mX7_fork 18 = some (.invokevirtual 82, 3, 21) := by decide +kernel
theorem fX7_fork_21 : zf mX7_fork 21 = some (.invokevirtual 74, 3, 24) := by decide +kernel
theorem fX7_fork_24 : zf mX7_fork 24 = some (.ireturn, 1, 25) := by decide +kernel
theorem fX7_back_0 : zf mX7_back 0 = some (.aload_n 0, 1, 1) := by decide +kernel
theorem fX7_back_1 : zf mX7_back 1 = some (.getfield 44, 3, 4) := by decide +kernel
theorem fX7_back_4 : zf mX7_back 4 = some (.aload_n 0, 1, 5) := by decide +kernel
theorem fX7_back_5 : zf mX7_back 5 = some (.getfield 25, 3, 8) := by decide +kernel
theorem fX7_back_8 : zf mX7_back 8 = some (.invokevirtual 66, 3, 11) := by decide +kernel
theorem fX7_back_11 : zf mX7_back 11 = some (.aload_n 0, 1, 12) := by decide +kernel
theorem fX7_back_12 : zf mX7_back 12 = some (.aload_n 0, 1, 13) := by decide +kernel
theorem fX7_back_13 : zf mX7_back 13 = some (.getfield 10, 3, 16) := by decide +kernel
theorem fX7_back_16 : zf mX7_back 16 = some (.iload_n 1, 1, 17) := by decide +kernel
theorem fX7_back_17 : zf mX7_back 17 = some (.iload_n 2, 1, 18) := by decide +kernel
theorem fX7_back_18 : zf mX7_back 18 = some (.invokevirtual 86, 3, 21) := by decide +kernel
theorem fX7_back_21 : zf mX7_back 21 = some (.invokevirtual 74, 3, 24) := by decide +kernel
theorem fX7_back_24 : zf mX7_back 24 = some (.ireturn, 1, 25) := by decide +kernel
theorem fX7_pass_0 : zf mX7_pass 0 = some (.aload_n 0, 1, 1) := by decide +kernel
theorem fX7_pass_1 : zf mX7_pass 1 = some (.getfield 44, 3, 4) := by decide +kernel
theorem fX7_pass_4 : zf mX7_pass 4 = some (.aload_n 0, 1, 5) := by decide +kernel
theorem fX7_pass_5 : zf mX7_pass 5 = some (.getfield 25, 3, 8) := by decide +kernel
theorem fX7_pass_8 : zf mX7_pass 8 = some (.invokevirtual 66, 3, 11) := by decide +kernel
theorem fX7_pass_11 : zf mX7_pass 11 = some (.aload_n 0, 1, 12) := by decide +kernel
theorem fX7_pass_12 : zf mX7_pass 12 = some (.aload_n 0, 1, 13) := by decide +kernel
theorem fX7_pass_13 : zf mX7_pass 13 = some (.getfield 10, 3, 16) := by decide +kernel
theorem fX7_pass_16 : zf mX7_pass 16 = some (.iload_n 1, 1, 17) := by decide +kernel
theorem fX7_pass_17 : zf mX7_pass 17 = some (.invokevirtual 89, 3, 20) := by decide +kernel
theorem fX7_pass_20 : zf mX7_pass 20 = some (.invokevirtual 74, 3, 23) := by decide +kernel
theorem fX7_pass_23 : zf mX7_pass 23 = some (.ireturn, 1, 24) := by decide +kernel
theorem fX7_ledger_0 : zf mX7_ledger 0 = some (.iload_n 1, 1, 1) := by decide +kernel
theorem fX7_ledger_1 : zf mX7_ledger 1 = some (.invokestatic 92, 3, 4) := by decide +kernel
theorem fX7_ledger_4 : zf mX7_ledger 4 = some (.aload_n 0, 1, 5) := by decide +kernel
theorem fX7_ledger_5 : zf mX7_ledger 5 = some (.getfield 25, 3, 8) := by decide +kernel
theorem fX7_ledger_8 : zf mX7_ledger 8 = some (.iload_n 1, 1, 9) := by decide +kernel
theorem fX7_ledger_9 : zf mX7_ledger 9 = some (.invokevirtual 96, 3, 12) := by decide +kernel
theorem fX7_ledger_12 : zf mX7_ledger 12 = some (.ireturn, 1, 13) := by decide +kernel
theorem fX7_amount_0 : zf mX7_amount 0 = some (.aload_n 0, 1, 1) := by decide +kernel
theorem fX7_amount_1 : zf mX7_amount 1 = some (.iload_n 1, 1, 2) := by decide +kernel
theorem fX7_amount_2 : zf mX7_amount 2 = some (.invokevirtual 99, 3, 5) := by decide +kernel
theorem fX7_amount_5 : zf mX7_amount 5 = some (.iload_n 2, 1, 6) := by decide +kernel
theorem fX7_amount_6 : zf mX7_amount 6 = some (.iload_n 2, 1, 7) := by decide +kernel
theorem fX7_amount_7 : zf mX7_amount 7 = some (.invokestatic 102, 3, 10) := by decide +kernel
theorem fX7_amount_10 : zf mX7_amount 10 = some (.aload_n 0, 1, 11) := by decide +kernel
theorem fX7_amount_11 : zf mX7_amount 11 = some (.getfield 32, 3, 14) := by decide +kernel
theorem fX7_amount_14 : zf mX7_amount 14 = some (.iload_n 1, 1, 15) := by decide +kernel
theorem fX7_amount_15 : zf mX7_amount 15 = some (.iload_n 2, 1, 16) := by decide +kernel
theorem fX7_amount_16 : zf mX7_amount 16 = some (.invokevirtual 106, 3, 19) := by decide +kernel
theorem fX7_amount_19 : zf mX7_amount 19 = some (.ireturn, 1, 20) := by decide +kernel
theorem fX7_sum_0 : zf mX7_sum 0 = some (.aload_n 0, 1, 1) := by decide +kernel
theorem fX7_sum_1 : zf mX7_sum 1 = some (.iload_n 1, 1, 2) := by decide +kernel
theorem fX7_sum_2 : zf mX7_sum 2 = some (.invokevirtual 99, 3, 5) := by decide +kernel
theorem fX7_sum_5 : zf mX7_sum 5 = some (.iload_n 2, 1, 6) := by decide +kernel
theorem fX7_sum_6 : zf mX7_sum 6 = some (.iload_n 3, 1, 7) := by decide +kernel
theorem fX7_sum_7 : zf mX7_sum 7 = some (.invokestatic 102, 3, 10) := by decide +kernel
theorem fX7_sum_10 : zf mX7_sum 10 = some (.aload_n 0, 1, 11) := by decide +kernel
theorem fX7_sum_11 : zf mX7_sum 11 = some (.getfield 32, 3, 14) := by decide +kernel
theorem fX7_sum_14 : zf mX7_sum 14 = some (.iload_n 1, 1, 15) := by decide +kernel
theorem fX7_sum_15 : zf mX7_sum 15 = some (.iload_n 2, 1, 16) := by decide +kernel
theorem fX7_sum_16 : zf mX7_sum 16 = some (.iload_n 3, 1, 17) := by decide +kernel
theorem fX7_sum_17 : zf mX7_sum 17 = some (.invokevirtual 111, 3, 20) := by decide +kernel
theorem fX7_sum_20 : zf mX7_sum 20 = some (.ireturn, 1, 21) := by decide +kernel
theorem fX7_sumAgain_0 : zf mX7_sumAgain 0 = some (.aload_n 0, 1, 1) := by decide +kernel
theorem fX7_sumAgain_1 : zf mX7_sumAgain 1 = some (.iload_n 1, 1, 2) := by decide +kernel
theorem fX7_sumAgain_2 : zf mX7_sumAgain 2 = some (.invokevirtual 99, 3, 5) := by decide +kernel
theorem fX7_sumAgain_5 : zf mX7_sumAgain 5 = some (.iload_n 2, 1, 6) := by decide +kernel
theorem fX7_sumAgain_6 : zf mX7_sumAgain 6 = some (.iload_n 3, 1, 7) := by decide +kernel
theorem fX7_sumAgain_7 : zf mX7_sumAgain 7 = some (.invokestatic 102, 3, 10) := by decide +kernel
theorem fX7_sumAgain_10 : zf mX7_sumAgain 10 = some (.aload_n 0, 1, 11) := by decide +kernel
theorem fX7_sumAgain_11 : zf mX7_sumAgain 11 = some (.getfield 32, 3, 14) := by decide +kernel
theorem fX7_sumAgain_14 : zf mX7_sumAgain 14 = some (.iload_n 1, 1, 15) := by decide +kernel
theorem fX7_sumAgain_15 : zf mX7_sumAgain 15 = some (.iload_n 2, 1, 16) := by decide +kernel
theorem fX7_sumAgain_16 : zf mX7_sumAgain 16 = some (.iload_n 3, 1, 17) := by decide +kernel
theorem fX7_sumAgain_17 : zf mX7_sumAgain 17 = some (.invokevirtual 114, 3, 20) := by decide +kernel
theorem fX7_sumAgain_20 : zf mX7_sumAgain 20 = some (.ireturn, 1, 21) := by decide +kernel
theorem fX7_most_0 : zf mX7_most 0 = some (.aload_n 0, 1, 1) := by decide +kernel
theorem fX7_most_1 : zf mX7_most 1 = some (.iload_n 1, 1, 2) := by decide +kernel
theorem fX7_most_2 : zf mX7_most 2 = some (.invokevirtual 99, 3, 5) := by decide +kernel
theorem fX7_most_5 : zf mX7_most 5 = some (.iload_n 2, 1, 6) := by decide +kernel
theorem fX7_most_6 : zf mX7_most 6 = some (.iload_n 3, 1, 7) := by decide +kernel
theorem fX7_most_7 : zf mX7_most 7 = some (.invokestatic 102, 3, 10) := by decide +kernel
theorem fX7_most_10 : zf mX7_most 10 = some (.aload_n 0, 1, 11) := by decide +kernel
theorem fX7_most_11 : zf mX7_most 11 = some (.getfield 32, 3, 14) := by decide +kernel
theorem fX7_most_14 : zf mX7_most 14 = some (.iload_n 1, 1, 15) := by decide +kernel
theorem fX7_most_15 : zf mX7_most 15 = some (.iload_n 2, 1, 16) := by decide +kernel
theorem fX7_most_16 : zf mX7_most 16 = some (.iload_n 3, 1, 17) := by decide +kernel
theorem fX7_most_17 : zf mX7_most 17 = some (.invokevirtual 117, 3, 20) := by decide +kernel
theorem fX7_most_20 : zf mX7_most 20 = some (.ireturn, 1, 21) := by decide +kernel
theorem fX7_reached_0 : zf mX7_reached 0 = some (.aload_n 0, 1, 1) := by decide +kernel
theorem fX7_reached_1 : zf mX7_reached 1 = some (.iload_n 1, 1, 2) := by decide +kernel
theorem fX7_reached_2 : zf mX7_reached 2 = some (.invokevirtual 99, 3, 5) := by decide +kernel
theorem fX7_reached_5 : zf mX7_reached 5 = some (.aload_n 0, 1, 6) := by decide +kernel
theorem fX7_reached_6 : zf mX7_reached 6 = some (.getfield 32, 3, 9) := by decide +kernel
theorem fX7_reached_9 : zf mX7_reached 9 = some (.iload_n 1, 1, 10) := by decide +kernel
theorem fX7_reached_10 : zf mX7_reached 10 = some (.iload_n 2, 1, 11) := by decide +kernel
theorem fX7_reached_11 : zf mX7_reached 11 = some (.invokevirtual 120, 3, 14) := by decide +kernel
theorem fX7_reached_14 : zf mX7_reached 14 = some (.istore_n 3, 1, 15) := by decide +kernel
theorem fX7_reached_15 : zf mX7_reached 15 = some (.iload_n 3, 1, 16) := by decide +kernel
theorem fX7_reached_16 : zf mX7_reached 16 = some (.iconst (-1), 1, 17) := by decide +kernel
theorem fX7_reached_17 : zf mX7_reached 17 = some (.if_icmp .ne 13, 3, 20) := by decide +kernel
theorem fX7_reached_20 : zf mX7_reached 20 = some (.new 123, 3, 23) := by decide +kernel
theorem fX7_reached_23 : zf mX7_reached 23 = some (.dup, 1, 24) := by decide +kernel
theorem fX7_reached_24 : zf mX7_reached 24 = some (.ldc 125, 2, 26) := by decide +kernel
theorem fX7_reached_26 : zf mX7_reached 26 = some (.invokespecial 127, 3, 29) := by decide +kernel
theorem fX7_reached_29 : zf mX7_reached 29 = some (.athrow, 1, 30) := by decide +kernel
theorem fX7_reached_30 : zf mX7_reached 30 = some (.iload_n 3, 1, 31) := by decide +kernel
theorem fX7_reached_31 : zf mX7_reached 31 = some (.ireturn, 1, 32) := by decide +kernel
theorem fX7_versionOf_0 : zf mX7_versionOf 0 = some (.aload_n 0, 1, 1) := by decide +kernel
theorem fX7_versionOf_1 : zf mX7_versionOf 1 = some (.iload_n 1, 1, 2) := by decide +kernel
theorem fX7_versionOf_2 : zf mX7_versionOf 2 = some (.invokevirtual 99, 3, 5) := by decide +kernel
theorem fX7_versionOf_5 : zf mX7_versionOf 5 = some (.iload_n 2, 1, 6) := by decide +kernel
theorem fX7_versionOf_6 : zf mX7_versionOf 6 = some (.tableswitch 105 0 6 #[42, 51, 60, 69, 78, 87, 96], 42, 48) := by decide +kernel
theorem fX7_versionOf_48 : zf mX7_versionOf 48 = some (.aload_n 0, 1, 49) := by decide +kernel
theorem fX7_versionOf_49 : zf mX7_versionOf 49 = some (.getfield 32, 3, 52) := by decide +kernel
theorem fX7_versionOf_52 : zf mX7_versionOf 52 = some (.iload_n 1, 1, 53) := by decide +kernel
theorem fX7_versionOf_53 : zf mX7_versionOf 53 = some (.invokevirtual 130, 3, 56) := by decide +kernel
theorem fX7_versionOf_56 : zf mX7_versionOf 56 = some (.ireturn, 1, 57) := by decide +kernel
theorem fX7_versionOf_57 : zf mX7_versionOf 57 = some (.aload_n 0, 1, 58) := by decide +kernel
theorem fX7_versionOf_58 : zf mX7_versionOf 58 = some (.getfield 32, 3, 61) := by decide +kernel
theorem fX7_versionOf_61 : zf mX7_versionOf 61 = some (.iload_n 1, 1, 62) := by decide +kernel
theorem fX7_versionOf_62 : zf mX7_versionOf 62 = some (.invokevirtual 133, 3, 65) := by decide +kernel
theorem fX7_versionOf_65 : zf mX7_versionOf 65 = some (.ireturn, 1, 66) := by decide +kernel
theorem fX7_versionOf_66 : zf mX7_versionOf 66 = some (.aload_n 0, 1, 67) := by decide +kernel
theorem fX7_versionOf_67 : zf mX7_versionOf 67 = some (.getfield 32, 3, 70) := by decide +kernel
theorem fX7_versionOf_70 : zf mX7_versionOf 70 = some (.iload_n 1, 1, 71) := by decide +kernel
theorem fX7_versionOf_71 : zf mX7_versionOf 71 = some (.invokevirtual 136, 3, 74) := by decide +kernel
theorem fX7_versionOf_74 : zf mX7_versionOf 74 = some (.ireturn, 1, 75) := by decide +kernel
theorem fX7_versionOf_75 : zf mX7_versionOf 75 = some (.aload_n 0, 1, 76) := by decide +kernel
theorem fX7_versionOf_76 : zf mX7_versionOf 76 = some (.getfield 32, 3, 79) := by decide +kernel
theorem fX7_versionOf_79 : zf mX7_versionOf 79 = some (.iload_n 1, 1, 80) := by decide +kernel
theorem fX7_versionOf_80 : zf mX7_versionOf 80 = some (.invokevirtual 139, 3, 83) := by decide +kernel
theorem fX7_versionOf_83 : zf mX7_versionOf 83 = some (.ireturn, 1, 84) := by decide +kernel
theorem fX7_versionOf_84 : zf mX7_versionOf 84 = some (.aload_n 0, 1, 85) := by decide +kernel
theorem fX7_versionOf_85 : zf mX7_versionOf 85 = some (.getfield 32, 3, 88) := by decide +kernel
theorem fX7_versionOf_88 : zf mX7_versionOf 88 = some (.iload_n 1, 1, 89) := by decide +kernel
theorem fX7_versionOf_89 : zf mX7_versionOf 89 = some (.invokevirtual 142, 3, 92) := by decide +kernel
theorem fX7_versionOf_92 : zf mX7_versionOf 92 = some (.ireturn, 1, 93) := by decide +kernel
theorem fX7_versionOf_93 : zf mX7_versionOf 93 = some (.aload_n 0, 1, 94) := by decide +kernel
theorem fX7_versionOf_94 : zf mX7_versionOf 94 = some (.getfield 32, 3, 97) := by decide +kernel
theorem fX7_versionOf_97 : zf mX7_versionOf 97 = some (.iload_n 1, 1, 98) := by decide +kernel
theorem fX7_versionOf_98 : zf mX7_versionOf 98 = some (.invokevirtual 145, 3, 101) := by decide +kernel
theorem fX7_versionOf_101 : zf mX7_versionOf 101 = some (.ireturn, 1, 102) := by decide +kernel
theorem fX7_versionOf_102 : zf mX7_versionOf 102 = some (.aload_n 0, 1, 103) := by decide +kernel
theorem fX7_versionOf_103 : zf mX7_versionOf 103 = some (.getfield 25, 3, 106) := by decide +kernel
theorem fX7_versionOf_106 : zf mX7_versionOf 106 = some (.iload_n 1, 1, 107) := by decide +kernel
theorem fX7_versionOf_107 : zf mX7_versionOf 107 = some (.invokevirtual 148, 3, 110) := by decide +kernel
theorem fX7_versionOf_110 : zf mX7_versionOf 110 = some (.ireturn, 1, 111) := by decide +kernel
theorem fX7_versionOf_111 : zf mX7_versionOf 111 = some (.new 151, 3, 114) := by decide +kernel
theorem fX7_versionOf_114 : zf mX7_versionOf 114 = some (.dup, 1, 115) := by decide +kernel
theorem fX7_versionOf_115 : zf mX7_versionOf 115 = some (.ldc 153, 2, 117) := by decide +kernel
theorem fX7_versionOf_117 : zf mX7_versionOf 117 = some (.invokespecial 155, 3, 120) := by decide +kernel
theorem fX7_versionOf_120 : zf mX7_versionOf 120 = some (.athrow, 1, 121) := by decide +kernel
theorem fX7_maker_0 : zf mX7_maker 0 = some (.aload_n 0, 1, 1) := by decide +kernel
theorem fX7_maker_1 : zf mX7_maker 1 = some (.iload_n 1, 1, 2) := by decide +kernel
theorem fX7_maker_2 : zf mX7_maker 2 = some (.invokevirtual 99, 3, 5) := by decide +kernel
theorem fX7_maker_5 : zf mX7_maker 5 = some (.iload_n 2, 1, 6) := by decide +kernel
theorem fX7_maker_6 : zf mX7_maker 6 = some (.invokestatic 156, 3, 9) := by decide +kernel
theorem fX7_maker_9 : zf mX7_maker 9 = some (.aload_n 0, 1, 10) := by decide +kernel
theorem fX7_maker_10 : zf mX7_maker 10 = some (.getfield 32, 3, 13) := by decide +kernel
theorem fX7_maker_13 : zf mX7_maker 13 = some (.iload_n 1, 1, 14) := by decide +kernel
theorem fX7_maker_14 : zf mX7_maker 14 = some (.iload_n 2, 1, 15) := by decide +kernel
theorem fX7_maker_15 : zf mX7_maker 15 = some (.invokevirtual 159, 3, 18) := by decide +kernel
theorem fX7_maker_18 : zf mX7_maker 18 = some (.ireturn, 1, 19) := by decide +kernel
theorem fX7_had_0 : zf mX7_had 0 = some (.iload_n 1, 1, 1) := by decide +kernel
theorem fX7_had_1 : zf mX7_had 1 = some (.invokestatic 92, 3, 4) := by decide +kernel
theorem fX7_had_4 : zf mX7_had 4 = some (.iload_n 2, 1, 5) := by decide +kernel
theorem fX7_had_5 : zf mX7_had 5 = some (.ifCond .lt 9, 3, 8) := by decide +kernel
theorem fX7_had_8 : zf mX7_had 8 = some (.iload_n 2, 1, 9) := by decide +kernel
theorem fX7_had_9 : zf mX7_had 9 = some (.bipush 99, 2, 11) := by decide +kernel
theorem fX7_had_11 : zf mX7_had 11 = some (.if_icmp .le 13, 3, 14) := by decide +kernel
theorem fX7_had_14 : zf mX7_had 14 = some (.new 151, 3, 17) := by decide +kernel
theorem fX7_had_17 : zf mX7_had 17 = some (.dup, 1, 18) := by decide +kernel
theorem fX7_had_18 : zf mX7_had 18 = some (.ldc 162, 2, 20) := by decide +kernel
theorem fX7_had_20 : zf mX7_had 20 = some (.invokespecial 155, 3, 23) := by decide +kernel
theorem fX7_had_23 : zf mX7_had 23 = some (.athrow, 1, 24) := by decide +kernel
theorem fX7_had_24 : zf mX7_had 24 = some (.aload_n 0, 1, 25) := by decide +kernel
theorem fX7_had_25 : zf mX7_had 25 = some (.getfield 32, 3, 28) := by decide +kernel
theorem fX7_had_28 : zf mX7_had 28 = some (.aload_n 0, 1, 29) := by decide +kernel
theorem fX7_had_29 : zf mX7_had 29 = some (.getfield 25, 3, 32) := by decide +kernel
theorem fX7_had_32 : zf mX7_had 32 = some (.iload_n 1, 1, 33) := by decide +kernel
theorem fX7_had_33 : zf mX7_had 33 = some (.invokevirtual 96, 3, 36) := by decide +kernel
theorem fX7_had_36 : zf mX7_had 36 = some (.iload_n 2, 1, 37) := by decide +kernel
theorem fX7_had_37 : zf mX7_had 37 = some (.invokevirtual 164, 3, 40) := by decide +kernel
theorem fX7_had_40 : zf mX7_had 40 = some (.ireturn, 1, 41) := by decide +kernel
theorem fX7_since_0 : zf mX7_since 0 = some (.aload_n 0, 1, 1) := by decide +kernel
theorem fX7_since_1 : zf mX7_since 1 = some (.iload_n 1, 1, 2) := by decide +kernel
theorem fX7_since_2 : zf mX7_since 2 = some (.invokevirtual 99, 3, 5) := by decide +kernel
theorem fX7_since_5 : zf mX7_since 5 = some (.iload_n 2, 1, 6) := by decide +kernel
theorem fX7_since_6 : zf mX7_since 6 = some (.iload_n 2, 1, 7) := by decide +kernel
theorem fX7_since_7 : zf mX7_since 7 = some (.invokestatic 102, 3, 10) := by decide +kernel
theorem fX7_since_10 : zf mX7_since 10 = some (.aload_n 0, 1, 11) := by decide +kernel
theorem fX7_since_11 : zf mX7_since 11 = some (.getfield 32, 3, 14) := by decide +kernel
theorem fX7_since_14 : zf mX7_since 14 = some (.iload_n 1, 1, 15) := by decide +kernel
theorem fX7_since_15 : zf mX7_since 15 = some (.iload_n 2, 1, 16) := by decide +kernel
theorem fX7_since_16 : zf mX7_since 16 = some (.invokevirtual 167, 3, 19) := by decide +kernel
theorem fX7_since_19 : zf mX7_since 19 = some (.ireturn, 1, 20) := by decide +kernel
theorem fX7_common_0 : zf mX7_common 0 = some (.aload_n 0, 1, 1) := by decide +kernel
theorem fX7_common_1 : zf mX7_common 1 = some (.iload_n 1, 1, 2) := by decide +kernel
theorem fX7_common_2 : zf mX7_common 2 = some (.invokevirtual 99, 3, 5) := by decide +kernel
theorem fX7_common_5 : zf mX7_common 5 = some (.aload_n 0, 1, 6) := by decide +kernel
theorem fX7_common_6 : zf mX7_common 6 = some (.iload_n 2, 1, 7) := by decide +kernel
theorem fX7_common_7 : zf mX7_common 7 = some (.invokevirtual 99, 3, 10) := by decide +kernel
theorem fX7_common_10 : zf mX7_common 10 = some (.aload_n 0, 1, 11) := by decide +kernel
theorem fX7_common_11 : zf mX7_common 11 = some (.getfield 32, 3, 14) := by decide +kernel
theorem fX7_common_14 : zf mX7_common 14 = some (.iload_n 1, 1, 15) := by decide +kernel
theorem fX7_common_15 : zf mX7_common 15 = some (.iload_n 2, 1, 16) := by decide +kernel
theorem fX7_common_16 : zf mX7_common 16 = some (.invokevirtual 170, 3, 19) := by decide +kernel
theorem fX7_common_19 : zf mX7_common 19 = some (.ireturn, 1, 20) := by decide +kernel
theorem fX7_apart_0 : zf mX7_apart 0 = some (.aload_n 0, 1, 1) := by decide +kernel
theorem fX7_apart_1 : zf mX7_apart 1 = some (.iload_n 1, 1, 2) := by decide +kernel
theorem fX7_apart_2 : zf mX7_apart 2 = some (.invokevirtual 99, 3, 5) := by decide +kernel
theorem fX7_apart_5 : zf mX7_apart 5 = some (.aload_n 0, 1, 6) := by decide +kernel
theorem fX7_apart_6 : zf mX7_apart 6 = some (.iload_n 2, 1, 7) := by decide +kernel
theorem fX7_apart_7 : zf mX7_apart 7 = some (.invokevirtual 99, 3, 10) := by decide +kernel
theorem fX7_apart_10 : zf mX7_apart 10 = some (.aload_n 0, 1, 11) := by decide +kernel
theorem fX7_apart_11 : zf mX7_apart 11 = some (.getfield 32, 3, 14) := by decide +kernel
theorem fX7_apart_14 : zf mX7_apart 14 = some (.iload_n 1, 1, 15) := by decide +kernel
theorem fX7_apart_15 : zf mX7_apart 15 = some (.iload_n 2, 1, 16) := by decide +kernel
theorem fX7_apart_16 : zf mX7_apart 16 = some (.iconst 0, 1, 17) := by decide +kernel
theorem fX7_apart_17 : zf mX7_apart 17 = some (.bipush 15, 2, 19) := by decide +kernel
theorem fX7_apart_19 : zf mX7_apart 19 = some (.invokevirtual 173, 3, 22) := by decide +kernel
theorem fX7_apart_22 : zf mX7_apart 22 = some (.ireturn, 1, 23) := by decide +kernel
theorem fX7_shared_0 : zf mX7_shared 0 = some (.aload_n 0, 1, 1) := by decide +kernel
theorem fX7_shared_1 : zf mX7_shared 1 = some (.iload_n 1, 1, 2) := by decide +kernel
theorem fX7_shared_2 : zf mX7_shared 2 = some (.invokevirtual 99, 3, 5) := by decide +kernel
theorem fX7_shared_5 : zf mX7_shared 5 = some (.aload_n 0, 1, 6) := by decide +kernel
theorem fX7_shared_6 : zf mX7_shared 6 = some (.iload_n 2, 1, 7) := by decide +kernel
theorem fX7_shared_7 : zf mX7_shared 7 = some (.invokevirtual 99, 3, 10) := by decide +kernel
theorem fX7_shared_10 : zf mX7_shared 10 = some (.aload_n 0, 1, 11) := by decide +kernel
theorem fX7_shared_11 : zf mX7_shared 11 = some (.getfield 32, 3, 14) := by decide +kernel
theorem fX7_shared_14 : zf mX7_shared 14 = some (.iload_n 1, 1, 15) := by decide +kernel
theorem fX7_shared_15 : zf mX7_shared 15 = some (.iload_n 2, 1, 16) := by decide +kernel
theorem fX7_shared_16 : zf mX7_shared 16 = some (.invokevirtual 176, 3, 19) := by decide +kernel
theorem fX7_shared_19 : zf mX7_shared 19 = some (.ireturn, 1, 20) := by decide +kernel
theorem fX7_isOf_0 : zf mX7_isOf 0 = some (.aload_n 0, 1, 1) := by decide +kernel
theorem fX7_isOf_1 : zf mX7_isOf 1 = some (.iload_n 1, 1, 2) := by decide +kernel
theorem fX7_isOf_2 : zf mX7_isOf 2 = some (.invokevirtual 99, 3, 5) := by decide +kernel
theorem fX7_isOf_5 : zf mX7_isOf 5 = some (.aload_n 0, 1, 6) := by decide +kernel
theorem fX7_isOf_6 : zf mX7_isOf 6 = some (.iload_n 2, 1, 7) := by decide +kernel
theorem fX7_isOf_7 : zf mX7_isOf 7 = some (.invokevirtual 99, 3, 10) := by decide +kernel
theorem fX7_isOf_10 : zf mX7_isOf 10 = some (.aload_n 0, 1, 11) := by decide +kernel
theorem fX7_isOf_11 : zf mX7_isOf 11 = some (.getfield 32, 3, 14) := by decide +kernel
theorem fX7_isOf_14 : zf mX7_isOf 14 = some (.iload_n 1, 1, 15) := by decide +kernel
theorem fX7_isOf_15 : zf mX7_isOf 15 = some (.iload_n 2, 1, 16) := by decide +kernel
theorem fX7_isOf_16 : zf mX7_isOf 16 = some (.invokevirtual 170, 3, 19) := by decide +kernel
theorem fX7_isOf_19 : zf mX7_isOf 19 = some (.iload_n 1, 1, 20) := by decide +kernel
theorem fX7_isOf_20 : zf mX7_isOf 20 = some (.if_icmp .ne 7, 3, 23) := by decide +kernel
theorem fX7_isOf_23 : zf mX7_isOf 23 = some (.iconst 1, 1, 24) := by decide +kernel
theorem fX7_isOf_24 : zf mX7_isOf 24 = some (.goto 4, 3, 27) := by decide +kernel
theorem fX7_isOf_27 : zf mX7_isOf 27 = some (.iconst 0, 1, 28) := by decide +kernel
theorem fX7_isOf_28 : zf mX7_isOf 28 = some (.ireturn, 1, 29) := by decide +kernel
theorem fX7_users_0 : zf mX7_users 0 = some (.aload_n 0, 1, 1) := by decide +kernel
theorem fX7_users_1 : zf mX7_users 1 = some (.iload_n 1, 1, 2) := by decide +kernel
theorem fX7_users_2 : zf mX7_users 2 = some (.invokevirtual 99, 3, 5) := by decide +kernel
theorem fX7_users_5 : zf mX7_users 5 = some (.iload_n 2, 1, 6) := by decide +kernel
theorem fX7_users_6 : zf mX7_users 6 = some (.invokestatic 156, 3, 9) := by decide +kernel
theorem fX7_users_9 : zf mX7_users 9 = some (.aload_n 0, 1, 10) := by decide +kernel
theorem fX7_users_10 : zf mX7_users 10 = some (.getfield 32, 3, 13) := by decide +kernel
theorem fX7_users_13 : zf mX7_users 13 = some (.aload_n 0, 1, 14) := by decide +kernel
theorem fX7_users_14 : zf mX7_users 14 = some (.getfield 32, 3, 17) := by decide +kernel
theorem fX7_users_17 : zf mX7_users 17 = some (.iload_n 1, 1, 18) := by decide +kernel
theorem fX7_users_18 : zf mX7_users 18 = some (.iload_n 2, 1, 19) := by decide +kernel
theorem fX7_users_19 : zf mX7_users 19 = some (.invokevirtual 159, 3, 22) := by decide +kernel
theorem fX7_users_22 : zf mX7_users 22 = some (.iload_n 2, 1, 23) := by decide +kernel
theorem fX7_users_23 : zf mX7_users 23 = some (.invokevirtual 179, 3, 26) := by decide +kernel
theorem fX7_users_26 : zf mX7_users 26 = some (.ireturn, 1, 27) := by decide +kernel
theorem fX7_wouldMake_0 : zf mX7_wouldMake 0 = some (.iload_n 1, 1, 1) := by decide +kernel
theorem fX7_wouldMake_1 : zf mX7_wouldMake 1 = some (.iload_n 2, 1, 2) := by decide +kernel
theorem fX7_wouldMake_2 : zf mX7_wouldMake 2 = some (.invokestatic 102, 3, 5) := by decide +kernel
theorem fX7_wouldMake_5 : zf mX7_wouldMake 5 = some (.iconst 0, 1, 6) := by decide +kernel
theorem fX7_wouldMake_6 : zf mX7_wouldMake 6 = some (.istore_n 3, 1, 7) := by decide +kernel
theorem fX7_wouldMake_7 : zf mX7_wouldMake 7 = some (.iconst 0, 1, 8) := by decide +kernel
theorem fX7_wouldMake_8 : zf mX7_wouldMake 8 = some (.istore 4, 2, 10) := by decide +kernel
theorem fX7_wouldMake_10 : zf mX7_wouldMake 10 = some (.iload 4, 2, 12) := by decide +kernel
theorem fX7_wouldMake_12 : zf mX7_wouldMake 12 = some (.bipush 31, 2, 14) := by decide +kernel
theorem fX7_wouldMake_14 : zf mX7_wouldMake 14 = some (.if_icmp .ge 22, 3, 17) := by decide +kernel
theorem fX7_wouldMake_17 : zf mX7_wouldMake 17 = some (.iload 4, 2, 19) := by decide +kernel
theorem fX7_wouldMake_19 : zf mX7_wouldMake 19 = some (.iload_n 1, 1, 20) := by decide +kernel
theorem fX7_wouldMake_20 : zf mX7_wouldMake 20 = some (.iload_n 2, 1, 21) := by decide +kernel
theorem fX7_wouldMake_21 : zf mX7_wouldMake 21 = some (.invokestatic 182, 3, 24) := by decide +kernel
theorem fX7_wouldMake_24 : zf mX7_wouldMake 24 = some (.ifCond .eq 6, 3, 27) := by decide +kernel
theorem fX7_wouldMake_27 : zf mX7_wouldMake 27 = some (.iinc 3 1, 3, 30) := by decide +kernel
theorem fX7_wouldMake_30 : zf mX7_wouldMake 30 = some (.iinc 4 1, 3, 33) := by decide +kernel
theorem fX7_wouldMake_33 : zf mX7_wouldMake 33 = some (.goto (-23), 3, 36) := by decide +kernel
theorem fX7_wouldMake_36 : zf mX7_wouldMake 36 = some (.iload_n 3, 1, 37) := by decide +kernel
theorem fX7_wouldMake_37 : zf mX7_wouldMake 37 = some (.ireturn, 1, 38) := by decide +kernel
theorem fX7_alike_0 : zf mX7_alike 0 = some (.aload_n 0, 1, 1) := by decide +kernel
theorem fX7_alike_1 : zf mX7_alike 1 = some (.iload_n 1, 1, 2) := by decide +kernel
theorem fX7_alike_2 : zf mX7_alike 2 = some (.invokevirtual 99, 3, 5) := by decide +kernel
theorem fX7_alike_5 : zf mX7_alike 5 = some (.aload_n 0, 1, 6) := by decide +kernel
theorem fX7_alike_6 : zf mX7_alike 6 = some (.getfield 32, 3, 9) := by decide +kernel
theorem fX7_alike_9 : zf mX7_alike 9 = some (.iload_n 1, 1, 10) := by decide +kernel
theorem fX7_alike_10 : zf mX7_alike 10 = some (.invokevirtual 186, 3, 13) := by decide +kernel
theorem fX7_alike_13 : zf mX7_alike 13 = some (.ireturn, 1, 14) := by decide +kernel
theorem fX7_richest_0 : zf mX7_richest 0 = some (.aload_n 0, 1, 1) := by decide +kernel
theorem fX7_richest_1 : zf mX7_richest 1 = some (.getfield 32, 3, 4) := by decide +kernel
theorem fX7_richest_4 : zf mX7_richest 4 = some (.iload_n 1, 1, 5) := by decide +kernel
theorem fX7_richest_5 : zf mX7_richest 5 = some (.invokevirtual 189, 3, 8) := by decide +kernel
theorem fX7_richest_8 : zf mX7_richest 8 = some (.istore_n 2, 1, 9) := by decide +kernel
theorem fX7_richest_9 : zf mX7_richest 9 = some (.iload_n 2, 1, 10) := by decide +kernel
theorem fX7_richest_10 : zf mX7_richest 10 = some (.iconst (-1), 1, 11) := by decide +kernel
theorem fX7_richest_11 : zf mX7_richest 11 = some (.if_icmp .ne 13, 3, 14) := by decide +kernel
theorem fX7_richest_14 : zf mX7_richest 14 = some (.new 123, 3, 17) := by decide +kernel
theorem fX7_richest_17 : zf mX7_richest 17 = some (.dup, 1, 18) := by decide +kernel
theorem fX7_richest_18 : zf mX7_richest 18 = some (.ldc 192, 2, 20) := by decide +kernel
theorem fX7_richest_20 : zf mX7_richest 20 = some (.invokespecial 127, 3, 23) := by decide +kernel
theorem fX7_richest_23 : zf mX7_richest 23 = some (.athrow, 1, 24) := by decide +kernel
theorem fX7_richest_24 : zf mX7_richest 24 = some (.iload_n 2, 1, 25) := by decide +kernel
theorem fX7_richest_25 : zf mX7_richest 25 = some (.ireturn, 1, 26) := by decide +kernel
theorem fX7_busiest_0 : zf mX7_busiest 0 = some (.aload_n 0, 1, 1) := by decide +kernel
theorem fX7_busiest_1 : zf mX7_busiest 1 = some (.getfield 32, 3, 4) := by decide +kernel
theorem fX7_busiest_4 : zf mX7_busiest 4 = some (.invokevirtual 194, 3, 7) := by decide +kernel
theorem fX7_busiest_7 : zf mX7_busiest 7 = some (.iconst 2, 1, 8) := by decide +kernel
theorem fX7_busiest_8 : zf mX7_busiest 8 = some (.if_icmp .ge 13, 3, 11) := by decide +kernel
theorem fX7_busiest_11 : zf mX7_busiest 11 = some (.new 123, 3, 14) := by decide +kernel
theorem fX7_busiest_14 : zf mX7_busiest 14 = some (.dup, 1, 15) := by decide +kernel
theorem fX7_busiest_15 : zf mX7_busiest 15 = some (.ldc 198, 2, 17) := by decide +kernel
theorem fX7_busiest_17 : zf mX7_busiest 17 = some (.invokespecial 127, 3, 20) := by decide +kernel
theorem fX7_busiest_20 : zf mX7_busiest 20 = some (.athrow, 1, 21) := by decide +kernel
theorem fX7_busiest_21 : zf mX7_busiest 21 = some (.aload_n 0, 1, 22) := by decide +kernel
theorem fX7_busiest_22 : zf mX7_busiest 22 = some (.getfield 32, 3, 25) := by decide +kernel
theorem fX7_busiest_25 : zf mX7_busiest 25 = some (.invokevirtual 200, 3, 28) := by decide +kernel
theorem fX7_busiest_28 : zf mX7_busiest 28 = some (.ireturn, 1, 29) := by decide +kernel
theorem fX7_append_0 : zf mX7_append 0 = some (.aload_n 0, 1, 1) := by decide +kernel
theorem fX7_append_1 : zf mX7_append 1 = some (.getfield 51, 3, 4) := by decide +kernel
theorem fX7_append_4 : zf mX7_append 4 = some (.invokevirtual 203, 3, 7) := by decide +kernel
theorem fX7_append_7 : zf mX7_append 7 = some (.ifCond .eq 13, 3, 10) := by decide +kernel
theorem fX7_append_10 : zf mX7_append 10 = some (.new 207, 3, 13) := by decide +kernel
theorem fX7_append_13 : zf mX7_append 13 = some (.dup, 1, 14) := by decide +kernel
theorem fX7_append_14 : zf mX7_append 14 = some (.ldc 209, 2, 16) := by decide +kernel
theorem fX7_append_16 : zf mX7_append 16 = some (.invokespecial 211, 3, 19) := by decide +kernel
theorem fX7_append_19 : zf mX7_append 19 = some (.athrow, 1, 20) := by decide +kernel
theorem fX7_append_20 : zf mX7_append 20 = some (.aload_n 0, 1, 21) := by decide +kernel
theorem fX7_append_21 : zf mX7_append 21 = some (.getfield 51, 3, 24) := by decide +kernel
theorem fX7_append_24 : zf mX7_append 24 = some (.iload_n 1, 1, 25) := by decide +kernel
theorem fX7_append_25 : zf mX7_append 25 = some (.invokevirtual 212, 3, 28) := by decide +kernel
theorem fX7_append_28 : zf mX7_append 28 = some (.aload_n 0, 1, 29) := by decide +kernel
theorem fX7_append_29 : zf mX7_append 29 = some (.getfield 51, 3, 32) := by decide +kernel
theorem fX7_append_32 : zf mX7_append 32 = some (.invokevirtual 216, 3, 35) := by decide +kernel
theorem fX7_append_35 : zf mX7_append 35 = some (.ireturn, 1, 36) := by decide +kernel
theorem fX7_commands_0 : zf mX7_commands 0 = some (.aload_n 0, 1, 1) := by decide +kernel
theorem fX7_commands_1 : zf mX7_commands 1 = some (.aload_n 0, 1, 2) := by decide +kernel
theorem fX7_commands_2 : zf mX7_commands 2 = some (.getfield 51, 3, 5) := by decide +kernel
theorem fX7_commands_5 : zf mX7_commands 5 = some (.invokevirtual 217, 3, 8) := by decide +kernel
theorem fX7_commands_8 : zf mX7_commands 8 = some (.putfield 55, 3, 11) := by decide +kernel
theorem fX7_commands_11 : zf mX7_commands 11 = some (.aload_n 0, 1, 12) := by decide +kernel
theorem fX7_commands_12 : zf mX7_commands 12 = some (.getfield 55, 3, 15) := by decide +kernel
theorem fX7_commands_15 : zf mX7_commands 15 = some (.iconst (-1), 1, 16) := by decide +kernel
theorem fX7_commands_16 : zf mX7_commands 16 = some (.if_icmp .eq 20, 3, 19) := by decide +kernel
theorem fX7_commands_19 : zf mX7_commands 19 = some (.aload_n 0, 1, 20) := by decide +kernel
theorem fX7_commands_20 : zf mX7_commands 20 = some (.getfield 51, 3, 23) := by decide +kernel
theorem fX7_commands_23 : zf mX7_commands 23 = some (.invokevirtual 220, 3, 26) := by decide +kernel
theorem fX7_commands_26 : zf mX7_commands 26 = some (.new 151, 3, 29) := by decide +kernel
theorem fX7_commands_29 : zf mX7_commands 29 = some (.dup, 1, 30) := by decide +kernel
theorem fX7_commands_30 : zf mX7_commands 30 = some (.ldc 223, 2, 32) := by decide +kernel
theorem fX7_commands_32 : zf mX7_commands 32 = some (.invokespecial 155, 3, 35) := by decide +kernel
theorem fX7_commands_35 : zf mX7_commands 35 = some (.athrow, 1, 36) := by decide +kernel
theorem fX7_commands_36 : zf mX7_commands 36 = some (.aload_n 0, 1, 37) := by decide +kernel
theorem fX7_commands_37 : zf mX7_commands 37 = some (.getfield 44, 3, 40) := by decide +kernel
theorem fX7_commands_40 : zf mX7_commands 40 = some (.aload_n 0, 1, 41) := by decide +kernel
theorem fX7_commands_41 : zf mX7_commands 41 = some (.getfield 25, 3, 44) := by decide +kernel
theorem fX7_commands_44 : zf mX7_commands 44 = some (.invokevirtual 66, 3, 47) := by decide +kernel
theorem fX7_commands_47 : zf mX7_commands 47 = some (.aload_n 0, 1, 48) := by decide +kernel
theorem fX7_commands_48 : zf mX7_commands 48 = some (.getfield 51, 3, 51) := by decide +kernel
theorem fX7_commands_51 : zf mX7_commands 51 = some (.invokevirtual 225, 3, 54) := by decide +kernel
theorem fX7_commands_54 : zf mX7_commands 54 = some (.iconst 0, 1, 55) := by decide +kernel
theorem fX7_commands_55 : zf mX7_commands 55 = some (.istore_n 1, 1, 56) := by decide +kernel
theorem fX7_commands_56 : zf mX7_commands 56 = some (.iconst 0, 1, 57) := by decide +kernel
theorem fX7_commands_57 : zf mX7_commands 57 = some (.istore_n 2, 1, 58) := by decide +kernel
theorem fX7_commands_58 : zf mX7_commands 58 = some (.iload_n 2, 1, 59) := by decide +kernel
theorem fX7_commands_59 : zf mX7_commands 59 = some (.ifCond .ne 68, 3, 62) := by decide +kernel
theorem fX7_commands_62 : zf mX7_commands 62 = some (.iload_n 1, 1, 63) := by decide +kernel
theorem fX7_commands_63 : zf mX7_commands 63 = some (.bipush 60, 2, 65) := by decide +kernel
theorem fX7_commands_65 : zf mX7_commands 65 = some (.if_icmp .ge 62, 3, 68) := by decide +kernel
theorem fX7_commands_68 : zf mX7_commands 68 = some (.aload_n 0, 1, 69) := by decide +kernel
theorem fX7_commands_69 : zf mX7_commands 69 = some (.getfield 51, 3, 72) := by decide +kernel
theorem fX7_commands_72 : zf mX7_commands 72 = some (.invokevirtual 228, 3, 75) := by decide +kernel
theorem fX7_commands_75 : zf mX7_commands 75 = some (.ifCond .eq 52, 3, 78) := by decide +kernel
theorem fX7_commands_78 : zf mX7_commands 78 = some (.aload_n 0, 1, 79) := by decide +kernel
theorem fX7_commands_79 : zf mX7_commands 79 = some (.getfield 10, 3, 82) := by decide +kernel
theorem fX7_commands_82 : zf mX7_commands 82 = some (.aload_n 0, 1, 83) := by decide +kernel
theorem fX7_commands_83 : zf mX7_commands 83 = some (.getfield 51, 3, 86) := by decide +kernel
theorem fX7_commands_86 : zf mX7_commands 86 = some (.invokevirtual 231, 3, 89) := by decide +kernel
theorem fX7_commands_89 : zf mX7_commands 89 = some (.iconst (-1), 1, 90) := by decide +kernel
theorem fX7_commands_90 : zf mX7_commands 90 = some (.if_icmp .ne 7, 3, 93) := by decide +kernel
theorem fX7_commands_93 : zf mX7_commands 93 = some (.iconst 1, 1, 94) := by decide +kernel
theorem fX7_commands_94 : zf mX7_commands 94 = some (.goto 4, 3, 97) := by decide +kernel
theorem fX7_commands_97 : zf mX7_commands 97 = some (.iconst 0, 1, 98) := by decide +kernel
theorem fX7_commands_98 : zf mX7_commands 98 = some (.istore_n 2, 1, 99) := by decide +kernel
theorem fX7_commands_99 : zf mX7_commands 99 = some (.iload_n 2, 1, 100) := by decide +kernel
theorem fX7_commands_100 : zf mX7_commands 100 = some (.ifCond .eq 11, 3, 103) := by decide +kernel
theorem fX7_commands_103 : zf mX7_commands 103 = some (.aload_n 0, 1, 104) := by decide +kernel
theorem fX7_commands_104 : zf mX7_commands 104 = some (.getfield 20, 3, 107) := by decide +kernel
theorem fX7_commands_107 : zf mX7_commands 107 = some (.iload_n 1, 1, 108) := by decide +kernel
theorem fX7_commands_108 : zf mX7_commands 108 = some (.putfield 235, 3, 111) := by decide +kernel
theorem fX7_commands_111 : zf mX7_commands 111 = some (.aload_n 0, 1, 112) := by decide +kernel
theorem fX7_commands_112 : zf mX7_commands 112 = some (.getfield 51, 3, 115) := by decide +kernel
theorem fX7_commands_115 : zf mX7_commands 115 = some (.bipush 59, 2, 117) := by decide +kernel
theorem fX7_commands_117 : zf mX7_commands 117 = some (.invokevirtual 240, 3, 120) := by decide +kernel
theorem fX7_commands_120 : zf mX7_commands 120 = some (.pop, 1, 121) := by decide +kernel
theorem fX7_commands_121 : zf mX7_commands 121 = some (.iinc 1 1, 3, 124) := by decide +kernel
theorem fX7_commands_124 : zf mX7_commands 124 = some (.goto (-66), 3, 127) := by decide +kernel
theorem fX7_commands_127 : zf mX7_commands 127 = some (.aload_n 0, 1, 128) := by decide +kernel
theorem fX7_commands_128 : zf mX7_commands 128 = some (.getfield 51, 3, 131) := by decide +kernel
theorem fX7_commands_131 : zf mX7_commands 131 = some (.invokevirtual 220, 3, 134) := by decide +kernel
theorem fX7_commands_134 : zf mX7_commands 134 = some (.aload_n 0, 1, 135) := by decide +kernel
theorem fX7_commands_135 : zf mX7_commands 135 = some (.iload_n 2, 1, 136) := by decide +kernel
theorem fX7_commands_136 : zf mX7_commands 136 = some (.ifCond .eq 7, 3, 139) := by decide +kernel
theorem fX7_commands_139 : zf mX7_commands 139 = some (.iconst (-1), 1, 140) := by decide +kernel
theorem fX7_commands_140 : zf mX7_commands 140 = some (.goto 4, 3, 143) := by decide +kernel
theorem fX7_commands_143 : zf mX7_commands 143 = some (.iload_n 1, 1, 144) := by decide +kernel
theorem fX7_commands_144 : zf mX7_commands 144 = some (.invokevirtual 74, 3, 147) := by decide +kernel
theorem fX7_commands_147 : zf mX7_commands 147 = some (.ireturn, 1, 148) := by decide +kernel
theorem fX7_faultPosition_0 : zf mX7_faultPosition 0 = some (.aload_n 0, 1, 1) := by decide +kernel
theorem fX7_faultPosition_1 : zf mX7_faultPosition 1 = some (.getfield 55, 3, 4) := by decide +kernel
theorem fX7_faultPosition_4 : zf mX7_faultPosition 4 = some (.ireturn, 1, 5) := by decide +kernel
theorem fX7_reason_0 : zf mX7_reason 0 = some (.iload_n 1, 1, 1) := by decide +kernel
theorem fX7_reason_1 : zf mX7_reason 1 = some (.ifCond .lt 8, 3, 4) := by decide +kernel
theorem fX7_reason_4 : zf mX7_reason 4 = some (.iload_n 1, 1, 5) := by decide +kernel
theorem fX7_reason_5 : zf mX7_reason 5 = some (.iconst 2, 1, 6) := by decide +kernel
theorem fX7_reason_6 : zf mX7_reason 6 = some (.if_icmp .le 13, 3, 9) := by decide +kernel
theorem fX7_reason_9 : zf mX7_reason 9 = some (.new 151, 3, 12) := by decide +kernel
theorem fX7_reason_12 : zf mX7_reason 12 = some (.dup, 1, 13) := by decide +kernel
theorem fX7_reason_13 : zf mX7_reason 13 = some (.ldc 244, 2, 15) := by decide +kernel
theorem fX7_reason_15 : zf mX7_reason 15 = some (.invokespecial 155, 3, 18) := by decide +kernel
theorem fX7_reason_18 : zf mX7_reason 18 = some (.athrow, 1, 19) := by decide +kernel
theorem fX7_reason_19 : zf mX7_reason 19 = some (.aload_n 0, 1, 20) := by decide +kernel
theorem fX7_reason_20 : zf mX7_reason 20 = some (.getfield 20, 3, 23) := by decide +kernel
theorem fX7_reason_23 : zf mX7_reason 23 = some (.getfield 246, 3, 26) := by decide +kernel
theorem fX7_reason_26 : zf mX7_reason 26 = some (.ifCond .ne 13, 3, 29) := by decide +kernel
theorem fX7_reason_29 : zf mX7_reason 29 = some (.new 123, 3, 32) := by decide +kernel
theorem fX7_reason_32 : zf mX7_reason 32 = some (.dup, 1, 33) := by decide +kernel
theorem fX7_reason_33 : zf mX7_reason 33 = some (.ldc 249, 2, 35) := by decide +kernel
theorem fX7_reason_35 : zf mX7_reason 35 = some (.invokespecial 127, 3, 38) := by decide +kernel
theorem fX7_reason_38 : zf mX7_reason 38 = some (.athrow, 1, 39) := by decide +kernel
theorem fX7_reason_39 : zf mX7_reason 39 = some (.iload_n 1, 1, 40) := by decide +kernel
theorem fX7_reason_40 : zf mX7_reason 40 = some (.ifCond .ne 11, 3, 43) := by decide +kernel
theorem fX7_reason_43 : zf mX7_reason 43 = some (.aload_n 0, 1, 44) := by decide +kernel
theorem fX7_reason_44 : zf mX7_reason 44 = some (.getfield 20, 3, 47) := by decide +kernel
theorem fX7_reason_47 : zf mX7_reason 47 = some (.getfield 246, 3, 50) := by decide +kernel
theorem fX7_reason_50 : zf mX7_reason 50 = some (.ireturn, 1, 51) := by decide +kernel
theorem fX7_reason_51 : zf mX7_reason 51 = some (.iload_n 1, 1, 52) := by decide +kernel
theorem fX7_reason_52 : zf mX7_reason 52 = some (.iconst 1, 1, 53) := by decide +kernel
theorem fX7_reason_53 : zf mX7_reason 53 = some (.if_icmp .ne 13, 3, 56) := by decide +kernel
theorem fX7_reason_56 : zf mX7_reason 56 = some (.aload_n 0, 1, 57) := by decide +kernel
theorem fX7_reason_57 : zf mX7_reason 57 = some (.getfield 20, 3, 60) := by decide +kernel
theorem fX7_reason_60 : zf mX7_reason 60 = some (.getfield 251, 3, 63) := by decide +kernel
theorem fX7_reason_63 : zf mX7_reason 63 = some (.goto 10, 3, 66) := by decide +kernel
theorem fX7_reason_66 : zf mX7_reason 66 = some (.aload_n 0, 1, 67) := by decide +kernel
theorem fX7_reason_67 : zf mX7_reason 67 = some (.getfield 20, 3, 70) := by decide +kernel
theorem fX7_reason_70 : zf mX7_reason 70 = some (.getfield 235, 3, 73) := by decide +kernel
theorem fX7_reason_73 : zf mX7_reason 73 = some (.ireturn, 1, 74) := by decide +kernel
theorem fX7_line_0 : zf mX7_line 0 = some (.aload_n 0, 1, 1) := by decide +kernel
theorem fX7_line_1 : zf mX7_line 1 = some (.iload_n 1, 1, 2) := by decide +kernel
theorem fX7_line_2 : zf mX7_line 2 = some (.invokevirtual 99, 3, 5) := by decide +kernel
theorem fX7_line_5 : zf mX7_line 5 = some (.aload_n 0, 1, 6) := by decide +kernel
theorem fX7_line_6 : zf mX7_line 6 = some (.getfield 62, 3, 9) := by decide +kernel
theorem fX7_line_9 : zf mX7_line 9 = some (.invokevirtual 254, 3, 12) := by decide +kernel
theorem fX7_line_12 : zf mX7_line 12 = some (.iconst 0, 1, 13) := by decide +kernel
theorem fX7_line_13 : zf mX7_line 13 = some (.istore_n 2, 1, 14) := by decide +kernel
theorem fX7_line_14 : zf mX7_line 14 = some (.iload_n 2, 1, 15) := by decide +kernel
theorem fX7_line_15 : zf mX7_line 15 = some (.bipush 16, 2, 17) := by decide +kernel
theorem fX7_line_17 : zf mX7_line 17 = some (.if_icmp .ge 57, 3, 20) := by decide +kernel
theorem fX7_line_20 : zf mX7_line 20 = some (.aload_n 0, 1, 21) := by decide +kernel
theorem fX7_line_21 : zf mX7_line 21 = some (.getfield 32, 3, 24) := by decide +kernel
theorem fX7_line_24 : zf mX7_line 24 = some (.iload_n 1, 1, 25) := by decide +kernel
theorem fX7_line_25 : zf mX7_line 25 = some (.iload_n 2, 1, 26) := by decide +kernel
theorem fX7_line_26 : zf mX7_line 26 = some (.invokevirtual 106, 3, 29) := by decide +kernel
theorem fX7_line_29 : zf mX7_line 29 = some (.istore_n 3, 1, 30) := by decide +kernel
theorem fX7_line_30 : zf mX7_line 30 = some (.iload_n 3, 1, 31) := by decide +kernel
theorem fX7_line_31 : zf mX7_line 31 = some (.ifCond .eq 37, 3, 34) := by decide +kernel
theorem fX7_line_34 : zf mX7_line 34 = some (.aload_n 0, 1, 35) := by decide +kernel
theorem fX7_line_35 : zf mX7_line 35 = some (.getfield 62, 3, 38) := by decide +kernel
theorem fX7_line_38 : zf mX7_line 38 = some (.bipush 44, 2, 40) := by decide +kernel
theorem fX7_line_40 : zf mX7_line 40 = some (.invokevirtual 255, 3, 43) := by decide +kernel
theorem fX7_line_43 : zf mX7_line 43 = some (.aload_n 0, 1, 44) := by decide +kernel
theorem fX7_line_44 : zf mX7_line 44 = some (.getfield 62, 3, 47) := by decide +kernel
theorem fX7_line_47 : zf mX7_line 47 = some (.iload_n 2, 1, 48) := by decide +kernel
theorem fX7_line_48 : zf mX7_line 48 = some (.invokevirtual 258, 3, 51) := by decide +kernel
theorem fX7_line_51 : zf mX7_line 51 = some (.aload_n 0, 1, 52) := by decide +kernel
theorem fX7_line_52 : zf mX7_line 52 = some (.getfield 62, 3, 55) := by decide +kernel
theorem fX7_line_55 : zf mX7_line 55 = some (.bipush 61, 2, 57) := by decide +kernel
theorem fX7_line_57 : zf mX7_line 57 = some (.invokevirtual 261, 3, 60) := by decide +kernel
theorem fX7_line_60 : zf mX7_line 60 = some (.aload_n 0, 1, 61) := by decide +kernel
theorem fX7_line_61 : zf mX7_line 61 = some (.getfield 62, 3, 64) := by decide +kernel
theorem fX7_line_64 : zf mX7_line 64 = some (.iload_n 3, 1, 65) := by decide +kernel
theorem fX7_line_65 : zf mX7_line 65 = some (.invokevirtual 258, 3, 68) := by decide +kernel
theorem fX7_line_68 : zf mX7_line 68 = some (.iinc 2 1, 3, 71) := by decide +kernel
theorem fX7_line_71 : zf mX7_line 71 = some (.goto (-57), 3, 74) := by decide +kernel
theorem fX7_line_74 : zf mX7_line 74 = some (.aload_n 0, 1, 75) := by decide +kernel
theorem fX7_line_75 : zf mX7_line 75 = some (.getfield 62, 3, 78) := by decide +kernel
theorem fX7_line_78 : zf mX7_line 78 = some (.invokevirtual 262, 3, 81) := by decide +kernel
theorem fX7_line_81 : zf mX7_line 81 = some (.ireturn, 1, 82) := by decide +kernel
theorem fX7_lineage_0 : zf mX7_lineage 0 = some (.aload_n 0, 1, 1) := by decide +kernel
theorem fX7_lineage_1 : zf mX7_lineage 1 = some (.iload_n 1, 1, 2) := by decide +kernel
theorem fX7_lineage_2 : zf mX7_lineage 2 = some (.invokevirtual 99, 3, 5) := by decide +kernel
theorem fX7_lineage_5 : zf mX7_lineage 5 = some (.aload_n 0, 1, 6) := by decide +kernel
theorem fX7_lineage_6 : zf mX7_lineage 6 = some (.getfield 62, 3, 9) := by decide +kernel
theorem fX7_lineage_9 : zf mX7_lineage 9 = some (.invokevirtual 254, 3, 12) := by decide +kernel
theorem fX7_lineage_12 : zf mX7_lineage 12 = some (.iload_n 1, 1, 13) := by decide +kernel
theorem fX7_lineage_13 : zf mX7_lineage 13 = some (.istore_n 2, 1, 14) := by decide +kernel
theorem fX7_lineage_14 : zf mX7_lineage 14 = some (.iconst 0, 1, 15) := by decide +kernel
theorem fX7_lineage_15 : zf mX7_lineage 15 = some (.istore_n 3, 1, 16) := by decide +kernel
theorem fX7_lineage_16 : zf mX7_lineage 16 = some (.iload_n 3, 1, 17) := by decide +kernel
theorem fX7_lineage_17 : zf mX7_lineage 17 = some (.bipush 40, 2, 19) := by decide +kernel
theorem fX7_lineage_19 : zf mX7_lineage 19 = some (.if_icmp .ge 40, 3, 22) := by decide +kernel
theorem fX7_lineage_22 : zf mX7_lineage 22 = some (.iload_n 2, 1, 23) := by decide +kernel
theorem fX7_lineage_23 : zf mX7_lineage 23 = some (.iconst (-1), 1, 24) := by decide +kernel
theorem fX7_lineage_24 : zf mX7_lineage 24 = some (.if_icmp .eq 35, 3, 27) := by decide +kernel
theorem fX7_lineage_27 : zf mX7_lineage 27 = some (.aload_n 0, 1, 28) := by decide +kernel
theorem fX7_lineage_28 : zf mX7_lineage 28 = some (.getfield 62, 3, 31) := by decide +kernel
theorem fX7_lineage_31 : zf mX7_lineage 31 = some (.bipush 60, 2, 33) := by decide +kernel
theorem fX7_lineage_33 : zf mX7_lineage 33 = some (.invokevirtual 255, 3, 36) := by decide +kernel
theorem fX7_lineage_36 : zf mX7_lineage 36 = some (.aload_n 0, 1, 37) := by decide +kernel
theorem fX7_lineage_37 : zf mX7_lineage 37 = some (.getfield 62, 3, 40) := by decide +kernel
theorem fX7_lineage_40 : zf mX7_lineage 40 = some (.iload_n 2, 1, 41) := by decide +kernel
theorem fX7_lineage_41 : zf mX7_lineage 41 = some (.invokevirtual 258, 3, 44) := by decide +kernel
theorem fX7_lineage_44 : zf mX7_lineage 44 = some (.aload_n 0, 1, 45) := by decide +kernel
theorem fX7_lineage_45 : zf mX7_lineage 45 = some (.getfield 32, 3, 48) := by decide +kernel
theorem fX7_lineage_48 : zf mX7_lineage 48 = some (.iload_n 2, 1, 49) := by decide +kernel
theorem fX7_lineage_49 : zf mX7_lineage 49 = some (.invokevirtual 130, 3, 52) := by decide +kernel
theorem fX7_lineage_52 : zf mX7_lineage 52 = some (.istore_n 2, 1, 53) := by decide +kernel
theorem fX7_lineage_53 : zf mX7_lineage 53 = some (.iinc 3 1, 3, 56) := by decide +kernel
theorem fX7_lineage_56 : zf mX7_lineage 56 = some (.goto (-40), 3, 59) := by decide +kernel
theorem fX7_lineage_59 : zf mX7_lineage 59 = some (.aload_n 0, 1, 60) := by decide +kernel
theorem fX7_lineage_60 : zf mX7_lineage 60 = some (.getfield 62, 3, 63) := by decide +kernel
theorem fX7_lineage_63 : zf mX7_lineage 63 = some (.invokevirtual 262, 3, 66) := by decide +kernel
theorem fX7_lineage_66 : zf mX7_lineage 66 = some (.ireturn, 1, 67) := by decide +kernel
theorem fX7_character_0 : zf mX7_character 0 = some (.iload_n 1, 1, 1) := by decide +kernel
theorem fX7_character_1 : zf mX7_character 1 = some (.ifCond .lt 14, 3, 4) := by decide +kernel
theorem fX7_character_4 : zf mX7_character 4 = some (.iload_n 1, 1, 5) := by decide +kernel
theorem fX7_character_5 : zf mX7_character 5 = some (.aload_n 0, 1, 6) := by decide +kernel
theorem fX7_character_6 : zf mX7_character 6 = some (.getfield 62, 3, 9) := by decide +kernel
theorem fX7_character_9 : zf mX7_character 9 = some (.invokevirtual 262, 3, 12) := by decide +kernel
theorem fX7_character_12 : zf mX7_character 12 = some (.if_icmp .lt 14, 3, 15) := by decide +kernel
theorem fX7_character_15 : zf mX7_character 15 = some (.new 263, 3, 18) := by decide +kernel
theorem fX7_character_18 : zf mX7_character 18 = some (.dup, 1, 19) := by decide +kernel
theorem fX7_character_19 : zf mX7_character 19 = some (.ldc_w 265, 3, 22) := by decide +kernel
theorem fX7_character_22 : zf mX7_character 22 = some (.invokespecial 267, 3, 25) := by decide +kernel
theorem fX7_character_25 : zf mX7_character 25 = some (.athrow, 1, 26) := by decide +kernel
theorem fX7_character_26 : zf mX7_character 26 = some (.aload_n 0, 1, 27) := by decide +kernel
theorem fX7_character_27 : zf mX7_character 27 = some (.getfield 62, 3, 30) := by decide +kernel
theorem fX7_character_30 : zf mX7_character 30 = some (.iload_n 1, 1, 31) := by decide +kernel
theorem fX7_character_31 : zf mX7_character 31 = some (.invokevirtual 268, 3, 34) := by decide +kernel
theorem fX7_character_34 : zf mX7_character 34 = some (.ireturn, 1, 35) := by decide +kernel
theorem fX7_mean_0 : zf mX7_mean 0 = some (.aload_n 0, 1, 1) := by decide +kernel
theorem fX7_mean_1 : zf mX7_mean 1 = some (.iload_n 1, 1, 2) := by decide +kernel
theorem fX7_mean_2 : zf mX7_mean 2 = some (.invokevirtual 99, 3, 5) := by decide +kernel
theorem fX7_mean_5 : zf mX7_mean 5 = some (.aload_n 0, 1, 6) := by decide +kernel
theorem fX7_mean_6 : zf mX7_mean 6 = some (.getfield 32, 3, 9) := by decide +kernel
theorem fX7_mean_9 : zf mX7_mean 9 = some (.iload_n 1, 1, 10) := by decide +kernel
theorem fX7_mean_10 : zf mX7_mean 10 = some (.iconst 0, 1, 11) := by decide +kernel
theorem fX7_mean_11 : zf mX7_mean 11 = some (.invokevirtual 272, 3, 14) := by decide +kernel
theorem fX7_mean_14 : zf mX7_mean 14 = some (.i2d, 1, 15) := by decide +kernel
theorem fX7_mean_15 : zf mX7_mean 15 = some (.ldc2_w 275, 3, 18) := by decide +kernel
theorem fX7_mean_18 : zf mX7_mean 18 = some (.ddiv, 1, 19) := by decide +kernel
theorem fX7_mean_19 : zf mX7_mean 19 = some (.dreturn, 1, 20) := by decide +kernel
theorem fX7_spared_0 : zf mX7_spared 0 = some (.aload_n 0, 1, 1) := by decide +kernel
theorem fX7_spared_1 : zf mX7_spared 1 = some (.getfield 32, 3, 4) := by decide +kernel
theorem fX7_spared_4 : zf mX7_spared 4 = some (.invokevirtual 194, 3, 7) := by decide +kernel
theorem fX7_spared_7 : zf mX7_spared 7 = some (.bipush 31, 2, 9) := by decide +kernel
theorem fX7_spared_9 : zf mX7_spared 9 = some (.imul, 1, 10) := by decide +kernel
theorem fX7_spared_10 : zf mX7_spared 10 = some (.istore_n 1, 1, 11) := by decide +kernel
theorem fX7_spared_11 : zf mX7_spared 11 = some (.iload_n 1, 1, 12) := by decide +kernel
theorem fX7_spared_12 : zf mX7_spared 12 = some (.aload_n 0, 1, 13) := by decide +kernel
theorem fX7_spared_13 : zf mX7_spared 13 = some (.getfield 32, 3, 16) := by decide +kernel
theorem fX7_spared_16 : zf mX7_spared 16 = some (.invokevirtual 277, 3, 19) := by decide +kernel
theorem fX7_spared_19 : zf mX7_spared 19 = some (.isub, 1, 20) := by decide +kernel
theorem fX7_spared_20 : zf mX7_spared 20 = some (.i2f, 1, 21) := by decide +kernel
theorem fX7_spared_21 : zf mX7_spared 21 = some (.iload_n 1, 1, 22) := by decide +kernel
theorem fX7_spared_22 : zf mX7_spared 22 = some (.i2f, 1, 23) := by decide +kernel
theorem fX7_spared_23 : zf mX7_spared 23 = some (.fdiv, 1, 24) := by decide +kernel
theorem fX7_spared_24 : zf mX7_spared 24 = some (.freturn, 1, 25) := by decide +kernel
theorem fX7_account_0 : zf mX7_account 0 = some (.iload_n 1, 1, 1) := by decide +kernel
theorem fX7_account_1 : zf mX7_account 1 = some (.tableswitch 123 0 8 #[51, 59, 67, 75, 83, 91, 99, 107, 115], 51, 52) := by decide +kernel
theorem fX7_account_52 : zf mX7_account 52 = some (.aload_n 0, 1, 53) := by decide +kernel
theorem fX7_account_53 : zf mX7_account 53 = some (.getfield 32, 3, 56) := by decide +kernel
theorem fX7_account_56 : zf mX7_account 56 = some (.invokevirtual 194, 3, 59) := by decide +kernel
theorem fX7_account_59 : zf mX7_account 59 = some (.ireturn, 1, 60) := by decide +kernel
theorem fX7_account_60 : zf mX7_account 60 = some (.aload_n 0, 1, 61) := by decide +kernel
theorem fX7_account_61 : zf mX7_account 61 = some (.getfield 25, 3, 64) := by decide +kernel
theorem fX7_account_64 : zf mX7_account 64 = some (.getfield 280, 3, 67) := by decide +kernel
theorem fX7_account_67 : zf mX7_account 67 = some (.ireturn, 1, 68) := by decide +kernel
theorem fX7_account_68 : zf mX7_account 68 = some (.aload_n 0, 1, 69) := by decide +kernel
theorem fX7_account_69 : zf mX7_account 69 = some (.getfield 32, 3, 72) := by decide +kernel
theorem fX7_account_72 : zf mX7_account 72 = some (.invokevirtual 277, 3, 75) := by decide +kernel
theorem fX7_account_75 : zf mX7_account 75 = some (.ireturn, 1, 76) := by decide +kernel
theorem fX7_account_76 : zf mX7_account 76 = some (.aload_n 0, 1, 77) := by decide +kernel
theorem fX7_account_77 : zf mX7_account 77 = some (.getfield 25, 3, 80) := by decide +kernel
theorem fX7_account_80 : zf mX7_account 80 = some (.invokevirtual 283, 3, 83) := by decide +kernel
theorem fX7_account_83 : zf mX7_account 83 = some (.ireturn, 1, 84) := by decide +kernel
theorem fX7_account_84 : zf mX7_account 84 = some (.aload_n 0, 1, 85) := by decide +kernel
theorem fX7_account_85 : zf mX7_account 85 = some (.getfield 32, 3, 88) := by decide +kernel
theorem fX7_account_88 : zf mX7_account 88 = some (.invokevirtual 286, 3, 91) := by decide +kernel
theorem fX7_account_91 : zf mX7_account 91 = some (.ireturn, 1, 92) := by decide +kernel
theorem fX7_account_92 : zf mX7_account 92 = some (.aload_n 0, 1, 93) := by decide +kernel
theorem fX7_account_93 : zf mX7_account 93 = some (.getfield 25, 3, 96) := by decide +kernel
theorem fX7_account_96 : zf mX7_account 96 = some (.getfield 289, 3, 99) := by decide +kernel
theorem fX7_account_99 : zf mX7_account 99 = some (.ireturn, 1, 100) := by decide +kernel
theorem fX7_account_100 : zf mX7_account 100 = some (.aload_n 0, 1, 101) := by decide +kernel
theorem fX7_account_101 : zf mX7_account 101 = some (.getfield 25, 3, 104) := by decide +kernel
theorem fX7_account_104 : zf mX7_account 104 = some (.getfield 292, 3, 107) := by decide +kernel
theorem fX7_account_107 : zf mX7_account 107 = some (.ireturn, 1, 108) := by decide +kernel
theorem fX7_account_108 : zf mX7_account 108 = some (.aload_n 0, 1, 109) := by decide +kernel
theorem fX7_account_109 : zf mX7_account 109 = some (.getfield 44, 3, 112) := by decide +kernel
theorem fX7_account_112 : zf mX7_account 112 = some (.invokevirtual 295, 3, 115) := by decide +kernel
theorem fX7_account_115 : zf mX7_account 115 = some (.ireturn, 1, 116) := by decide +kernel
theorem fX7_account_116 : zf mX7_account 116 = some (.aload_n 0, 1, 117) := by decide +kernel
theorem fX7_account_117 : zf mX7_account 117 = some (.getfield 51, 3, 120) := by decide +kernel
theorem fX7_account_120 : zf mX7_account 120 = some (.invokevirtual 216, 3, 123) := by decide +kernel
theorem fX7_account_123 : zf mX7_account 123 = some (.ireturn, 1, 124) := by decide +kernel
theorem fX7_account_124 : zf mX7_account 124 = some (.new 151, 3, 127) := by decide +kernel
theorem fX7_account_127 : zf mX7_account 127 = some (.dup, 1, 128) := by decide +kernel
theorem fX7_account_128 : zf mX7_account 128 = some (.ldc_w 296, 3, 131) := by decide +kernel
theorem fX7_account_131 : zf mX7_account 131 = some (.invokespecial 155, 3, 134) := by decide +kernel
theorem fX7_account_134 : zf mX7_account 134 = some (.athrow, 1, 135) := by decide +kernel
theorem fX7_undo_0 : zf mX7_undo 0 = some (.aload_n 0, 1, 1) := by decide +kernel
theorem fX7_undo_1 : zf mX7_undo 1 = some (.getfield 44, 3, 4) := by decide +kernel
theorem fX7_undo_4 : zf mX7_undo 4 = some (.invokevirtual 295, 3, 7) := by decide +kernel
theorem fX7_undo_7 : zf mX7_undo 7 = some (.iconst 1, 1, 8) := by decide +kernel
theorem fX7_undo_8 : zf mX7_undo 8 = some (.if_icmp .ge 14, 3, 11) := by decide +kernel
theorem fX7_undo_11 : zf mX7_undo 11 = some (.new 207, 3, 14) := by decide +kernel
theorem fX7_undo_14 : zf mX7_undo 14 = some (.dup, 1, 15) := by decide +kernel
theorem fX7_undo_15 : zf mX7_undo 15 = some (.ldc_w 298, 3, 18) := by decide +kernel
theorem fX7_undo_18 : zf mX7_undo 18 = some (.invokespecial 211, 3, 21) := by decide +kernel
theorem fX7_undo_21 : zf mX7_undo 21 = some (.athrow, 1, 22) := by decide +kernel
theorem fX7_undo_22 : zf mX7_undo 22 = some (.aload_n 0, 1, 23) := by decide +kernel
theorem fX7_undo_23 : zf mX7_undo 23 = some (.getfield 44, 3, 26) := by decide +kernel
theorem fX7_undo_26 : zf mX7_undo 26 = some (.invokevirtual 300, 3, 29) := by decide +kernel
theorem fX7_undo_29 : zf mX7_undo 29 = some (.aload_n 0, 1, 30) := by decide +kernel
theorem fX7_undo_30 : zf mX7_undo 30 = some (.getfield 44, 3, 33) := by decide +kernel
theorem fX7_undo_33 : zf mX7_undo 33 = some (.aload_n 0, 1, 34) := by decide +kernel
theorem fX7_undo_34 : zf mX7_undo 34 = some (.getfield 25, 3, 37) := by decide +kernel
theorem fX7_undo_37 : zf mX7_undo 37 = some (.invokevirtual 303, 3, 40) := by decide +kernel
theorem fX7_undo_40 : zf mX7_undo 40 = some (.aload_n 0, 1, 41) := by decide +kernel
theorem fX7_undo_41 : zf mX7_undo 41 = some (.getfield 44, 3, 44) := by decide +kernel
theorem fX7_undo_44 : zf mX7_undo 44 = some (.invokevirtual 295, 3, 47) := by decide +kernel
theorem fX7_undo_47 : zf mX7_undo 47 = some (.ireturn, 1, 48) := by decide +kernel
theorem fX7_save_0 : zf mX7_save 0 = some (.aload_n 0, 1, 1) := by decide +kernel
theorem fX7_save_1 : zf mX7_save 1 = some (.getfield 34, 3, 4) := by decide +kernel
theorem fX7_save_4 : zf mX7_save 4 = some (.aload_n 0, 1, 5) := by decide +kernel
theorem fX7_save_5 : zf mX7_save 5 = some (.getfield 25, 3, 8) := by decide +kernel
theorem fX7_save_8 : zf mX7_save 8 = some (.invokevirtual 306, 3, 11) := by decide +kernel
theorem fX7_save_11 : zf mX7_save 11 = some (.aload_n 0, 1, 12) := by decide +kernel
theorem fX7_save_12 : zf mX7_save 12 = some (.iconst 1, 1, 13) := by decide +kernel
theorem fX7_save_13 : zf mX7_save 13 = some (.putfield 37, 3, 16) := by decide +kernel
theorem fX7_save_16 : zf mX7_save 16 = some (.aload_n 0, 1, 17) := by decide +kernel
theorem fX7_save_17 : zf mX7_save 17 = some (.getfield 32, 3, 20) := by decide +kernel
theorem fX7_save_20 : zf mX7_save 20 = some (.invokevirtual 194, 3, 23) := by decide +kernel
theorem fX7_save_23 : zf mX7_save 23 = some (.ireturn, 1, 24) := by decide +kernel
theorem fX7_restore_0 : zf mX7_restore 0 = some (.aload_n 0, 1, 1) := by decide +kernel
theorem fX7_restore_1 : zf mX7_restore 1 = some (.getfield 37, 3, 4) := by decide +kernel
theorem fX7_restore_4 : zf mX7_restore 4 = some (.ifCond .ne 14, 3, 7) := by decide +kernel
theorem fX7_restore_7 : zf mX7_restore 7 = some (.new 207, 3, 10) := by decide +kernel
theorem fX7_restore_10 : zf mX7_restore 10 = some (.dup, 1, 11) := by decide +kernel
theorem fX7_restore_11 : zf mX7_restore 11 = some (.ldc_w 309, 3, 14) := by decide +kernel
theorem fX7_restore_14 : zf mX7_restore 14 = some (.invokespecial 211, 3, 17) := by decide +kernel
theorem fX7_restore_17 : zf mX7_restore 17 = some (.athrow, 1, 18) := by decide +kernel
theorem fX7_restore_18 : zf mX7_restore 18 = some (.aload_n 0, 1, 19) := by decide +kernel
theorem fX7_restore_19 : zf mX7_restore 19 = some (.getfield 25, 3, 22) := by decide +kernel
theorem fX7_restore_22 : zf mX7_restore 22 = some (.aload_n 0, 1, 23) := by decide +kernel
theorem fX7_restore_23 : zf mX7_restore 23 = some (.getfield 34, 3, 26) := by decide +kernel
theorem fX7_restore_26 : zf mX7_restore 26 = some (.invokevirtual 306, 3, 29) := by decide +kernel
theorem fX7_restore_29 : zf mX7_restore 29 = some (.aload_n 0, 1, 30) := by decide +kernel
theorem fX7_restore_30 : zf mX7_restore 30 = some (.getfield 44, 3, 33) := by decide +kernel
theorem fX7_restore_33 : zf mX7_restore 33 = some (.invokevirtual 311, 3, 36) := by decide +kernel
theorem fX7_restore_36 : zf mX7_restore 36 = some (.aload_n 0, 1, 37) := by decide +kernel
theorem fX7_restore_37 : zf mX7_restore 37 = some (.getfield 32, 3, 40) := by decide +kernel
theorem fX7_restore_40 : zf mX7_restore 40 = some (.invokevirtual 194, 3, 43) := by decide +kernel
theorem fX7_restore_43 : zf mX7_restore 43 = some (.ireturn, 1, 44) := by decide +kernel
theorem fX7_settled_0 : zf mX7_settled 0 = some (.iload_n 1, 1, 1) := by decide +kernel
theorem fX7_settled_1 : zf mX7_settled 1 = some (.iconst (-1), 1, 2) := by decide +kernel
theorem fX7_settled_2 : zf mX7_settled 2 = some (.if_icmp .ne 25, 3, 5) := by decide +kernel
theorem fX7_settled_5 : zf mX7_settled 5 = some (.aload_n 0, 1, 6) := by decide +kernel
theorem fX7_settled_6 : zf mX7_settled 6 = some (.getfield 44, 3, 9) := by decide +kernel
theorem fX7_settled_9 : zf mX7_settled 9 = some (.aload_n 0, 1, 10) := by decide +kernel
theorem fX7_settled_10 : zf mX7_settled 10 = some (.getfield 25, 3, 13) := by decide +kernel
theorem fX7_settled_13 : zf mX7_settled 13 = some (.invokevirtual 303, 3, 16) := by decide +kernel
theorem fX7_settled_16 : zf mX7_settled 16 = some (.new 314, 3, 19) := by decide +kernel
theorem fX7_settled_19 : zf mX7_settled 19 = some (.dup, 1, 20) := by decide +kernel
theorem fX7_settled_20 : zf mX7_settled 20 = some (.ldc_w 316, 3, 23) := by decide +kernel
theorem fX7_settled_23 : zf mX7_settled 23 = some (.invokespecial 318, 3, 26) := by decide +kernel
theorem fX7_settled_26 : zf mX7_settled 26 = some (.athrow, 1, 27) := by decide +kernel
theorem fX7_settled_27 : zf mX7_settled 27 = some (.aload_n 0, 1, 28) := by decide +kernel
theorem fX7_settled_28 : zf mX7_settled 28 = some (.getfield 44, 3, 31) := by decide +kernel
theorem fX7_settled_31 : zf mX7_settled 31 = some (.invokevirtual 319, 3, 34) := by decide +kernel
theorem fX7_settled_34 : zf mX7_settled 34 = some (.iload_n 1, 1, 35) := by decide +kernel
theorem fX7_settled_35 : zf mX7_settled 35 = some (.ireturn, 1, 36) := by decide +kernel
theorem fX7_checkVersion_0 : zf mX7_checkVersion 0 = some (.aload_n 0, 1, 1) := by decide +kernel
theorem fX7_checkVersion_1 : zf mX7_checkVersion 1 = some (.getfield 32, 3, 4) := by decide +kernel
theorem fX7_checkVersion_4 : zf mX7_checkVersion 4 = some (.iload_n 1, 1, 5) := by decide +kernel
theorem fX7_checkVersion_5 : zf mX7_checkVersion 5 = some (.invokevirtual 322, 3, 8) := by decide +kernel
theorem fX7_checkVersion_8 : zf mX7_checkVersion 8 = some (.ifCond .ne 14, 3, 11) := by decide +kernel
theorem fX7_checkVersion_11 : zf mX7_checkVersion 11 = some (.new 263, 3, 14) := by decide +kernel
theorem fX7_checkVersion_14 : zf mX7_checkVersion 14 = some (.dup, 1, 15) := by decide +kernel
theorem fX7_checkVersion_15 : zf mX7_checkVersion 15 = some (.ldc_w 326, 3, 18) := by decide +kernel
theorem fX7_checkVersion_18 : zf mX7_checkVersion 18 = some (.invokespecial 267, 3, 21) := by decide +kernel
theorem fX7_checkVersion_21 : zf mX7_checkVersion 21 = some (.athrow, 1, 22) := by decide +kernel
theorem fX7_checkVersion_22 : zf mX7_checkVersion 22 = some (.return_, 1, 23) := by decide +kernel
theorem fX7_checkHouse_0 : zf mX7_checkHouse 0 = some (.iload_n 0, 1, 1) := by decide +kernel
theorem fX7_checkHouse_1 : zf mX7_checkHouse 1 = some (.invokestatic 328, 3, 4) := by decide +kernel
theorem fX7_checkHouse_4 : zf mX7_checkHouse 4 = some (.ifCond .ne 14, 3, 7) := by decide +kernel
theorem fX7_checkHouse_7 : zf mX7_checkHouse 7 = some (.new 263, 3, 10) := by decide +kernel
theorem fX7_checkHouse_10 : zf mX7_checkHouse 10 = some (.dup, 1, 11) := by decide +kernel
theorem fX7_checkHouse_11 : zf mX7_checkHouse 11 = some (.ldc_w 331, 3, 14) := by decide +kernel
theorem fX7_checkHouse_14 : zf mX7_checkHouse 14 = some (.invokespecial 267, 3, 17) := by decide +kernel
theorem fX7_checkHouse_17 : zf mX7_checkHouse 17 = some (.athrow, 1, 18) := by decide +kernel
theorem fX7_checkHouse_18 : zf mX7_checkHouse 18 = some (.return_, 1, 19) := by decide +kernel
theorem fX7_checkLines_0 : zf mX7_checkLines 0 = some (.iload_n 0, 1, 1) := by decide +kernel
theorem fX7_checkLines_1 : zf mX7_checkLines 1 = some (.invokestatic 333, 3, 4) := by decide +kernel
theorem fX7_checkLines_4 : zf mX7_checkLines 4 = some (.ifCond .eq 15, 3, 7) := by decide +kernel
theorem fX7_checkLines_7 : zf mX7_checkLines 7 = some (.iload_n 1, 1, 8) := by decide +kernel
theorem fX7_checkLines_8 : zf mX7_checkLines 8 = some (.invokestatic 333, 3, 11) := by decide +kernel
theorem fX7_checkLines_11 : zf mX7_checkLines 11 = some (.ifCond .eq 8, 3, 14) := by decide +kernel
theorem fX7_checkLines_14 : zf mX7_checkLines 14 = some (.iload_n 1, 1, 15) := by decide +kernel
theorem fX7_checkLines_15 : zf mX7_checkLines 15 = some (.iload_n 0, 1, 16) := by decide +kernel
theorem fX7_checkLines_16 : zf mX7_checkLines 16 = some (.if_icmp .ge 14, 3, 19) := by decide +kernel
theorem fX7_checkLines_19 : zf mX7_checkLines 19 = some (.new 151, 3, 22) := by decide +kernel
theorem fX7_checkLines_22 : zf mX7_checkLines 22 = some (.dup, 1, 23) := by decide +kernel
theorem fX7_checkLines_23 : zf mX7_checkLines 23 = some (.ldc_w 336, 3, 26) := by decide +kernel
theorem fX7_checkLines_26 : zf mX7_checkLines 26 = some (.invokespecial 155, 3, 29) := by decide +kernel
theorem fX7_checkLines_29 : zf mX7_checkLines 29 = some (.athrow, 1, 30) := by decide +kernel
theorem fX7_checkLines_30 : zf mX7_checkLines 30 = some (.return_, 1, 31) := by decide +kernel
theorem fX7_checkSpan_0 : zf mX7_checkSpan 0 = some (.iload_n 0, 1, 1) := by decide +kernel
theorem fX7_checkSpan_1 : zf mX7_checkSpan 1 = some (.invokestatic 338, 3, 4) := by decide +kernel
theorem fX7_checkSpan_4 : zf mX7_checkSpan 4 = some (.ifCond .ne 14, 3, 7) := by decide +kernel
theorem fX7_checkSpan_7 : zf mX7_checkSpan 7 = some (.new 151, 3, 10) := by decide +kernel
theorem fX7_checkSpan_10 : zf mX7_checkSpan 10 = some (.dup, 1, 11) := by decide +kernel
theorem fX7_checkSpan_11 : zf mX7_checkSpan 11 = some (.ldc_w 341, 3, 14) := by decide +kernel
theorem fX7_checkSpan_14 : zf mX7_checkSpan 14 = some (.invokespecial 155, 3, 17) := by decide +kernel
theorem fX7_checkSpan_17 : zf mX7_checkSpan 17 = some (.athrow, 1, 18) := by decide +kernel
theorem fX7_checkSpan_18 : zf mX7_checkSpan 18 = some (.return_, 1, 19) := by decide +kernel
theorem fX7_isHouse_0 : zf mX7_isHouse 0 = some (.iload_n 0, 1, 1) := by decide +kernel
theorem fX7_isHouse_1 : zf mX7_isHouse 1 = some (.ifCond .lt 12, 3, 4) := by decide +kernel
theorem fX7_isHouse_4 : zf mX7_isHouse 4 = some (.iload_n 0, 1, 5) := by decide +kernel
theorem fX7_isHouse_5 : zf mX7_isHouse 5 = some (.iconst 4, 1, 6) := by decide +kernel
theorem fX7_isHouse_6 : zf mX7_isHouse 6 = some (.if_icmp .ge 7, 3, 9) := by decide +kernel
theorem fX7_isHouse_9 : zf mX7_isHouse 9 = some (.iconst 1, 1, 10) := by decide +kernel
theorem fX7_isHouse_10 : zf mX7_isHouse 10 = some (.goto 4, 3, 13) := by decide +kernel
theorem fX7_isHouse_13 : zf mX7_isHouse 13 = some (.iconst 0, 1, 14) := by decide +kernel
theorem fX7_isHouse_14 : zf mX7_isHouse 14 = some (.ireturn, 1, 15) := by decide +kernel
theorem fX7_isLine_0 : zf mX7_isLine 0 = some (.iload_n 0, 1, 1) := by decide +kernel
theorem fX7_isLine_1 : zf mX7_isLine 1 = some (.ifCond .lt 13, 3, 4) := by decide +kernel
theorem fX7_isLine_4 : zf mX7_isLine 4 = some (.iload_n 0, 1, 5) := by decide +kernel
theorem fX7_isLine_5 : zf mX7_isLine 5 = some (.bipush 16, 2, 7) := by decide +kernel
theorem fX7_isLine_7 : zf mX7_isLine 7 = some (.if_icmp .ge 7, 3, 10) := by decide +kernel
theorem fX7_isLine_10 : zf mX7_isLine 10 = some (.iconst 1, 1, 11) := by decide +kernel
theorem fX7_isLine_11 : zf mX7_isLine 11 = some (.goto 4, 3, 14) := by decide +kernel
theorem fX7_isLine_14 : zf mX7_isLine 14 = some (.iconst 0, 1, 15) := by decide +kernel
theorem fX7_isLine_15 : zf mX7_isLine 15 = some (.ireturn, 1, 16) := by decide +kernel
theorem fX7_isSpan_0 : zf mX7_isSpan 0 = some (.iload_n 0, 1, 1) := by decide +kernel
theorem fX7_isSpan_1 : zf mX7_isSpan 1 = some (.ifCond .lt 13, 3, 4) := by decide +kernel
theorem fX7_isSpan_4 : zf mX7_isSpan 4 = some (.iload_n 0, 1, 5) := by decide +kernel
theorem fX7_isSpan_5 : zf mX7_isSpan 5 = some (.bipush 31, 2, 7) := by decide +kernel
theorem fX7_isSpan_7 : zf mX7_isSpan 7 = some (.if_icmp .ge 7, 3, 10) := by decide +kernel
theorem fX7_isSpan_10 : zf mX7_isSpan 10 = some (.iconst 1, 1, 11) := by decide +kernel
theorem fX7_isSpan_11 : zf mX7_isSpan 11 = some (.goto 4, 3, 14) := by decide +kernel
theorem fX7_isSpan_14 : zf mX7_isSpan 14 = some (.iconst 0, 1, 15) := by decide +kernel
theorem fX7_isSpan_15 : zf mX7_isSpan 15 = some (.ireturn, 1, 16) := by decide +kernel
theorem fX7_isInside_0 : zf mX7_isInside 0 = some (.iload_n 0, 1, 1) := by decide +kernel
theorem fX7_isInside_1 : zf mX7_isInside 1 = some (.invokestatic 338, 3, 4) := by decide +kernel
theorem fX7_isInside_4 : zf mX7_isInside 4 = some (.ifCond .eq 25, 3, 7) := by decide +kernel
theorem fX7_isInside_7 : zf mX7_isInside 7 = some (.getstatic 343, 3, 10) := by decide +kernel
theorem fX7_isInside_10 : zf mX7_isInside 10 = some (.iload_n 0, 1, 11) := by decide +kernel
theorem fX7_isInside_11 : zf mX7_isInside 11 = some (.iaload, 1, 12) := by decide +kernel
theorem fX7_isInside_12 : zf mX7_isInside 12 = some (.iload_n 1, 1, 13) := by decide +kernel
theorem fX7_isInside_13 : zf mX7_isInside 13 = some (.if_icmp .lt 16, 3, 16) := by decide +kernel
theorem fX7_isInside_16 : zf mX7_isInside 16 = some (.getstatic 347, 3, 19) := by decide +kernel
theorem fX7_isInside_19 : zf mX7_isInside 19 = some (.iload_n 0, 1, 20) := by decide +kernel
theorem fX7_isInside_20 : zf mX7_isInside 20 = some (.iaload, 1, 21) := by decide +kernel
theorem fX7_isInside_21 : zf mX7_isInside 21 = some (.iload_n 2, 1, 22) := by decide +kernel
theorem fX7_isInside_22 : zf mX7_isInside 22 = some (.if_icmp .gt 7, 3, 25) := by decide +kernel
theorem fX7_isInside_25 : zf mX7_isInside 25 = some (.iconst 1, 1, 26) := by decide +kernel
theorem fX7_isInside_26 : zf mX7_isInside 26 = some (.goto 4, 3, 29) := by decide +kernel
theorem fX7_isInside_29 : zf mX7_isInside 29 = some (.iconst 0, 1, 30) := by decide +kernel
theorem fX7_isInside_30 : zf mX7_isInside 30 = some (.ireturn, 1, 31) := by decide +kernel
theorem fX7_isCut_0 : zf mX7_isCut 0 = some (.iload_n 0, 1, 1) := by decide +kernel
theorem fX7_isCut_1 : zf mX7_isCut 1 = some (.invokestatic 338, 3, 4) := by decide +kernel
theorem fX7_isCut_4 : zf mX7_isCut 4 = some (.ifCond .eq 43, 3, 7) := by decide +kernel
theorem fX7_isCut_7 : zf mX7_isCut 7 = some (.getstatic 343, 3, 10) := by decide +kernel
theorem fX7_isCut_10 : zf mX7_isCut 10 = some (.iload_n 0, 1, 11) := by decide +kernel
theorem fX7_isCut_11 : zf mX7_isCut 11 = some (.iaload, 1, 12) := by decide +kernel
theorem fX7_isCut_12 : zf mX7_isCut 12 = some (.iload_n 2, 1, 13) := by decide +kernel
theorem fX7_isCut_13 : zf mX7_isCut 13 = some (.if_icmp .gt 34, 3, 16) := by decide +kernel
theorem fX7_isCut_16 : zf mX7_isCut 16 = some (.getstatic 347, 3, 19) := by decide +kernel
theorem fX7_isCut_19 : zf mX7_isCut 19 = some (.iload_n 0, 1, 20) := by decide +kernel
theorem fX7_isCut_20 : zf mX7_isCut 20 = some (.iaload, 1, 21) := by decide +kernel
theorem fX7_isCut_21 : zf mX7_isCut 21 = some (.iload_n 1, 1, 22) := by decide +kernel
theorem fX7_isCut_22 : zf mX7_isCut 22 = some (.if_icmp .lt 25, 3, 25) := by decide +kernel
theorem fX7_isCut_25 : zf mX7_isCut 25 = some (.getstatic 343, 3, 28) := by decide +kernel
theorem fX7_isCut_28 : zf mX7_isCut 28 = some (.iload_n 0, 1, 29) := by decide +kernel
theorem fX7_isCut_29 : zf mX7_isCut 29 = some (.iaload, 1, 30) := by decide +kernel
theorem fX7_isCut_30 : zf mX7_isCut 30 = some (.iload_n 1, 1, 31) := by decide +kernel
theorem fX7_isCut_31 : zf mX7_isCut 31 = some (.if_icmp .lt 12, 3, 34) := by decide +kernel
theorem fX7_isCut_34 : zf mX7_isCut 34 = some (.getstatic 347, 3, 37) := by decide +kernel
theorem fX7_isCut_37 : zf mX7_isCut 37 = some (.iload_n 0, 1, 38) := by decide +kernel
theorem fX7_isCut_38 : zf mX7_isCut 38 = some (.iaload, 1, 39) := by decide +kernel
theorem fX7_isCut_39 : zf mX7_isCut 39 = some (.iload_n 2, 1, 40) := by decide +kernel
theorem fX7_isCut_40 : zf mX7_isCut 40 = some (.if_icmp .le 7, 3, 43) := by decide +kernel
theorem fX7_isCut_43 : zf mX7_isCut 43 = some (.iconst 1, 1, 44) := by decide +kernel
theorem fX7_isCut_44 : zf mX7_isCut 44 = some (.goto 4, 3, 47) := by decide +kernel
theorem fX7_isCut_47 : zf mX7_isCut 47 = some (.iconst 0, 1, 48) := by decide +kernel
theorem fX7_isCut_48 : zf mX7_isCut 48 = some (.ireturn, 1, 49) := by decide +kernel
theorem fX7_isDigit_0 : zf mX7_isDigit 0 = some (.iload_n 0, 1, 1) := by decide +kernel
theorem fX7_isDigit_1 : zf mX7_isDigit 1 = some (.bipush 48, 2, 3) := by decide +kernel
theorem fX7_isDigit_3 : zf mX7_isDigit 3 = some (.if_icmp .lt 13, 3, 6) := by decide +kernel
theorem fX7_isDigit_6 : zf mX7_isDigit 6 = some (.iload_n 0, 1, 7) := by decide +kernel
theorem fX7_isDigit_7 : zf mX7_isDigit 7 = some (.bipush 57, 2, 9) := by decide +kernel
theorem fX7_isDigit_9 : zf mX7_isDigit 9 = some (.if_icmp .gt 7, 3, 12) := by decide +kernel
theorem fX7_isDigit_12 : zf mX7_isDigit 12 = some (.iconst 1, 1, 13) := by decide +kernel
theorem fX7_isDigit_13 : zf mX7_isDigit 13 = some (.goto 4, 3, 16) := by decide +kernel
theorem fX7_isDigit_16 : zf mX7_isDigit 16 = some (.iconst 0, 1, 17) := by decide +kernel
theorem fX7_isDigit_17 : zf mX7_isDigit 17 = some (.ireturn, 1, 18) := by decide +kernel
theorem fJ0_length_8abf5_0 : zf mJ0_length_8abf5 0 = some (.aload_n 0, 1, 1) := by decide +kernel
theorem fJ0_length_8abf5_1 : zf mJ0_length_8abf5 1 = some (.getfield 9, 3, 4) := by decide +kernel
theorem fJ0_length_8abf5_4 : zf mJ0_length_8abf5 4 = some (.arraylength, 1, 5) := by decide +kernel
theorem fJ0_length_8abf5_5 : zf mJ0_length_8abf5 5 = some (.aload_n 0, 1, 6) := by decide +kernel
theorem fJ0_length_8abf5_6 : zf mJ0_length_8abf5 6 = some (.invokevirtual 335, 3, 9) := by decide +kernel
theorem fJ0_length_8abf5_9 : zf mJ0_length_8abf5 9 = some (.ishr, 1, 10) := by decide +kernel
theorem fJ0_length_8abf5_10 : zf mJ0_length_8abf5 10 = some (.ireturn, 1, 11) := by decide +kernel
theorem fJ0_isEmpty_aae02_0 : zf mJ0_isEmpty_aae02 0 = some (.aload_n 0, 1, 1) := by decide +kernel
theorem fJ0_isEmpty_aae02_1 : zf mJ0_isEmpty_aae02 1 = some (.getfield 9, 3, 4) := by decide +kernel
theorem fJ0_isEmpty_aae02_4 : zf mJ0_isEmpty_aae02 4 = some (.arraylength, 1, 5) := by decide +kernel
theorem fJ0_isEmpty_aae02_5 : zf mJ0_isEmpty_aae02 5 = some (.ifCond .ne 7, 3, 8) := by decide +kernel
theorem fJ0_isEmpty_aae02_8 : zf mJ0_isEmpty_aae02 8 = some (.iconst 1, 1, 9) := by decide +kernel
theorem fJ0_isEmpty_aae02_9 : zf mJ0_isEmpty_aae02 9 = some (.goto 4, 3, 12) := by decide +kernel
theorem fJ0_isEmpty_aae02_12 : zf mJ0_isEmpty_aae02 12 = some (.iconst 0, 1, 13) := by decide +kernel
theorem fJ0_isEmpty_aae02_13 : zf mJ0_isEmpty_aae02 13 = some (.ireturn, 1, 14) := by decide +kernel
theorem fJ0_charAt_5068e_0 : zf mJ0_charAt_5068e 0 = some (.aload_n 0, 1, 1) := by decide +kernel
theorem fJ0_charAt_5068e_1 : zf mJ0_charAt_5068e 1 = some (.invokevirtual 492, 3, 4) := by decide +kernel
theorem fJ0_charAt_5068e_4 : zf mJ0_charAt_5068e 4 = some (.ifCond .eq 12, 3, 7) := by decide +kernel
theorem fJ0_charAt_5068e_7 : zf mJ0_charAt_5068e 7 = some (.aload_n 0, 1, 8) := by decide +kernel
theorem fJ0_charAt_5068e_8 : zf mJ0_charAt_5068e 8 = some (.getfield 9, 3, 11) := by decide +kernel
theorem fJ0_charAt_5068e_11 : zf mJ0_charAt_5068e 11 = some (.iload_n 1, 1, 12) := by decide +kernel
theorem fJ0_charAt_5068e_12 : zf mJ0_charAt_5068e 12 = some (.invokestatic 495, 3, 15) := by decide +kernel
theorem fJ0_charAt_5068e_15 : zf mJ0_charAt_5068e 15 = some (.ireturn, 1, 16) := by decide +kernel
theorem fJ0_charAt_5068e_16 : zf mJ0_charAt_5068e 16 = some (.aload_n 0, 1, 17) := by decide +kernel
theorem fJ0_charAt_5068e_17 : zf mJ0_charAt_5068e 17 = some (.getfield 9, 3, 20) := by decide +kernel
theorem fJ0_charAt_5068e_20 : zf mJ0_charAt_5068e 20 = some (.iload_n 1, 1, 21) := by decide +kernel
theorem fJ0_charAt_5068e_21 : zf mJ0_charAt_5068e 21 = some (.invokestatic 498, 3, 24) := by decide +kernel
theorem fJ0_charAt_5068e_24 : zf mJ0_charAt_5068e 24 = some (.ireturn, 1, 25) := by decide +kernel
theorem fJ0_coder_7d493_0 : zf mJ0_coder_7d493 0 = some (.getstatic 38, 3, 3) := by decide +kernel
theorem fJ0_coder_7d493_3 : zf mJ0_coder_7d493 3 = some (.ifCond .eq 10, 3, 6) := by decide +kernel
theorem fJ0_coder_7d493_6 : zf mJ0_coder_7d493 6 = some (.aload_n 0, 1, 7) := by decide +kernel
theorem fJ0_coder_7d493_7 : zf mJ0_coder_7d493 7 = some (.getfield 15, 3, 10) := by decide +kernel
theorem fJ0_coder_7d493_10 : zf mJ0_coder_7d493 10 = some (.goto 4, 3, 13) := by decide +kernel
theorem fJ0_coder_7d493_13 : zf mJ0_coder_7d493 13 = some (.iconst 1, 1, 14) := by decide +kernel
theorem fJ0_coder_7d493_14 : zf mJ0_coder_7d493 14 = some (.ireturn, 1, 15) := by decide +kernel
theorem fJ0_isLatin1_aae02_0 : zf mJ0_isLatin1_aae02 0 = some (.getstatic 38, 3, 3) := by decide +kernel
theorem fJ0_isLatin1_aae02_3 : zf mJ0_isLatin1_aae02 3 = some (.ifCond .eq 14, 3, 6) := by decide +kernel
theorem fJ0_isLatin1_aae02_6 : zf mJ0_isLatin1_aae02 6 = some (.aload_n 0, 1, 7) := by decide +kernel
theorem fJ0_isLatin1_aae02_7 : zf mJ0_isLatin1_aae02 7 = some (.getfield 15, 3, 10) := by decide +kernel
theorem fJ0_isLatin1_aae02_10 : zf mJ0_isLatin1_aae02 10 = some (.ifCond .ne 7, 3, 13) := by decide +kernel
theorem fJ0_isLatin1_aae02_13 : zf mJ0_isLatin1_aae02 13 = some (.iconst 1, 1, 14) := by decide +kernel
theorem fJ0_isLatin1_aae02_14 : zf mJ0_isLatin1_aae02 14 = some (.goto 4, 3, 17) := by decide +kernel
theorem fJ0_isLatin1_aae02_17 : zf mJ0_isLatin1_aae02 17 = some (.iconst 0, 1, 18) := by decide +kernel
theorem fJ0_isLatin1_aae02_18 : zf mJ0_isLatin1_aae02 18 = some (.ireturn, 1, 19) := by decide +kernel
theorem fJ0_checkIndex_df160_0 : zf mJ0_checkIndex_df160 0 = some (.iload_n 0, 1, 1) := by decide +kernel
theorem fJ0_checkIndex_df160_1 : zf mJ0_checkIndex_df160 1 = some (.iload_n 1, 1, 2) := by decide +kernel
theorem fJ0_checkIndex_df160_2 : zf mJ0_checkIndex_df160 2 = some (.getstatic 1053, 3, 5) := by decide +kernel
theorem fJ0_checkIndex_df160_5 : zf mJ0_checkIndex_df160 5 = some (.invokestatic 1059, 3, 8) := by decide +kernel
theorem fJ0_checkIndex_df160_8 : zf mJ0_checkIndex_df160 8 = some (.pop, 1, 9) := by decide +kernel
theorem fJ0_checkIndex_df160_9 : zf mJ0_checkIndex_df160 9 = some (.return_, 1, 10) := by decide +kernel
theorem fJ1_charAt_3b067_0 : zf mJ1_charAt_3b067 0 = some (.iload_n 1, 1, 1) := by decide +kernel
theorem fJ1_charAt_3b067_1 : zf mJ1_charAt_3b067 1 = some (.aload_n 0, 1, 2) := by decide +kernel
theorem fJ1_charAt_3b067_2 : zf mJ1_charAt_3b067 2 = some (.arraylength, 1, 3) := by decide +kernel
theorem fJ1_charAt_3b067_3 : zf mJ1_charAt_3b067 3 = some (.invokestatic 9, 3, 6) := by decide +kernel
theorem fJ1_charAt_3b067_6 : zf mJ1_charAt_3b067 6 = some (.aload_n 0, 1, 7) := by decide +kernel
theorem fJ1_charAt_3b067_7 : zf mJ1_charAt_3b067 7 = some (.iload_n 1, 1, 8) := by decide +kernel
theorem fJ1_charAt_3b067_8 : zf mJ1_charAt_3b067 8 = some (.baload, 1, 9) := by decide +kernel
theorem fJ1_charAt_3b067_9 : zf mJ1_charAt_3b067 9 = some (.sipush 255, 3, 12) := by decide +kernel
theorem fJ1_charAt_3b067_12 : zf mJ1_charAt_3b067 12 = some (.iand, 1, 13) := by decide +kernel
theorem fJ1_charAt_3b067_13 : zf mJ1_charAt_3b067 13 = some (.i2c, 1, 14) := by decide +kernel
theorem fJ1_charAt_3b067_14 : zf mJ1_charAt_3b067 14 = some (.ireturn, 1, 15) := by decide +kernel
theorem fJ3_checkIndex_8e157_0 : zf mJ3_checkIndex_8e157 0 = some (.iload_n 0, 1, 1) := by decide +kernel
theorem fJ3_checkIndex_8e157_1 : zf mJ3_checkIndex_8e157 1 = some (.ifCond .lt 8, 3, 4) := by decide +kernel
theorem fJ3_checkIndex_8e157_4 : zf mJ3_checkIndex_8e157 4 = some (.iload_n 0, 1, 5) := by decide +kernel
theorem fJ3_checkIndex_8e157_5 : zf mJ3_checkIndex_8e157 5 = some (.iload_n 1, 1, 6) := by decide +kernel
theorem fJ3_checkIndex_8e157_6 : zf mJ3_checkIndex_8e157 6 = some (.if_icmp .lt 10, 3, 9) := by decide +kernel
theorem fJ3_checkIndex_8e157_9 : zf mJ3_checkIndex_8e157 9 = some (.aload_n 2, 1, 10) := by decide +kernel
theorem fJ3_checkIndex_8e157_10 : zf mJ3_checkIndex_8e157 10 = some (.iload_n 0, 1, 11) := by decide +kernel
theorem fJ3_checkIndex_8e157_11 : zf mJ3_checkIndex_8e157 11 = some (.iload_n 1, 1, 12) := by decide +kernel
theorem fJ3_checkIndex_8e157_12 : zf mJ3_checkIndex_8e157 12 = some (.invokestatic 95, 3, 15) := by decide +kernel
theorem fJ3_checkIndex_8e157_15 : zf mJ3_checkIndex_8e157 15 = some (.athrow, 1, 16) := by decide +kernel
theorem fJ3_checkIndex_8e157_16 : zf mJ3_checkIndex_8e157 16 = some (.iload_n 0, 1, 17) := by decide +kernel
theorem fJ3_checkIndex_8e157_17 : zf mJ3_checkIndex_8e157 17 = some (.ireturn, 1, 18) := by decide +kernel
end

section
-- ===== PART A: goes FIRST, ahead of the names: the tables' words, and 'selects' of the private methods out of them =====
/-- a private method of a class that the tables say can be made, by its rows of tables_1 -/
def lw_okq (q : MethodName × Nat) : Prop := (q.1.cls ≠ "java/lang/invoke/MethodHandle" ∧ q.1.cls ≠ "java/lang/invoke/VarHandle") ∧ Cond.instantiable q.1.cls q.2 ∈ tables_1 ∧ Cond.privateMethod q.1 ∈ tables_1 ∧ Cond.instanceMethod q.1 ∈ tables_1
theorem lw_p0 : lw_okq (⟨"AbbeyLedgers$Versions", "addChild", "(II)I"⟩, 5) := ⟨⟨by decide +kernel, by decide +kernel⟩, List.mem_of_getElem? (i := 44) (by decide +kernel), List.mem_of_getElem? (i := 303) (by decide +kernel), List.mem_of_getElem? (i := 304) (by decide +kernel)⟩
theorem lw_p1 : lw_okq (⟨"AbbeyLedgers$Versions", "makePage", "(III)V"⟩, 5) := ⟨⟨by decide +kernel, by decide +kernel⟩, List.mem_of_getElem? (i := 44) (by decide +kernel), List.mem_of_getElem? (i := 308) (by decide +kernel), List.mem_of_getElem? (i := 309) (by decide +kernel)⟩
theorem lw_p2 : lw_okq (⟨"AbbeyLedgers$Versions", "totalOfHalves", "(II)I"⟩, 5) := ⟨⟨by decide +kernel, by decide +kernel⟩, List.mem_of_getElem? (i := 44) (by decide +kernel), List.mem_of_getElem? (i := 320) (by decide +kernel), List.mem_of_getElem? (i := 321) (by decide +kernel)⟩
theorem lw_p3 : lw_okq (⟨"AbbeyLedgers", "settled", "(I)I"⟩, 10) := ⟨⟨by decide +kernel, by decide +kernel⟩, List.mem_of_getElem? (i := 24) (by decide +kernel), List.mem_of_getElem? (i := 329) (by decide +kernel), List.mem_of_getElem? (i := 330) (by decide +kernel)⟩
theorem lw_p4 : lw_okq (⟨"java/lang/Throwable", "fillInStackTrace", "(I)Ljava/lang/Throwable;"⟩, 6) := ⟨⟨by decide +kernel, by decide +kernel⟩, List.mem_of_getElem? (i := 385) (by decide +kernel), List.mem_of_getElem? (i := 383) (by decide +kernel), List.mem_of_getElem? (i := 384) (by decide +kernel)⟩
theorem lw_p5 : lw_okq (⟨"AbbeyLedgers$Versions", "takePage", "(III)V"⟩, 5) := ⟨⟨by decide +kernel, by decide +kernel⟩, List.mem_of_getElem? (i := 44) (by decide +kernel), List.mem_of_getElem? (i := 445) (by decide +kernel), List.mem_of_getElem? (i := 446) (by decide +kernel)⟩
theorem lw_p6 : lw_okq (⟨"AbbeyLedgers", "checkVersion", "(I)V"⟩, 10) := ⟨⟨by decide +kernel, by decide +kernel⟩, List.mem_of_getElem? (i := 24) (by decide +kernel), List.mem_of_getElem? (i := 531) (by decide +kernel), List.mem_of_getElem? (i := 532) (by decide +kernel)⟩
theorem lw_p7 : lw_okq (⟨"AbbeyLedgers$Versions", "versionsAheadOf", "(I)I"⟩, 5) := ⟨⟨by decide +kernel, by decide +kernel⟩, List.mem_of_getElem? (i := 44) (by decide +kernel), List.mem_of_getElem? (i := 762) (by decide +kernel), List.mem_of_getElem? (i := 763) (by decide +kernel)⟩
theorem lw_p8 : lw_okq (⟨"AbbeyLedgers$Versions", "pagesOfOthersMadeBy", "(I)I"⟩, 5) := ⟨⟨by decide +kernel, by decide +kernel⟩, List.mem_of_getElem? (i := 44) (by decide +kernel), List.mem_of_getElem? (i := 779) (by decide +kernel), List.mem_of_getElem? (i := 780) (by decide +kernel)⟩
theorem lw_p9 : lw_okq (⟨"AbbeyLedgers$Draft", "signAhead", "()C"⟩, 5) := ⟨⟨by decide +kernel, by decide +kernel⟩, List.mem_of_getElem? (i := 137) (by decide +kernel), List.mem_of_getElem? (i := 840) (by decide +kernel), List.mem_of_getElem? (i := 841) (by decide +kernel)⟩
theorem lw_p10 : lw_okq (⟨"AbbeyLedgers$Draft", "readNumber", "(II)Z"⟩, 5) := ⟨⟨by decide +kernel, by decide +kernel⟩, List.mem_of_getElem? (i := 137) (by decide +kernel), List.mem_of_getElem? (i := 908) (by decide +kernel), List.mem_of_getElem? (i := 909) (by decide +kernel)⟩
theorem lw_p11 : lw_okq (⟨"AbbeyLedgersModel", "refuses", "(II)I"⟩, 22) := ⟨⟨by decide +kernel, by decide +kernel⟩, List.mem_of_getElem? (i := 1052) (by decide +kernel), List.mem_of_getElem? (i := 1142) (by decide +kernel), List.mem_of_getElem? (i := 1143) (by decide +kernel)⟩
theorem lw_p12 : lw_okq (⟨"AbbeyLedgersModel", "amountOf", "(II)I"⟩, 22) := ⟨⟨by decide +kernel, by decide +kernel⟩, List.mem_of_getElem? (i := 1052) (by decide +kernel), List.mem_of_getElem? (i := 1146) (by decide +kernel), List.mem_of_getElem? (i := 1147) (by decide +kernel)⟩
theorem lw_p13 : lw_okq (⟨"AbbeyLedgersModel", "of", "(II)I"⟩, 22) := ⟨⟨by decide +kernel, by decide +kernel⟩, List.mem_of_getElem? (i := 1052) (by decide +kernel), List.mem_of_getElem? (i := 1150) (by decide +kernel), List.mem_of_getElem? (i := 1151) (by decide +kernel)⟩
theorem lw_p14 : lw_okq (⟨"AbbeyLedgersModel", "keeps", "([I)V"⟩, 22) := ⟨⟨by decide +kernel, by decide +kernel⟩, List.mem_of_getElem? (i := 1052) (by decide +kernel), List.mem_of_getElem? (i := 1154) (by decide +kernel), List.mem_of_getElem? (i := 1155) (by decide +kernel)⟩
theorem lw_p15 : lw_okq (⟨"AbbeyLedgersModel", "comes", "(I)I"⟩, 22) := ⟨⟨by decide +kernel, by decide +kernel⟩, List.mem_of_getElem? (i := 1052) (by decide +kernel), List.mem_of_getElem? (i := 1161) (by decide +kernel), List.mem_of_getElem? (i := 1162) (by decide +kernel)⟩
def lw_privs_1 : List (MethodName × Nat) := [(⟨"AbbeyLedgers$Versions", "addChild", "(II)I"⟩, 5), (⟨"AbbeyLedgers$Versions", "makePage", "(III)V"⟩, 5), (⟨"AbbeyLedgers$Versions", "totalOfHalves", "(II)I"⟩, 5), (⟨"AbbeyLedgers", "settled", "(I)I"⟩, 10), (⟨"java/lang/Throwable", "fillInStackTrace", "(I)Ljava/lang/Throwable;"⟩, 6), (⟨"AbbeyLedgers$Versions", "takePage", "(III)V"⟩, 5), (⟨"AbbeyLedgers", "checkVersion", "(I)V"⟩, 10), (⟨"AbbeyLedgers$Versions", "versionsAheadOf", "(I)I"⟩, 5), (⟨"AbbeyLedgers$Versions", "pagesOfOthersMadeBy", "(I)I"⟩, 5), (⟨"AbbeyLedgers$Draft", "signAhead", "()C"⟩, 5), (⟨"AbbeyLedgers$Draft", "readNumber", "(II)Z"⟩, 5), (⟨"AbbeyLedgersModel", "refuses", "(II)I"⟩, 22), (⟨"AbbeyLedgersModel", "amountOf", "(II)I"⟩, 22), (⟨"AbbeyLedgersModel", "of", "(II)I"⟩, 22), (⟨"AbbeyLedgersModel", "keeps", "([I)V"⟩, 22), (⟨"AbbeyLedgersModel", "comes", "(I)I"⟩, 22)]
theorem lw_r1 : ∀ q ∈ lw_privs_1, lw_okq q := List.forall_mem_cons.mpr ⟨lw_p0, List.forall_mem_cons.mpr ⟨lw_p1, List.forall_mem_cons.mpr ⟨lw_p2, List.forall_mem_cons.mpr ⟨lw_p3, List.forall_mem_cons.mpr ⟨lw_p4, List.forall_mem_cons.mpr ⟨lw_p5, List.forall_mem_cons.mpr ⟨lw_p6, List.forall_mem_cons.mpr ⟨lw_p7, List.forall_mem_cons.mpr ⟨lw_p8, List.forall_mem_cons.mpr ⟨lw_p9, List.forall_mem_cons.mpr ⟨lw_p10, List.forall_mem_cons.mpr ⟨lw_p11, List.forall_mem_cons.mpr ⟨lw_p12, List.forall_mem_cons.mpr ⟨lw_p13, List.forall_mem_cons.mpr ⟨lw_p14, List.forall_mem_cons.mpr ⟨lw_p15, fun _ h => absurd h List.not_mem_nil⟩⟩⟩⟩⟩⟩⟩⟩⟩⟩⟩⟩⟩⟩⟩⟩
theorem lw_p16 : lw_okq (⟨"AbbeyLedgersModel", "lays", "(III)V"⟩, 22) := ⟨⟨by decide +kernel, by decide +kernel⟩, List.mem_of_getElem? (i := 1052) (by decide +kernel), List.mem_of_getElem? (i := 1165) (by decide +kernel), List.mem_of_getElem? (i := 1166) (by decide +kernel)⟩
theorem lw_p17 : lw_okq (⟨"AbbeyLedgersModel", "has", "(III)Z"⟩, 22) := ⟨⟨by decide +kernel, by decide +kernel⟩, List.mem_of_getElem? (i := 1052) (by decide +kernel), List.mem_of_getElem? (i := 1169) (by decide +kernel), List.mem_of_getElem? (i := 1170) (by decide +kernel)⟩
theorem lw_p18 : lw_okq (⟨"AbbeyLedgersModel", "isVersion", "(I)Z"⟩, 22) := ⟨⟨by decide +kernel, by decide +kernel⟩, List.mem_of_getElem? (i := 1052) (by decide +kernel), List.mem_of_getElem? (i := 1177) (by decide +kernel), List.mem_of_getElem? (i := 1178) (by decide +kernel)⟩
theorem lw_p19 : lw_okq (⟨"AbbeyLedgersModel", "areLike", "(IIII)Z"⟩, 22) := ⟨⟨by decide +kernel, by decide +kernel⟩, List.mem_of_getElem? (i := 1052) (by decide +kernel), List.mem_of_getElem? (i := 1181) (by decide +kernel), List.mem_of_getElem? (i := 1182) (by decide +kernel)⟩
theorem lw_p20 : lw_okq (⟨"AbbeyLedgersModel", "isWithin0", "(III)Z"⟩, 22) := ⟨⟨by decide +kernel, by decide +kernel⟩, List.mem_of_getElem? (i := 1052) (by decide +kernel), List.mem_of_getElem? (i := 1185) (by decide +kernel), List.mem_of_getElem? (i := 1186) (by decide +kernel)⟩
theorem lw_p21 : lw_okq (⟨"AbbeyLedgersModel", "ancestors", "(I)I"⟩, 22) := ⟨⟨by decide +kernel, by decide +kernel⟩, List.mem_of_getElem? (i := 1052) (by decide +kernel), List.mem_of_getElem? (i := 1197) (by decide +kernel), List.mem_of_getElem? (i := 1198) (by decide +kernel)⟩
theorem lw_p22 : lw_okq (⟨"AbbeyLedgersModel", "fails", "(I)Z"⟩, 22) := ⟨⟨by decide +kernel, by decide +kernel⟩, List.mem_of_getElem? (i := 1052) (by decide +kernel), List.mem_of_getElem? (i := 1209) (by decide +kernel), List.mem_of_getElem? (i := 1210) (by decide +kernel)⟩
theorem lw_p23 : lw_okq (⟨"AbbeyLedgersModel", "sumOf", "(III)I"⟩, 22) := ⟨⟨by decide +kernel, by decide +kernel⟩, List.mem_of_getElem? (i := 1052) (by decide +kernel), List.mem_of_getElem? (i := 1224) (by decide +kernel), List.mem_of_getElem? (i := 1225) (by decide +kernel)⟩
theorem lw_p24 : lw_okq (⟨"AbbeyLedgersModel", "children", "(I)I"⟩, 22) := ⟨⟨by decide +kernel, by decide +kernel⟩, List.mem_of_getElem? (i := 1052) (by decide +kernel), List.mem_of_getElem? (i := 1245) (by decide +kernel), List.mem_of_getElem? (i := 1246) (by decide +kernel)⟩
theorem lw_p25 : lw_okq (⟨"AbbeyLedgersModel", "made", "(I)I"⟩, 22) := ⟨⟨by decide +kernel, by decide +kernel⟩, List.mem_of_getElem? (i := 1052) (by decide +kernel), List.mem_of_getElem? (i := 1249) (by decide +kernel), List.mem_of_getElem? (i := 1250) (by decide +kernel)⟩
theorem lw_p26 : lw_okq (⟨"AbbeyLedgersModel", "apart0", "(II)I"⟩, 22) := ⟨⟨by decide +kernel, by decide +kernel⟩, List.mem_of_getElem? (i := 1052) (by decide +kernel), List.mem_of_getElem? (i := 1253) (by decide +kernel), List.mem_of_getElem? (i := 1254) (by decide +kernel)⟩
theorem lw_p27 : lw_okq (⟨"AbbeyLedgersModel", "houses", "(I)I"⟩, 22) := ⟨⟨by decide +kernel, by decide +kernel⟩, List.mem_of_getElem? (i := 1052) (by decide +kernel), List.mem_of_getElem? (i := 1257) (by decide +kernel), List.mem_of_getElem? (i := 1258) (by decide +kernel)⟩
theorem lw_p28 : lw_okq (⟨"AbbeyLedgersModel", "areVersions", "(II)Z"⟩, 22) := ⟨⟨by decide +kernel, by decide +kernel⟩, List.mem_of_getElem? (i := 1052) (by decide +kernel), List.mem_of_getElem? (i := 1277) (by decide +kernel), List.mem_of_getElem? (i := 1278) (by decide +kernel)⟩
theorem lw_p29 : lw_okq (⟨"AbbeyLedgersModel", "usersOf", "(II)I"⟩, 22) := ⟨⟨by decide +kernel, by decide +kernel⟩, List.mem_of_getElem? (i := 1052) (by decide +kernel), List.mem_of_getElem? (i := 1297) (by decide +kernel), List.mem_of_getElem? (i := 1298) (by decide +kernel)⟩
theorem lw_p30 : lw_okq (⟨"AbbeyLedgersModel", "lent", "(I)I"⟩, 22) := ⟨⟨by decide +kernel, by decide +kernel⟩, List.mem_of_getElem? (i := 1052) (by decide +kernel), List.mem_of_getElem? (i := 1317) (by decide +kernel), List.mem_of_getElem? (i := 1318) (by decide +kernel)⟩
theorem lw_p31 : lw_okq (⟨"AbbeyLedgersModel", "isText", "()Z"⟩, 22) := ⟨⟨by decide +kernel, by decide +kernel⟩, List.mem_of_getElem? (i := 1052) (by decide +kernel), List.mem_of_getElem? (i := 1329) (by decide +kernel), List.mem_of_getElem? (i := 1330) (by decide +kernel)⟩
def lw_privs_2 : List (MethodName × Nat) := [(⟨"AbbeyLedgersModel", "lays", "(III)V"⟩, 22), (⟨"AbbeyLedgersModel", "has", "(III)Z"⟩, 22), (⟨"AbbeyLedgersModel", "isVersion", "(I)Z"⟩, 22), (⟨"AbbeyLedgersModel", "areLike", "(IIII)Z"⟩, 22), (⟨"AbbeyLedgersModel", "isWithin0", "(III)Z"⟩, 22), (⟨"AbbeyLedgersModel", "ancestors", "(I)I"⟩, 22), (⟨"AbbeyLedgersModel", "fails", "(I)Z"⟩, 22), (⟨"AbbeyLedgersModel", "sumOf", "(III)I"⟩, 22), (⟨"AbbeyLedgersModel", "children", "(I)I"⟩, 22), (⟨"AbbeyLedgersModel", "made", "(I)I"⟩, 22), (⟨"AbbeyLedgersModel", "apart0", "(II)I"⟩, 22), (⟨"AbbeyLedgersModel", "houses", "(I)I"⟩, 22), (⟨"AbbeyLedgersModel", "areVersions", "(II)Z"⟩, 22), (⟨"AbbeyLedgersModel", "usersOf", "(II)I"⟩, 22), (⟨"AbbeyLedgersModel", "lent", "(I)I"⟩, 22), (⟨"AbbeyLedgersModel", "isText", "()Z"⟩, 22)]
theorem lw_r2 : ∀ q ∈ lw_privs_2, lw_okq q := List.forall_mem_cons.mpr ⟨lw_p16, List.forall_mem_cons.mpr ⟨lw_p17, List.forall_mem_cons.mpr ⟨lw_p18, List.forall_mem_cons.mpr ⟨lw_p19, List.forall_mem_cons.mpr ⟨lw_p20, List.forall_mem_cons.mpr ⟨lw_p21, List.forall_mem_cons.mpr ⟨lw_p22, List.forall_mem_cons.mpr ⟨lw_p23, List.forall_mem_cons.mpr ⟨lw_p24, List.forall_mem_cons.mpr ⟨lw_p25, List.forall_mem_cons.mpr ⟨lw_p26, List.forall_mem_cons.mpr ⟨lw_p27, List.forall_mem_cons.mpr ⟨lw_p28, List.forall_mem_cons.mpr ⟨lw_p29, List.forall_mem_cons.mpr ⟨lw_p30, List.forall_mem_cons.mpr ⟨lw_p31, fun _ h => absurd h List.not_mem_nil⟩⟩⟩⟩⟩⟩⟩⟩⟩⟩⟩⟩⟩⟩⟩⟩
theorem lw_p32 : lw_okq (⟨"AbbeyLedgersModel", "commandHere", "()Z"⟩, 22) := ⟨⟨by decide +kernel, by decide +kernel⟩, List.mem_of_getElem? (i := 1052) (by decide +kernel), List.mem_of_getElem? (i := 1333) (by decide +kernel), List.mem_of_getElem? (i := 1334) (by decide +kernel)⟩
theorem lw_p33 : lw_okq (⟨"AbbeyLedgersModel", "here", "()I"⟩, 22) := ⟨⟨by decide +kernel, by decide +kernel⟩, List.mem_of_getElem? (i := 1052) (by decide +kernel), List.mem_of_getElem? (i := 1337) (by decide +kernel), List.mem_of_getElem? (i := 1338) (by decide +kernel)⟩
theorem lw_p34 : lw_okq (⟨"AbbeyLedgersModel", "skips", "(I)Z"⟩, 22) := ⟨⟨by decide +kernel, by decide +kernel⟩, List.mem_of_getElem? (i := 1052) (by decide +kernel), List.mem_of_getElem? (i := 1341) (by decide +kernel), List.mem_of_getElem? (i := 1342) (by decide +kernel)⟩
theorem lw_p35 : lw_okq (⟨"AbbeyLedgersModel", "figures", "(II)Z"⟩, 22) := ⟨⟨by decide +kernel, by decide +kernel⟩, List.mem_of_getElem? (i := 1052) (by decide +kernel), List.mem_of_getElem? (i := 1345) (by decide +kernel), List.mem_of_getElem? (i := 1346) (by decide +kernel)⟩
theorem lw_p36 : lw_okq (⟨"AbbeyLedgersModel", "carries", "(I)I"⟩, 22) := ⟨⟨by decide +kernel, by decide +kernel⟩, List.mem_of_getElem? (i := 1052) (by decide +kernel), List.mem_of_getElem? (i := 1349) (by decide +kernel), List.mem_of_getElem? (i := 1350) (by decide +kernel)⟩
theorem lw_p37 : lw_okq (⟨"AbbeyLedgersModel", "writes", "(I)V"⟩, 22) := ⟨⟨by decide +kernel, by decide +kernel⟩, List.mem_of_getElem? (i := 1052) (by decide +kernel), List.mem_of_getElem? (i := 1370) (by decide +kernel), List.mem_of_getElem? (i := 1371) (by decide +kernel)⟩
theorem lw_p38 : lw_okq (⟨"AbbeyLedgersModel", "writesNumber", "(I)V"⟩, 22) := ⟨⟨by decide +kernel, by decide +kernel⟩, List.mem_of_getElem? (i := 1052) (by decide +kernel), List.mem_of_getElem? (i := 1374) (by decide +kernel), List.mem_of_getElem? (i := 1375) (by decide +kernel)⟩
theorem lw_p39 : lw_okq (⟨"AbbeyLedgersModel", "allMade", "()I"⟩, 22) := ⟨⟨by decide +kernel, by decide +kernel⟩, List.mem_of_getElem? (i := 1052) (by decide +kernel), List.mem_of_getElem? (i := 1395) (by decide +kernel), List.mem_of_getElem? (i := 1396) (by decide +kernel)⟩
theorem lw_p40 : lw_okq (⟨"AbbeyLedgersModel", "versionsThat", "(Z)I"⟩, 22) := ⟨⟨by decide +kernel, by decide +kernel⟩, List.mem_of_getElem? (i := 1052) (by decide +kernel), List.mem_of_getElem? (i := 1403) (by decide +kernel), List.mem_of_getElem? (i := 1404) (by decide +kernel)⟩
def lw_privs_3 : List (MethodName × Nat) := [(⟨"AbbeyLedgersModel", "commandHere", "()Z"⟩, 22), (⟨"AbbeyLedgersModel", "here", "()I"⟩, 22), (⟨"AbbeyLedgersModel", "skips", "(I)Z"⟩, 22), (⟨"AbbeyLedgersModel", "figures", "(II)Z"⟩, 22), (⟨"AbbeyLedgersModel", "carries", "(I)I"⟩, 22), (⟨"AbbeyLedgersModel", "writes", "(I)V"⟩, 22), (⟨"AbbeyLedgersModel", "writesNumber", "(I)V"⟩, 22), (⟨"AbbeyLedgersModel", "allMade", "()I"⟩, 22), (⟨"AbbeyLedgersModel", "versionsThat", "(Z)I"⟩, 22)]
theorem lw_r3 : ∀ q ∈ lw_privs_3, lw_okq q := List.forall_mem_cons.mpr ⟨lw_p32, List.forall_mem_cons.mpr ⟨lw_p33, List.forall_mem_cons.mpr ⟨lw_p34, List.forall_mem_cons.mpr ⟨lw_p35, List.forall_mem_cons.mpr ⟨lw_p36, List.forall_mem_cons.mpr ⟨lw_p37, List.forall_mem_cons.mpr ⟨lw_p38, List.forall_mem_cons.mpr ⟨lw_p39, List.forall_mem_cons.mpr ⟨lw_p40, fun _ h => absurd h List.not_mem_nil⟩⟩⟩⟩⟩⟩⟩⟩⟩
def lw_privs : List (MethodName × Nat) := lw_privs_1 ++ (lw_privs_2 ++ (lw_privs_3))
def lw_tbl : List Cond := k2_sels lw_privs ++ tables_1
theorem lw_privs_ok : ∀ q ∈ lw_privs, lw_okq q := by
  show ∀ q ∈ lw_privs_1 ++ (lw_privs_2 ++ (lw_privs_3)), lw_okq q
  exact List.forall_mem_append.mpr ⟨lw_r1, List.forall_mem_append.mpr ⟨lw_r2, lw_r3⟩⟩
/-- the streams that the claim lets the run draw from -/
abbrev lw_cs : List Choice := [Jvm.Choice.named "NaN.bits"]
theorem lw_bits : nanBits ∈ lw_cs := by first | decide | exact List.mem_cons_self | simp [lw_cs, nanBits]
/-! ===== BEGIN words of one list among another's, by their places ===== -/
theorem goodIn_r {big : List Cond} (ws : List Cond) (ps : List Nat) (hp : ws = ps.filterMap (fun i => big[i]?)) (h : ws.all goodWord = true) : GoodIn big ws := by
  intro w hw
  have h1 := List.all_eq_true.mp h w hw
  rw [hp] at hw
  obtain ⟨i, -, hi⟩ := List.mem_filterMap.mp hw
  have hm : w ∈ big := by first | exact List.mem_of_getElem? hi | exact List.getElem?_mem hi
  exact ⟨hm, good_of_word h1⟩
theorem goodIn_app {big a b : List Cond} (ha : GoodIn big a) (hb : GoodIn big b) : GoodIn big (a ++ b) := fun w h => (List.mem_append.mp h).elim (ha w) (hb w)
theorem goodIn_ca {big a b : List Cond} {c : Cond} (ha : GoodIn big (c :: a)) (hb : GoodIn big b) : GoodIn big (c :: (a ++ b)) := fun w h => (List.mem_cons.mp h).elim (fun e => ha w (List.mem_cons.mpr (Or.inl e))) (fun h => (List.mem_append.mp h).elim (fun h => ha w (List.mem_cons.mpr (Or.inr h))) (hb w))
theorem goodIn_sub {big ws : List Cond} (hm : ∀ w ∈ ws, w ∈ big) (h : ws.all goodWord = true) : GoodIn big ws := fun w hw => ⟨hm w hw, good_of_word (List.all_eq_true.mp h w hw)⟩
/-! ===== END ===== -/

/-! ===== BEGIN exceptions that leave a method, and their catching by the caller (launches without stack traces) ===== -/
section VXA
/-! The laws vx_back, vx_callV, vx_callS, vx_callSW, vx_throw0, vx_throwS follow proofs of the library, with one case more: JvmDerived/Free/Laws.lean (Back.of_free), Shelf42/LK1.lean (callV, callS), Shelf/KitTraced.lean (throwNew0V, throwNewS). -/
/-- where a method has thrown q: the class by its name, the cell, what was written, the world -/
def vx_T (XC : String → State → State → Prop) (st : State) (q : Addr) (t : State) (mc ms : Nat) (free : Addr → Prop) : Prop :=
  ∃ (E : String) (ce : Cell) (L : List Loc), XC E st t ∧ t.heap[q]? = some ce ∧ ce.vm = .none ∧ st.vm.findClass E = some ce.cls ∧ st.WarmedH t.vm ∧ st.sameButNew ({ t with vm := st.vm } : State) L mc ms ∧ ∀ z ∈ L, free z.base
def vx_Q (Qc : Array Value → State → Outcome → State → Prop) (XC : String → State → State → Prop) (mc ms : Nat) (free : Addr → Prop) : Array Value → State → Outcome → State → Prop := fun a st o t =>
  (Qc a st o t ∧ ∃ L, FrameEnd st o t L mc ms ∧ ∀ q ∈ L, free q.base) ∨ ∃ q, o = .threw q ∧ vx_T XC st q t mc ms free
/-- a callee that returns or throws -/
def vx_Met (l : Launch) (y : MethodName) (ws : List Cond) (rm : Room) (Pc : Array Value → State → Prop) (Qc : Array Value → State → Outcome → State → Prop) (XC : String → State → State → Prop) (mc ms : Nat) (free : Addr → Prop) : Prop :=
  MetFree l y (headSpec ws rm) Pc (fun _ _ _ _ _ => True) (vx_Q Qc XC mc ms free)
def vx_Post (XC : String → State → State → Prop) (mc ms : Nat) (free : Addr → Prop) : Pt → Array Value → Addr → Pt → Prop := fun A a q B =>
  ∃ (g : JFrame) (mk : MethodId) (t : State) (L : List Loc) (E : String) (ce : Cell), B.U.heap = t.heap ∧ B.U.vm = t.vm ∧ XC E (A.U.calling g mk a) t ∧ t.heap[q]? = some ce ∧ ce.vm = .none ∧ A.U.vm.findClass E = some ce.cls ∧ B.locs = A.locs ++ L ∧ (∀ z ∈ L, free z.base) ∧ B.cells = A.cells + mc ∧ B.slots = A.slots + ms
def vx_Back (l : Launch) (R : Room) (p : Program) (e : Env) (below : List Frame) (s : State) (sargs : Array Value) (y : MethodName) (len W9 : Nat)
    (Pre : Pt → Array Value → Prop) (Post : Pt → Array Value → Option Value → Pt → Prop) (PostX : Pt → Array Value → Addr → Pt → Prop) : Prop :=
  ∀ (m : MethodId) (meth : Method) (c : Code) (A : Pt) (g : JFrame) (ig : Instr) (mk : MethodId) (a : Array Value),
    Stand p l e R s m sargs below meth c A.U A.locs A.cells A.slots → g.method = m → g.locals.size = c.maxLocals → decode c.code g.pc = .ok (ig, len) →
    2 * g.monitorRoom + (g.stack.map fun v => v.category).sum ≤ W9 → A.U.methodNamed? y = some mk → Pre A a →
    (∃ (v : Option Value) (B : Pt), Stand p l e R s m sargs below meth c B.U B.locs B.cells B.slots ∧ Post A a v B ∧
      Steps p.tables e below (doInvoke e (A.U.setTop g) [] mk a).1 (B.U.setTop { g with pc := g.pc + len, stack := v.toList ++ g.stack })) ∨
    (∃ (q : Addr) (B : Pt), Stand p l e R s m sargs below meth c B.U B.locs B.cells B.slots ∧ PostX A a q B ∧
      Steps p.tables e below (doInvoke e (A.U.setTop g) [] mk a).1 ((B.U.setTop g).pushFrame (.throwing q)))
section Payer
variable {l : Launch} {R : Room} {p : Program} {e : Env} {below : List Frame} {s : State} {sargs : Array Value} {y : MethodName} {len W9 : Nat}
theorem vx_back {ws : List Cond} {rm : Room} {Pc : Array Value → State → Prop} {Qc : Array Value → State → Outcome → State → Prop} {XC : String → State → State → Prop} {mc ms : Nat} {free : Addr → Prop} {bytes : ByteArray} {maxL : Nat} {ret : Option FieldType}
    (hM : vx_Met l y ws rm Pc Qc XC mc ms free) (hblind : FrameBlind Pc) (hrc : rm.cells = mc) (hrs : rm.slots = ms)
    (hframes : rm.frames + 1 ≤ R.frames) (hlocals : W9 + (maxL + 11) + rm.locals ≤ R.locals)
    (hws : ∀ w ∈ ws, ∀ a' U, s.WarmedH U.vm → w.before a' U = true) (hcode : Cond.code y bytes maxL ret ∈ ws) (hinit : ∀ a' U, s.WarmedH U.vm → (Cond.initialized y.cls).before a' U = true) :
    vx_Back l R p e below s sargs y len W9 (PreOf R mc ms Pc) (PostOf Qc mc ms free) (vx_Post XC mc ms free) := by
  intro m meth c A g ig mk a X hg hsize hdg hW hn hp
  have h1 : (headSpec ws rm).pre.before a A.U = true := atoms_intro fun w hw => hws w hw _ _ X.warmed
  have h2 : (Cond.code y bytes maxL ret).before a A.U = true := hws _ hcode _ _ X.warmed
  have h3 : (Cond.initialized y.cls).before a A.U = true := hinit _ _ X.warmed
  have h4 : A.cells + (headSpec ws rm).room.cells ≤ R.cells := by rw [show (headSpec ws rm).room.cells = mc from hrc]; exact hp.1
  have h5 : A.slots + (headSpec ws rm).room.slots ≤ R.slots := by rw [show (headSpec ws rm).room.slots = ms from hrs]; exact hp.2.1
  have hPc : Pc a (A.U.calling g mk a) := hblind _ _ _ _ hp.2.2
  obtain ⟨U, Ls, c0, s0⟩ := A
  dsimp only [Pt.U, Pt.locs, Pt.cells, Pt.slots] at h1 h2 h3 h4 h5 X hn hPc ⊢
  obtain ⟨methY, cY, hmY, hcY, -, hlY, -, -, -, -⟩ := Cond.code_spec hn h2
  obtain ⟨kY, hkY, -⟩ := className_of_methodNamed hn
  have hinitY : kY.init = .initialized := Cond.initialized_spec (findClass_of_methodNamed hn) hkY h3
  have h : At U g.method c below := by rw [hg]; exact X.here
  have hlocals9 : W9 + (maxL + 11) + (headSpec ws rm).room.locals ≤ R.locals := hlocals
  have happ : (headSpec ws rm).appliesLoose y e.platform (U.calling g mk a) = true :=
    Spec.appliesLoose_calling (g := g) h hdg hn hkY hinitY
      (X.room_calling (g := g) (R' := (headSpec ws rm).room) hsize hmY hcY hframes (by rw [hlY]; omega) h4 h5) h1
  obtain ⟨mid, hmid⟩ := h.above
  have hfr : (U.setTop g).frames = (.java g :: mid) ++ below := by rw [State.frames_setTop' g h.top, hmid]; rfl
  obtain ⟨o, s₂, hsteps, -, hend, hq⟩ := Steps.callFree hM p X.admits X.cas X.clock (acts := []) hfr happ hPc trivial
  have hq' : vx_Q Qc XC mc ms free a (U.calling g mk a) o s₂ := hq
  rw [State.frames_setTop' g h.top] at hend
  obtain ⟨g₀, hg0⟩ := Option.isSome_iff_exists.mp h.top
  obtain ⟨r, hr⟩ := State.topJava?_eq_some.mp hg0
  have hr' : (({ U with heap := s₂.heap, slotsUsed := s₂.slotsUsed } : State).setVm s₂.vm).frames = .java g₀ :: r := hr
  rcases hq' with ⟨hqc, L, hfe, hL⟩ | ⟨q, rfl, E, ce, L, hx, hce, hcv, hcl, hW₂, hsm, hL⟩
  · obtain ⟨⟨v, rfl⟩, hW₂, e2, q2, q3, q4, q5, q6⟩ := id hfe
    have e3 : s₂ = ({ (U.calling g mk a).setFrames s₂.frames with heap := s₂.heap, slotsUsed := s₂.slotsUsed } : State).setVm s₂.vm := by
      have : s₂ = ({ s₂ with vm := (U.calling g mk a).vm } : State).setVm s₂.vm := rfl
      rw [e2] at this
      exact this
    obtain ⟨c₂, i₂, len₂, hc₂, hd₂, hf₂⟩ := hend
    have hW' : U.WarmedH s₂.vm := hW₂
    have hcc : c₂ = c := by
      have h1 : s₂.code? g.method = U.code? g.method := by
        rw [State.code?_eq, State.code?_eq, hW'.alike.method?]
      exact Option.some.inj (hc₂.symm.trans (h1.trans h.code))
    subst hcc
    have hlen : len₂ = len := by rw [hdg] at hd₂; cases hd₂; rfl
    subst hlen
    have hs₂ : s₂ = (({ U with heap := s₂.heap, slotsUsed := s₂.slotsUsed } : State).setVm s₂.vm).setTop { g with pc := g.pc + len₂, stack := v.toList ++ g.stack } := by
      refine e3.trans ?_
      rw [hf₂, State.calling_eq h.top, State.setFrames_setFrames, State.setTop_of_frames _ hr', hr]
      rfl
    have hsame : U.sameButNew ({ U with heap := s₂.heap, slotsUsed := s₂.slotsUsed } : State) L mc ms := by
      refine ⟨?_, q2, q3, q4, q5, q6⟩
      obtain ⟨t, ht, -⟩ := State.frames_cons hr
      show ({ U with heap := s₂.heap, slotsUsed := s₂.slotsUsed } : State) = { U.setFrames U.frames with heap := s₂.heap, slotsUsed := s₂.slotsUsed }
      rw [State.setFrames_self ht]
    subst hg
    refine Or.inl ⟨v, ⟨(({ U with heap := s₂.heap, slotsUsed := s₂.slotsUsed } : State).setVm s₂.vm), Ls ++ L, c0 + mc, s0 + ms⟩,
      ⟨X.admits, X.cas, X.clock, X.frames, X.room, X.hears, X.method, X.code, (X.here.setHeapUsed s₂.heap s₂.slotsUsed).setVm hW'.alike, X.tail, State.WarmedH.trans X.warmed hW', X.limits, X.bytes, X.same.trans (hsame.setVm s.vm)⟩,
      ⟨g, mk, s₂, L, rfl, rfl, hqc, rfl, hL, rfl, rfl⟩, ?_⟩
    show Steps p.tables e below _ ((({ U with heap := s₂.heap, slotsUsed := s₂.slotsUsed } : State).setVm s₂.vm).setTop { g with pc := g.pc + len₂, stack := v.toList ++ g.stack })
    rw [← hs₂]
    exact hsteps
  · obtain ⟨e2, q2, q3, q4, q5, q6⟩ := id hsm
    have e3 : s₂ = ({ (U.calling g mk a).setFrames s₂.frames with heap := s₂.heap, slotsUsed := s₂.slotsUsed } : State).setVm s₂.vm := by
      have : s₂ = ({ s₂ with vm := (U.calling g mk a).vm } : State).setVm s₂.vm := rfl
      rw [e2] at this
      exact this
    have hf₂ : s₂.frames = .throwing q :: .java g :: U.frames.tail := hend
    have hW' : U.WarmedH s₂.vm := hW₂
    have hs₂ : s₂ = ((({ U with heap := s₂.heap, slotsUsed := s₂.slotsUsed } : State).setVm s₂.vm).setTop g).pushFrame (.throwing q) := by
      refine e3.trans ?_
      rw [hf₂, State.calling_eq h.top, State.setFrames_setFrames, State.pushFrame, State.frames_setTop _ hr', State.setTop_of_frames _ hr', State.setFrames_setFrames, hr]
      rfl
    have hsame : U.sameButNew ({ U with heap := s₂.heap, slotsUsed := s₂.slotsUsed } : State) L mc ms := by
      refine ⟨?_, q2, q3, q4, q5, q6⟩
      obtain ⟨t, ht, -⟩ := State.frames_cons hr
      show ({ U with heap := s₂.heap, slotsUsed := s₂.slotsUsed } : State) = { U.setFrames U.frames with heap := s₂.heap, slotsUsed := s₂.slotsUsed }
      rw [State.setFrames_self ht]
    subst hg
    refine Or.inr ⟨q, ⟨(({ U with heap := s₂.heap, slotsUsed := s₂.slotsUsed } : State).setVm s₂.vm), Ls ++ L, c0 + mc, s0 + ms⟩,
      ⟨X.admits, X.cas, X.clock, X.frames, X.room, X.hears, X.method, X.code, (X.here.setHeapUsed s₂.heap s₂.slotsUsed).setVm hW'.alike, X.tail, State.WarmedH.trans X.warmed hW', X.limits, X.bytes, X.same.trans (hsame.setVm s.vm)⟩,
      ⟨g, mk, s₂, L, E, ce, rfl, rfl, hx, hce, hcv, hcl, rfl, hL, rfl, rfl⟩, ?_⟩
    show Steps p.tables e below _ (((({ U with heap := s₂.heap, slotsUsed := s₂.slotsUsed } : State).setVm s₂.vm).setTop g).pushFrame (.throwing q))
    rw [← hs₂]
    exact hsteps
end Payer
section Calls
variable {p : Program} {l : Launch} {e : Env} {R : Room} {s : State} {m : MethodId} {args : Array Value} {below : List Frame} {meth : Method} {c : Code} {T : State} {locs : List Loc} {cells slots : Nat}
theorem vx_callV (X : Stand p l e R s m args below meth c T locs cells slots) (hexec : p.tables.exec = Jvm.exec) {own C : String} {index : Nat} {y : MethodName} {bytes : ByteArray} {maxL : Nat} {ret : Option FieldType}
    (hown : s.vm.findClass own = some m.cls) (hlink : (Cond.methodLink own index y).before args s = true) (hinst : (Cond.instanceMethod y).before args s = true) (hsel : (Cond.selects C y y).before args s = true)
    (hcode : (Cond.code y bytes maxL ret).before args s = true) (hy : y.cls ≠ "java/lang/invoke/MethodHandle" ∧ y.cls ≠ "java/lang/invoke/VarHandle")
    {W9 : Nat} {Pre : Pt → Array Value → Prop} {Post : Pt → Array Value → Option Value → Pt → Prop} {PostX : Pt → Array Value → Addr → Pt → Prop} (hK : vx_Back l R p e below s args y 3 W9 Pre Post PostX)
    {b : Addr} {cellB : Cell} (hcell : T.heap[b]? = some cellB) (hobj : cellB.vm.isStatics = false) (hcls : s.vm.findClass C = some cellB.cls)
    {g : JFrame} (hg : g.method = m) (hsize : g.locals.size = c.maxLocals) {argsL rest : List Value} (hlen : ∀ sig, parseMethodDescriptor y.desc = some sig → argsL.length = sig.parameters.length)
    (hstack : g.stack = argsL.reverse ++ .ref b :: rest) (hW : 2 * g.monitorRoom + (rest.map fun v => v.category).sum ≤ W9) (hdg : decode c.code g.pc = .ok (.invokevirtual index, 3))
    (hpre : ∀ vm₁, s.WarmedH vm₁ → Pre ⟨T.setVm vm₁, locs, cells, slots⟩ (Value.ref b :: argsL).toArray) :
    (∃ (v : Option Value) (vm₁ : Vm) (B : Pt), s.WarmedH vm₁ ∧ Stand p l e R s m args below meth c B.U B.locs B.cells B.slots ∧ Post ⟨T.setVm vm₁, locs, cells, slots⟩ (Value.ref b :: argsL).toArray v B ∧
      ∀ target, Steps p.tables e below (B.U.setTop { g with pc := g.pc + 3, stack := v.toList ++ rest }) target → Steps p.tables e below (T.setTop g) target) ∨
    (∃ (q : Addr) (vm₁ : Vm) (B : Pt), s.WarmedH vm₁ ∧ Stand p l e R s m args below meth c B.U B.locs B.cells B.slots ∧ PostX ⟨T.setVm vm₁, locs, cells, slots⟩ (Value.ref b :: argsL).toArray q B ∧
      Steps p.tables e below (T.setTop g) ((B.U.setTop { g with stack := rest }).pushFrame (.throwing q))) := by
  obtain ⟨mk, methM, hnamed, hmethM, hstM, habM⟩ := Cond.instanceMethod_spec hinst
  obtain ⟨methM', cM, hmethM', -, -, -, -, -, -, hsigM⟩ := Cond.code_spec hnamed hcode
  cases hmethM.symm.trans hmethM'
  obtain ⟨c2, r2, m2, q1, q2, q3, q4, kP, hkP, hkPi⟩ := Cond.selects_spec hsel
  cases hcls.symm.trans q1
  cases (State.methodFound?_of_named hnamed hy).symm.trans q2
  cases hnamed.symm.trans q3
  have hselP : selectMethod e.platform s.vm cellB.cls mk = .method mk := by rw [Launch.admits_selectMethod X.admits]; exact q4
  obtain ⟨vm₁, X₁, hstep₁⟩ := X.invokevirtual hexec hown hlink hnamed hmethM hstM hkP hkPi hy (a := b) (cell := cellB) hcell
    (fun z h => by rw [h] at hobj; cases hobj) hselP hmethM habM hkP hkPi (g := g) hg (argsL := argsL) (rest := rest) (hlen _ hsigM) hstack hdg
  rcases hK m meth c ⟨T.setVm vm₁, locs, cells, slots⟩ { g with stack := rest } (.invokevirtual index) mk (Value.ref b :: argsL).toArray X₁ hg hsize hdg hW (X₁.named hnamed) (hpre vm₁ X₁.warmed) with ⟨v, B, X', hpost, hsteps⟩ | ⟨q, B, X', hpost, hsteps⟩
  · exact Or.inl ⟨v, vm₁, B, X₁.warmed, X', hpost, fun target h => hstep₁ _ fun acts => by rw [doInvoke_state]; exact hsteps.trans h⟩
  · exact Or.inr ⟨q, vm₁, B, X₁.warmed, X', hpost, hstep₁ _ fun acts => by rw [doInvoke_state]; exact hsteps⟩
theorem vx_callS (X : Stand p l e R s m args below meth c T locs cells slots) (hexec : p.tables.exec = Jvm.exec) {own : String} {index : Nat} {y : MethodName} {bytes : ByteArray} {maxL : Nat} {ret : Option FieldType}
    (hown : s.vm.findClass own = some m.cls) (hlink : (Cond.methodLink own index y).before args s = true) (hstat : (Cond.static y).before args s = true) (hinit : (Cond.initialized y.cls).before args s = true)
    (hcode : (Cond.code y bytes maxL ret).before args s = true) (hy : y.cls ≠ "java/lang/invoke/MethodHandle" ∧ y.cls ≠ "java/lang/invoke/VarHandle")
    {W9 : Nat} {Pre : Pt → Array Value → Prop} {Post : Pt → Array Value → Option Value → Pt → Prop} {PostX : Pt → Array Value → Addr → Pt → Prop} (hK : vx_Back l R p e below s args y 3 W9 Pre Post PostX)
    {g : JFrame} (hg : g.method = m) (hsize : g.locals.size = c.maxLocals) {argsL rest : List Value} (hlen : ∀ sig, parseMethodDescriptor y.desc = some sig → argsL.length = sig.parameters.length)
    (hstack : g.stack = argsL.reverse ++ rest) (hW : 2 * g.monitorRoom + (rest.map fun v => v.category).sum ≤ W9) (hdg : decode c.code g.pc = .ok (.invokestatic index, 3))
    (hpre : ∀ vm₁, s.WarmedH vm₁ → Pre ⟨T.setVm vm₁, locs, cells, slots⟩ argsL.toArray) :
    (∃ (v : Option Value) (vm₁ : Vm) (B : Pt), s.WarmedH vm₁ ∧ Stand p l e R s m args below meth c B.U B.locs B.cells B.slots ∧ Post ⟨T.setVm vm₁, locs, cells, slots⟩ argsL.toArray v B ∧
      ∀ target, Steps p.tables e below (B.U.setTop { g with pc := g.pc + 3, stack := v.toList ++ rest }) target → Steps p.tables e below (T.setTop g) target) ∨
    (∃ (q : Addr) (vm₁ : Vm) (B : Pt), s.WarmedH vm₁ ∧ Stand p l e R s m args below meth c B.U B.locs B.cells B.slots ∧ PostX ⟨T.setVm vm₁, locs, cells, slots⟩ argsL.toArray q B ∧
      Steps p.tables e below (T.setTop g) ((B.U.setTop { g with stack := rest }).pushFrame (.throwing q))) := by
  obtain ⟨mk, hnamed⟩ := Cond.code_named hcode
  obtain ⟨methM, cM, hmethM, -, -, -, -, -, -, hsigM⟩ := Cond.code_spec hnamed hcode
  have hstatic : methM.isStatic = true := Cond.static_spec hnamed hmethM hstat
  obtain ⟨kP, hkP, -⟩ := className_of_methodNamed hnamed
  have hinitP : kP.init = .initialized := Cond.initialized_spec (findClass_of_methodNamed hnamed) hkP hinit
  obtain ⟨vm₁, X₁, hstep₁⟩ := X.invokestatic hexec hown hlink hnamed hmethM hstatic hkP hinitP hy (g := g) hg (argsL := argsL) (rest := rest) (hlen _ hsigM) hstack hdg
  rcases hK m meth c ⟨T.setVm vm₁, locs, cells, slots⟩ { g with stack := rest } (.invokestatic index) mk argsL.toArray X₁ hg hsize hdg hW (X₁.named hnamed) (hpre vm₁ X₁.warmed) with ⟨v, B, X', hpost, hsteps⟩ | ⟨q, B, X', hpost, hsteps⟩
  · exact Or.inl ⟨v, vm₁, B, X₁.warmed, X', hpost, fun target h => hstep₁ _ fun acts => by rw [doInvoke_state]; exact hsteps.trans h⟩
  · exact Or.inr ⟨q, vm₁, B, X₁.warmed, X', hpost, hstep₁ _ fun acts => by rw [doInvoke_state]; exact hsteps⟩
end Calls
theorem vx_cls {s : State} {T : State} {vm₁ : Vm} {E : String} {k : ClassId} (hW : s.WarmedH vm₁) (h : (T.setVm vm₁).vm.findClass E = some k) : s.vm.findClass E = some k := by
  have h1 : vm₁.findClass E = some k := h
  rw [hW.alike.findClass] at h1
  exact h1
/-- the method's frame g, with q thrown over it -/
def vx_W (p : Program) (l : Launch) (e : Env) (R : Room) (s : State) (m : MethodId) (args : Array Value) (below : List Frame) (meth : Method) (c : Code) (H : Heap) (locs : List Loc) (cells slots : Nat) (Q : State → Prop) (g : JFrame) (q : Addr) : Prop :=
  ∀ T : State, T.heap = H → Stand p l e R s m args below meth c T locs cells slots → ∃ t, Steps p.tables e below ((T.setTop g).pushFrame (.throwing q)) t ∧ Q t
def vx_Run (p : Program) (l : Launch) (e : Env) (R : Room) (s : State) (m : MethodId) (args : Array Value) (below : List Frame) (meth : Method) (c : Code) (H : Heap) (locs : List Loc) (cells slots mc ms : Nat) (g : JFrame) (rest : List Value) (Qa : State → Outcome → State → Prop) (XC : String → State → State → Prop) (free : Addr → Prop) : Prop :=
  ∀ T : State, T.heap = H → Stand p l e R s m args below meth c T locs cells slots →
    (∃ (v : Option Value) (st₀ t T' : State) (L : List Loc), st₀.heap = H ∧ Stand p l e R s m args below meth c T' (locs ++ L) (cells + mc) (slots + ms) ∧ (∀ q ∈ L, free q.base) ∧ T'.heap = t.heap ∧ T'.vm = t.vm ∧ Qa st₀ (.returned v) t ∧
      Goes p e below T g T' { g with pc := g.pc + 3, stack := v.toList ++ rest }) ∨
    (∃ (q : Addr) (st₀ t T' : State) (L : List Loc) (E : String) (ce : Cell), st₀.heap = H ∧ Stand p l e R s m args below meth c T' (locs ++ L) (cells + mc) (slots + ms) ∧ (∀ z ∈ L, free z.base) ∧ T'.heap = t.heap ∧ T'.vm = t.vm ∧ XC E st₀ t ∧ t.heap[q]? = some ce ∧ ce.vm = .none ∧ s.vm.findClass E = some ce.cls ∧
      Steps p.tables e below (T.setTop g) ((T'.setTop { g with stack := rest }).pushFrame (.throwing q)))
def vx_X {S : Type} (px : S → Prop) (B : String → S → State → Prop) (A : Nat → Prop) : String → State → State → Prop := fun E st t => ∃ u : S, px u ∧ B E u t ∧ va_F A st t
section Runs
variable {p : Program} {l : Launch} {e : Env} {R : Room} {s : State} {m : MethodId} {args : Array Value} {below : List Frame} {meth : Method} {c : Code} {H : Heap} {locs : List Loc} {cells slots : Nat}
variable {y : MethodName} {bytes cc : ByteArray} {maxL nL mc ms n index : Nat} {ret : Option FieldType} {ws : List Cond} {rm : Room} {Pc : Array Value → State → Prop} {Qc : Array Value → State → Outcome → State → Prop} {XC : String → State → State → Prop} {free : Addr → Prop} {Ts : List Cond} {own C : String} {b : Addr} {As rest : List Value} {g : JFrame}
theorem vx_callBack (cb : CallB R s args own index y bytes maxL ret ws rm mc ms n) (hM : vx_Met l y ws rm Pc Qc XC mc ms free) (hbl : FrameBlind Pc) : vx_Back l R p e below s args y 3 8 (PreOf R mc ms Pc) (PostOf Qc mc ms free) (vx_Post XC mc ms free) := by
  obtain ⟨hrc, hrs, hfr, hlo, hws, hcw, -, hini, -⟩ := cb
  exact vx_back (bytes := bytes) (maxL := maxL) (ret := ret) hM hbl hrc hrs hfr hlo hws hcw (fun a' U hW => word_at hW (Or.inl (by first | rfl | simp [Cond.onTables, Cond.keeps, Cond.steady])) hini)
theorem vx_runV (S : CallFix p m c cc nL s args Ts own) (hM : vx_Met l y ws rm Pc Qc XC mc ms free) (cw : CallW R s args own C index y bytes maxL ret ws rm mc ms n) (hp : PreV s H C b Pc As)
    (hg : g.method = m) (hn : As.length = n) (hsize : g.locals.size = nL) (hstack : g.stack = As.reverse ++ .ref b :: rest) (hW : 2 * g.monitorRoom + (rest.map fun v => v.category).sum ≤ 8) (hdg : decode cc g.pc = .ok (.invokevirtual index, 3)) (hf : cells + mc ≤ R.cells ∧ slots + ms ≤ R.slots) :
    vx_Run p l e R s m args below meth c H locs cells slots mc ms g rest (Qc (Value.ref b :: As).toArray) XC free := by
  have hK : vx_Back l R p e below s args y 3 8 (PreOf R mc ms Pc) (PostOf Qc mc ms free) (vx_Post XC mc ms free) := vx_callBack cw.1 hM hp.1
  obtain ⟨⟨-, -, -, -, -, -, hcode, -, hy, hlen, hl⟩, hin, hse⟩ := cw
  obtain ⟨hx, hb, hml, ho, -⟩ := S
  obtain ⟨-, ⟨cellB, hcB, hoB, hclB⟩, hPc⟩ := hp
  intro T hT X
  rcases vx_callV X hx (C := C) (bytes := bytes) (maxL := maxL) (ret := ret) ho hl hin hse hcode hy hK (by rw [hT]; exact hcB) hoB hclB hg (hsize.trans hml.symm) (argsL := As) (rest := rest) (fun sig h => hn.trans (hlen sig h)) hstack hW (by rw [hb]; exact hdg)
    (fun vm₁ hW₁ => ⟨hf.1, hf.2, hPc (T.setVm vm₁) hT hW₁⟩) with ⟨v, vm₁, ⟨U', l2, c2, s2⟩, hW₁, X', ⟨g', mk, t, L, e1, e2, hq, h1, hL, h2, h3⟩, st⟩ | ⟨q, vm₁, ⟨U', l2, c2, s2⟩, hW₁, X', ⟨g', mk, t, L, E, ce, e1, e2, hq, hce, hcv, hcl, h1, hL, h2, h3⟩, st⟩
  · dsimp only [Pt.U, Pt.locs, Pt.cells, Pt.slots] at X' e1 e2 h1 h2 h3 st
    subst h1; subst h2; subst h3
    exact Or.inl ⟨v, (T.setVm vm₁).calling g' mk (Value.ref b :: As).toArray, t, U', L, hT, X', hL, e1, e2, hq, st⟩
  · dsimp only [Pt.U, Pt.locs, Pt.cells, Pt.slots] at X' e1 e2 h1 h2 h3 st hcl
    subst h1; subst h2; subst h3
    exact Or.inr ⟨q, (T.setVm vm₁).calling g' mk (Value.ref b :: As).toArray, t, U', L, E, ce, hT, X', hL, e1, e2, hq, hce, hcv, vx_cls hW₁ hcl, st⟩
theorem vx_runS (S : CallFix p m c cc nL s args Ts own) (hM : vx_Met l y ws rm Pc Qc XC mc ms free) (cw : CallB R s args own index y bytes maxL ret ws rm mc ms n ∧ (Cond.static y).before args s = true) (hp : PreS s H Pc As)
    (hg : g.method = m) (hn : As.length = n) (hsize : g.locals.size = nL) (hstack : g.stack = As.reverse ++ rest) (hW : 2 * g.monitorRoom + (rest.map fun v => v.category).sum ≤ 8) (hdg : decode cc g.pc = .ok (.invokestatic index, 3)) (hf : cells + mc ≤ R.cells ∧ slots + ms ≤ R.slots) :
    vx_Run p l e R s m args below meth c H locs cells slots mc ms g rest (Qc As.toArray) XC free := by
  have hK : vx_Back l R p e below s args y 3 8 (PreOf R mc ms Pc) (PostOf Qc mc ms free) (vx_Post XC mc ms free) := vx_callBack cw.1 hM hp.1
  obtain ⟨⟨-, -, -, -, -, -, hcode, hini, hy, hlen, hl⟩, hstt⟩ := cw
  obtain ⟨hx, hb, hml, ho, -⟩ := S
  intro T hT X
  rcases vx_callS X hx (bytes := bytes) (maxL := maxL) (ret := ret) ho hl hstt hini hcode hy hK hg (hsize.trans hml.symm) (argsL := As) (rest := rest) (fun sig h => hn.trans (hlen sig h)) hstack hW (by rw [hb]; exact hdg)
    (fun vm₁ hW₁ => ⟨hf.1, hf.2, hp.2 (T.setVm vm₁) hT hW₁⟩) with ⟨v, vm₁, ⟨U', l2, c2, s2⟩, hW₁, X', ⟨g', mk, t, L, e1, e2, hq, h1, hL, h2, h3⟩, st⟩ | ⟨q, vm₁, ⟨U', l2, c2, s2⟩, hW₁, X', ⟨g', mk, t, L, E, ce, e1, e2, hq, hce, hcv, hcl, h1, hL, h2, h3⟩, st⟩
  · dsimp only [Pt.U, Pt.locs, Pt.cells, Pt.slots] at X' e1 e2 h1 h2 h3 st
    subst h1; subst h2; subst h3
    exact Or.inl ⟨v, (T.setVm vm₁).calling g' mk As.toArray, t, U', L, hT, X', hL, e1, e2, hq, st⟩
  · dsimp only [Pt.U, Pt.locs, Pt.cells, Pt.slots] at X' e1 e2 h1 h2 h3 st hcl
    subst h1; subst h2; subst h3
    exact Or.inr ⟨q, (T.setVm vm₁).calling g' mk As.toArray, t, U', L, E, ce, hT, X', hL, e1, e2, hq, hce, hcv, vx_cls hW₁ hcl, st⟩
end Runs
section Rows
variable {p : Program} {l : Launch} {e : Env} {R : Room} {s : State} {m : MethodId} {args : Array Value} {below : List Frame} {meth : Method} {c : Code} {H : Heap} {locs : List Loc} {cells slots : Nat} {Q : State → Prop}
variable {mc ms : Nat} {free : Addr → Prop} {A0 A1 : Nat → Prop} {H0 : Heap} {a : Array Value} {pc : Nat} {ls : Array Slot} {st0 rest : List Value}
theorem vx_keep {st₀ t T' : State} {L : List Loc} (h0 : st₀.heap = H) (e1 : T'.heap = t.heap) (hS : va_S A0 H0 H locs) (hA : ∀ q, q < H.size → A1 q → A0 q) (hf : ∀ q, free q → A0 q) (hL : ∀ q ∈ L, free q.base) (hF : va_F A1 st₀ t) :
    H.size ≤ T'.heap.size ∧ (∀ q : Nat, q < H.size → ¬ A1 q → T'.heap[q]? = H[q]?) ∧ va_S A0 H0 T'.heap (locs ++ L) := by
  obtain ⟨hz, hk⟩ := hF
  rw [h0] at hz hk
  exact ⟨by rw [e1]; exact hz, fun q h1 h2 => by rw [e1]; exact hk q h1 h2,
    ⟨Nat.le_trans hS.1 (by rw [e1]; exact hz), fun q h1 h2 => by rw [e1, hk q (Nat.lt_of_lt_of_le h1 hS.1) (fun z => h2 (hA q (Nat.lt_of_lt_of_le h1 hS.1) z))]; exact hS.2.1 q h1 h2, fun q hq => by
      rcases List.mem_append.mp hq with h | h
      · exact hS.2.2 q h
      · exact hf _ (hL q h)⟩⟩
theorem vx_calli {S SX : Type} {post : Int32 → S → Prop} {px : SX → Prop} {B : S → State → Prop} {BX : String → SX → State → Prop} {AX : Nat → Prop} (hr : vx_Run p l e R s m args below meth c H locs cells slots mc ms (F0 m pc ls st0) rest (va_Qi post B A1 a) (vx_X px BX AX) free) (hS : va_S A0 H0 H locs) (hA : ∀ q, q < H.size → A1 q → A0 q) (hf : ∀ q, free q → A0 q) (hAX : ∀ q, q < H.size → AX q → A0 q)
    (kx : ∀ (E : String) (ce : Cell) (q9 : Addr) (u : SX) (t : State) (H1 : Heap) (locs1 : List Loc), t.heap = H1 → s.vm.Alike t.vm → px u → BX E u t → H.size ≤ H1.size → (∀ q : Nat, q < H.size → ¬ AX q → H1[q]? = H[q]?) → va_S A0 H0 H1 locs1 → H1[q9]? = some ce → ce.vm = .none → s.vm.findClass E = some ce.cls → vx_W p l e R s m args below meth c H1 locs1 (cells + mc) (slots + ms) Q (F0 m pc ls rest) q9)
    (kk : ∀ (r : Int32) (u : S) (t : State) (H1 : Heap) (locs1 : List Loc), t.heap = H1 → s.vm.Alike t.vm → post r u → B u t → H.size ≤ H1.size → (∀ q : Nat, q < H.size → ¬ A1 q → H1[q]? = H[q]?) → va_S A0 H0 H1 locs1 → W p l e R s m args below meth c H1 locs1 (cells + mc) (slots + ms) Q (F0 m (pc + 3) ls (.int r :: rest))) : W p l e R s m args below meth c H locs cells slots Q (F0 m pc ls st0) := by
  intro T hT X
  rcases hr T hT X with ⟨v, st₀, t, T', L, h0, X', hL, e1, e2, ⟨⟨r, u, hv, hp, hb⟩, hF⟩, st⟩ | ⟨q, st₀, t, T', L, E, ce, h0, X', hL, e1, e2, ⟨u, hp, hb, hF⟩, hce, hcv, hcl, st⟩
  · cases hv
    obtain ⟨k1, k2, k3⟩ := vx_keep h0 e1 hS hA hf hL hF
    obtain ⟨t2, a1, b1⟩ := kk r u t T'.heap (locs ++ L) e1.symm (by rw [← e2]; exact X'.warmed.alike) hp hb k1 k2 k3 T' rfl X'
    exact ⟨t2, st t2 a1, b1⟩
  · obtain ⟨k1, k2, k3⟩ := vx_keep h0 e1 hS hAX hf hL hF
    obtain ⟨t2, a1, b1⟩ := kx E ce q u t T'.heap (locs ++ L) e1.symm (by rw [← e2]; exact X'.warmed.alike) hp hb k1 k2 k3 (by rw [e1]; exact hce) hcv hcl T' rfl X'
    exact ⟨t2, st.trans a1, b1⟩
theorem vx_calll {S SX : Type} {post : Int64 → S → Prop} {px : SX → Prop} {B : S → State → Prop} {BX : String → SX → State → Prop} {AX : Nat → Prop} (hr : vx_Run p l e R s m args below meth c H locs cells slots mc ms (F0 m pc ls st0) rest (va_Ql post B A1 a) (vx_X px BX AX) free) (hS : va_S A0 H0 H locs) (hA : ∀ q, q < H.size → A1 q → A0 q) (hf : ∀ q, free q → A0 q) (hAX : ∀ q, q < H.size → AX q → A0 q)
    (kx : ∀ (E : String) (ce : Cell) (q9 : Addr) (u : SX) (t : State) (H1 : Heap) (locs1 : List Loc), t.heap = H1 → s.vm.Alike t.vm → px u → BX E u t → H.size ≤ H1.size → (∀ q : Nat, q < H.size → ¬ AX q → H1[q]? = H[q]?) → va_S A0 H0 H1 locs1 → H1[q9]? = some ce → ce.vm = .none → s.vm.findClass E = some ce.cls → vx_W p l e R s m args below meth c H1 locs1 (cells + mc) (slots + ms) Q (F0 m pc ls rest) q9)
    (kk : ∀ (r : Int64) (u : S) (t : State) (H1 : Heap) (locs1 : List Loc), t.heap = H1 → s.vm.Alike t.vm → post r u → B u t → H.size ≤ H1.size → (∀ q : Nat, q < H.size → ¬ A1 q → H1[q]? = H[q]?) → va_S A0 H0 H1 locs1 → W p l e R s m args below meth c H1 locs1 (cells + mc) (slots + ms) Q (F0 m (pc + 3) ls (.long r :: rest))) : W p l e R s m args below meth c H locs cells slots Q (F0 m pc ls st0) := by
  intro T hT X
  rcases hr T hT X with ⟨v, st₀, t, T', L, h0, X', hL, e1, e2, ⟨⟨r, u, hv, hp, hb⟩, hF⟩, st⟩ | ⟨q, st₀, t, T', L, E, ce, h0, X', hL, e1, e2, ⟨u, hp, hb, hF⟩, hce, hcv, hcl, st⟩
  · cases hv
    obtain ⟨k1, k2, k3⟩ := vx_keep h0 e1 hS hA hf hL hF
    obtain ⟨t2, a1, b1⟩ := kk r u t T'.heap (locs ++ L) e1.symm (by rw [← e2]; exact X'.warmed.alike) hp hb k1 k2 k3 T' rfl X'
    exact ⟨t2, st t2 a1, b1⟩
  · obtain ⟨k1, k2, k3⟩ := vx_keep h0 e1 hS hAX hf hL hF
    obtain ⟨t2, a1, b1⟩ := kx E ce q u t T'.heap (locs ++ L) e1.symm (by rw [← e2]; exact X'.warmed.alike) hp hb k1 k2 k3 (by rw [e1]; exact hce) hcv hcl T' rfl X'
    exact ⟨t2, st.trans a1, b1⟩
theorem vx_callf {S SX : Type} {post : UInt32 → S → Prop} {px : SX → Prop} {B : S → State → Prop} {BX : String → SX → State → Prop} {AX : Nat → Prop} (hr : vx_Run p l e R s m args below meth c H locs cells slots mc ms (F0 m pc ls st0) rest (va_Qf post B A1 a) (vx_X px BX AX) free) (hS : va_S A0 H0 H locs) (hA : ∀ q, q < H.size → A1 q → A0 q) (hf : ∀ q, free q → A0 q) (hAX : ∀ q, q < H.size → AX q → A0 q)
    (kx : ∀ (E : String) (ce : Cell) (q9 : Addr) (u : SX) (t : State) (H1 : Heap) (locs1 : List Loc), t.heap = H1 → s.vm.Alike t.vm → px u → BX E u t → H.size ≤ H1.size → (∀ q : Nat, q < H.size → ¬ AX q → H1[q]? = H[q]?) → va_S A0 H0 H1 locs1 → H1[q9]? = some ce → ce.vm = .none → s.vm.findClass E = some ce.cls → vx_W p l e R s m args below meth c H1 locs1 (cells + mc) (slots + ms) Q (F0 m pc ls rest) q9)
    (kk : ∀ (r : UInt32) (u : S) (t : State) (H1 : Heap) (locs1 : List Loc), t.heap = H1 → s.vm.Alike t.vm → post r u → B u t → H.size ≤ H1.size → (∀ q : Nat, q < H.size → ¬ A1 q → H1[q]? = H[q]?) → va_S A0 H0 H1 locs1 → W p l e R s m args below meth c H1 locs1 (cells + mc) (slots + ms) Q (F0 m (pc + 3) ls (.float r :: rest))) : W p l e R s m args below meth c H locs cells slots Q (F0 m pc ls st0) := by
  intro T hT X
  rcases hr T hT X with ⟨v, st₀, t, T', L, h0, X', hL, e1, e2, ⟨⟨r, u, hv, hp, hb⟩, hF⟩, st⟩ | ⟨q, st₀, t, T', L, E, ce, h0, X', hL, e1, e2, ⟨u, hp, hb, hF⟩, hce, hcv, hcl, st⟩
  · cases hv
    obtain ⟨k1, k2, k3⟩ := vx_keep h0 e1 hS hA hf hL hF
    obtain ⟨t2, a1, b1⟩ := kk r u t T'.heap (locs ++ L) e1.symm (by rw [← e2]; exact X'.warmed.alike) hp hb k1 k2 k3 T' rfl X'
    exact ⟨t2, st t2 a1, b1⟩
  · obtain ⟨k1, k2, k3⟩ := vx_keep h0 e1 hS hAX hf hL hF
    obtain ⟨t2, a1, b1⟩ := kx E ce q u t T'.heap (locs ++ L) e1.symm (by rw [← e2]; exact X'.warmed.alike) hp hb k1 k2 k3 (by rw [e1]; exact hce) hcv hcl T' rfl X'
    exact ⟨t2, st.trans a1, b1⟩
theorem vx_calld {S SX : Type} {post : UInt64 → S → Prop} {px : SX → Prop} {B : S → State → Prop} {BX : String → SX → State → Prop} {AX : Nat → Prop} (hr : vx_Run p l e R s m args below meth c H locs cells slots mc ms (F0 m pc ls st0) rest (va_Qd post B A1 a) (vx_X px BX AX) free) (hS : va_S A0 H0 H locs) (hA : ∀ q, q < H.size → A1 q → A0 q) (hf : ∀ q, free q → A0 q) (hAX : ∀ q, q < H.size → AX q → A0 q)
    (kx : ∀ (E : String) (ce : Cell) (q9 : Addr) (u : SX) (t : State) (H1 : Heap) (locs1 : List Loc), t.heap = H1 → s.vm.Alike t.vm → px u → BX E u t → H.size ≤ H1.size → (∀ q : Nat, q < H.size → ¬ AX q → H1[q]? = H[q]?) → va_S A0 H0 H1 locs1 → H1[q9]? = some ce → ce.vm = .none → s.vm.findClass E = some ce.cls → vx_W p l e R s m args below meth c H1 locs1 (cells + mc) (slots + ms) Q (F0 m pc ls rest) q9)
    (kk : ∀ (r : UInt64) (u : S) (t : State) (H1 : Heap) (locs1 : List Loc), t.heap = H1 → s.vm.Alike t.vm → post r u → B u t → H.size ≤ H1.size → (∀ q : Nat, q < H.size → ¬ A1 q → H1[q]? = H[q]?) → va_S A0 H0 H1 locs1 → W p l e R s m args below meth c H1 locs1 (cells + mc) (slots + ms) Q (F0 m (pc + 3) ls (.double r :: rest))) : W p l e R s m args below meth c H locs cells slots Q (F0 m pc ls st0) := by
  intro T hT X
  rcases hr T hT X with ⟨v, st₀, t, T', L, h0, X', hL, e1, e2, ⟨⟨r, u, hv, hp, hb⟩, hF⟩, st⟩ | ⟨q, st₀, t, T', L, E, ce, h0, X', hL, e1, e2, ⟨u, hp, hb, hF⟩, hce, hcv, hcl, st⟩
  · cases hv
    obtain ⟨k1, k2, k3⟩ := vx_keep h0 e1 hS hA hf hL hF
    obtain ⟨t2, a1, b1⟩ := kk r u t T'.heap (locs ++ L) e1.symm (by rw [← e2]; exact X'.warmed.alike) hp hb k1 k2 k3 T' rfl X'
    exact ⟨t2, st t2 a1, b1⟩
  · obtain ⟨k1, k2, k3⟩ := vx_keep h0 e1 hS hAX hf hL hF
    obtain ⟨t2, a1, b1⟩ := kx E ce q u t T'.heap (locs ++ L) e1.symm (by rw [← e2]; exact X'.warmed.alike) hp hb k1 k2 k3 (by rw [e1]; exact hce) hcv hcl T' rfl X'
    exact ⟨t2, st.trans a1, b1⟩
theorem vx_callv {S SX : Type} {post : S → Prop} {px : SX → Prop} {B : S → State → Prop} {BX : String → SX → State → Prop} {AX : Nat → Prop} (hr : vx_Run p l e R s m args below meth c H locs cells slots mc ms (F0 m pc ls st0) rest (va_Qv post B A1 a) (vx_X px BX AX) free) (hS : va_S A0 H0 H locs) (hA : ∀ q, q < H.size → A1 q → A0 q) (hf : ∀ q, free q → A0 q) (hAX : ∀ q, q < H.size → AX q → A0 q)
    (kx : ∀ (E : String) (ce : Cell) (q9 : Addr) (u : SX) (t : State) (H1 : Heap) (locs1 : List Loc), t.heap = H1 → s.vm.Alike t.vm → px u → BX E u t → H.size ≤ H1.size → (∀ q : Nat, q < H.size → ¬ AX q → H1[q]? = H[q]?) → va_S A0 H0 H1 locs1 → H1[q9]? = some ce → ce.vm = .none → s.vm.findClass E = some ce.cls → vx_W p l e R s m args below meth c H1 locs1 (cells + mc) (slots + ms) Q (F0 m pc ls rest) q9)
    (kk : ∀ (u : S) (t : State) (H1 : Heap) (locs1 : List Loc), t.heap = H1 → s.vm.Alike t.vm → post u → B u t → H.size ≤ H1.size → (∀ q : Nat, q < H.size → ¬ A1 q → H1[q]? = H[q]?) → va_S A0 H0 H1 locs1 → W p l e R s m args below meth c H1 locs1 (cells + mc) (slots + ms) Q (F0 m (pc + 3) ls (rest))) : W p l e R s m args below meth c H locs cells slots Q (F0 m pc ls st0) := by
  intro T hT X
  rcases hr T hT X with ⟨v, st₀, t, T', L, h0, X', hL, e1, e2, ⟨⟨u, hv, hp, hb⟩, hF⟩, st⟩ | ⟨q, st₀, t, T', L, E, ce, h0, X', hL, e1, e2, ⟨u, hp, hb, hF⟩, hce, hcv, hcl, st⟩
  · cases hv
    obtain ⟨k1, k2, k3⟩ := vx_keep h0 e1 hS hA hf hL hF
    obtain ⟨t2, a1, b1⟩ := kk u t T'.heap (locs ++ L) e1.symm (by rw [← e2]; exact X'.warmed.alike) hp hb k1 k2 k3 T' rfl X'
    exact ⟨t2, st t2 a1, b1⟩
  · obtain ⟨k1, k2, k3⟩ := vx_keep h0 e1 hS hAX hf hL hF
    obtain ⟨t2, a1, b1⟩ := kx E ce q u t T'.heap (locs ++ L) e1.symm (by rw [← e2]; exact X'.warmed.alike) hp hb k1 k2 k3 (by rw [e1]; exact hce) hcv hcl T' rfl X'
    exact ⟨t2, st.trans a1, b1⟩
/-- caught by the row x of this method's table; the rows ahead don't take it -/
theorem vx_catch {own name : String} {E : String} {ce : Cell} {q : Addr} (hown : s.vm.findClass own = some m.cls) (pre : List ExceptionTableEntry) (x : ExceptionTableEntry) (suf : List ExceptionTableEntry) (hsplit : c.exceptionTable.toList = pre ++ x :: suf)
    (hpass : ∀ z ∈ pre, covers z pc = false ∨ (z.catchType ≠ 0 ∧ ∃ nm : String, (Cond.classLink own z.catchType nm).before args s = true ∧ va_Nc E nm s)) (hx : covers x pc = true) (h0 : x.catchType ≠ 0)
    (hlink : (Cond.classLink own x.catchType name).before args s = true) (hcast : (Cond.castable E name).before args s = true) (hcell : H[q]? = some ce) (hv : ce.vm = .none) (hcl : s.vm.findClass E = some ce.cls)
    (kk : W p l e R s m args below meth c H locs cells slots Q (F0 m x.handlerPc ls [.ref q])) : vx_W p l e R s m args below meth c H locs cells slots Q (F0 m pc ls rest) q := by
  intro T hT X
  have hpl : e.platform.magicAccessors = ({} : Platform).magicAccessors := by rw [X.admits.platform]
  obtain ⟨c3, c4, hc3, hc4, hasg⟩ := Cond.castable_spec hcast
  cases Option.some.inj (hc3.symm.trans hcl)
  obtain ⟨c5, hc5, hcl5⟩ := Cond.classLink_spec hown hlink e.platform hpl
  cases Option.some.inj (hc4.symm.trans hc5)
  obtain ⟨vm', X', st⟩ := X.thenCaughtThrough q (g := F0 m pc ls rest) rfl (Steps.refl _) (by rw [hT]; exact hcell) (by rw [hv]; rfl) (by obtain ⟨k9, h9, -⟩ := Vm.findClass_spec hcl; exact ⟨k9, h9⟩) pre x suf hsplit
    (fun z hz => by
      rcases hpass z hz with h | ⟨hz0, nm, hl1, hn1⟩
      · exact Or.inl h
      · obtain ⟨c6, hc6, hcl6⟩ := Cond.classLink_spec hown hl1 e.platform hpl
        obtain ⟨a8, b8, h1, h2, h3⟩ := hn1
        cases Option.some.inj (h1.symm.trans hcl)
        cases Option.some.inj (h2.symm.trans hc6)
        exact Or.inr ⟨hz0, _, hcl6, h3⟩) hx (Or.inr ⟨h0, c4, hcl5, hasg⟩)
  obtain ⟨t, a1, b1⟩ := kk (T.setVm vm') hT X'
  exact ⟨t, st.trans a1, b1⟩
end Rows
section Ends
variable {p : Program} {l : Launch} {e : Env} {R : Room} {s : State} {m : MethodId} {args : Array Value} {below : List Frame} {meth : Method} {c : Code} {H : Heap} {locs : List Loc} {cells slots : Nat} {Q : State → Prop}
variable {mc ms : Nat} {free : Addr → Prop} {A0 A1 : Nat → Prop} {H0 : Heap} {a : Array Value} {ls : Array Slot} {st0 rest : List Value}
variable {Qc : Array Value → State → Outcome → State → Prop} {XC : String → State → State → Prop}
/-- what a body that may throw owes at its end -/
def vx_MQ (below : List Frame) (Qc : Array Value → State → Outcome → State → Prop) (XC : String → State → State → Prop) (a : Array Value) (s : State) (mc ms : Nat) (free : Addr → Prop) : State → Prop := fun t =>
  ∃ o, t.status = .running ∧ Ended t below o ∧ vx_Q Qc XC mc ms free a s o t
theorem vx_ret {g : JFrame} {mc ms : Nat} (k : W p l e R s m args below meth c H locs cells slots (MQ below Qc args s mc ms free) g) : W p l e R s m args below meth c H locs cells slots (vx_MQ below Qc XC args s mc ms free) g := by
  intro T hT X
  obtain ⟨t, a1, o, b1, b2, b3, b4⟩ := k T hT X
  exact ⟨t, a1, o, b1, b2, Or.inl ⟨b3, b4⟩⟩
/-- not caught here: it goes on to the caller -/
theorem vx_widen {g : JFrame} {q : Addr} {k n : Nat} (h1 : cells ≤ k) (h2 : slots ≤ n) (kk : vx_W p l e R s m args below meth c H locs k n Q g q) : vx_W p l e R s m args below meth c H locs cells slots Q g q := fun T hT X => kk T hT (stand_widen X h1 h2)
theorem vx_out {pc : Nat} {E : String} {ce : Cell} {q : Addr} {mc ms : Nat} (hout : ∀ x ∈ c.exceptionTable.toList, covers x pc = false) (hlocks : meth.locks = false) (hcell : H[q]? = some ce) (hv : ce.vm = .none) (hcl : s.vm.findClass E = some ce.cls)
    (hx : ∀ t : State, t.heap = H → s.vm.Alike t.vm → XC E s t) (hf : ∀ z ∈ locs, free z.base) (hc : cells ≤ mc) (hs : slots ≤ ms) :
    vx_W p l e R s m args below meth c H locs cells slots (vx_MQ below Qc XC args s mc ms free) (F0 m pc ls rest) q := by
  intro T hT X
  obtain ⟨st1, hrun, hend, hW, hsm⟩ := X.leaveThrown q (g := F0 m pc ls rest) rfl rfl rfl hout hlocks
  have hcell9 : (T.setFrames (.throwing q :: below)).heap[q]? = some ce := by
    show T.heap[q]? = some ce
    rw [hT]; exact hcell
  exact ⟨_, st1, .threw q, hrun, hend, Or.inr ⟨q, rfl, E, ce, locs, hx _ hT hW.alike, hcell9, hv, hcl, hW, hsm.mono hc hs, hf⟩⟩
theorem vx_frame {U : State} {k n : Nat} (h : s.sameButNew ({ U with vm := s.vm } : State) locs k n) : s.heap.size ≤ U.heap.size ∧ ∀ q : Nat, q < s.heap.size → (∀ z ∈ locs, z.base ≠ q) → U.heap[q]? = s.heap[q]? := by
  obtain ⟨-, h2, -, -, -, h6⟩ := h
  refine ⟨h2, fun q hq hz => ?_⟩
  obtain ⟨c9, e1, e2, e3, e4⟩ := h6 q _ (Array.getElem?_eq_getElem hq)
  have hs : c9.slots = (s.heap[q]).slots := Array.ext_getElem? fun i => e4 i fun hm => hz _ hm rfl
  have h9 : c9 = s.heap[q] := by
    rw [hs] at e2
    exact e2
  have e5 : U.heap[q]? = some c9 := e1
  rw [e5, h9, Array.getElem?_eq_getElem hq]
/-- the words of a throw but the four that speak of the heap -/
def vx_no (w : Cond) : Bool := decide (w ≠ .isRef (.static Bundle.tN "UNASSIGNED_STACK" Bundle.steD)) && decide (w ≠ .isRef (.static Bundle.tN "SUPPRESSED_SENTINEL" Bundle.listD)) && decide (w ≠ .laysStatic Bundle.tN "UNASSIGNED_STACK" Bundle.steD) && decide (w ≠ .laysStatic Bundle.tN "SUPPRESSED_SENTINEL" Bundle.listD)
def vx_at0 (own : String) (ic : Nat) (X : String) (names : List String) : List Cond := (Bundle.ownAtoms0 own ic X names).filter vx_no
def vx_atS (own : String) (ic : Nat) (X : String) (names : List String) : List Cond := (Bundle.ownAtoms own ic X names).filter vx_no
/-- a word that the tables alone decide, or a good one -/
def vx_ot (w : Cond) : Bool := w.onTables || goodWord w
theorem vx_ot_at {args a' : Array Value} {s U : State} {w : Cond} (hW : s.WarmedH U.vm) (hvm : s.vm = U.vm) (hg : vx_ot w = true) (h : w.before args s = true) : w.before a' U = true := by
  simp only [vx_ot, Bool.or_eq_true] at hg
  rcases hg with hg | hg
  · exact va_tabs hg hvm h
  · exact word_at hW (good_of_word hg) h
/-- a list's words: the good ones out of the method's own list, the others by premises of their own -/
theorem vx_hat {args : Array Value} {s : State} {L B : List Cond} (h1 : ∀ w ∈ L.filter goodWord, w.before args s = true) (h2 : ∀ w ∈ L.filter (fun w => !goodWord w), w ∈ B) (h3 : ∀ w ∈ B, w.before args s = true) : ∀ w ∈ L, w.before args s = true := by
  intro w hw
  by_cases g : goodWord w = true
  · exact h1 w (List.mem_filter.mpr ⟨hw, g⟩)
  · refine h3 w (h2 w (List.mem_filter.mpr ⟨hw, ?_⟩))
    show (!goodWord w) = true
    cases hgw : goodWord w
    · rfl
    · exact absurd hgw g
theorem vx_c {args : Array Value} {s : State} {w : Cond} {B : List Cond} (h : w.before args s = true) (t : ∀ w ∈ B, w.before args s = true) : ∀ w' ∈ w :: B, w'.before args s = true := fun w' h' => (List.mem_cons.mp h').elim (fun e => by rw [e]; exact h) (t w')
theorem vx_n {args : Array Value} {s : State} : ∀ w ∈ ([] : List Cond), w.before args s = true := fun _ h => nomatch h
theorem vx_own {args : Array Value} {s : State} {L : List Cond} (h1 : ∀ w ∈ L.filter vx_no, w.before args s = true)
    (hU : (Cond.isRef (.static Bundle.tN "UNASSIGNED_STACK" Bundle.steD)).before args s = true) (hN : (Cond.isRef (.static Bundle.tN "SUPPRESSED_SENTINEL" Bundle.listD)).before args s = true)
    (lU : (Cond.laysStatic Bundle.tN "UNASSIGNED_STACK" Bundle.steD).before args s = true) (lN : (Cond.laysStatic Bundle.tN "SUPPRESSED_SENTINEL" Bundle.listD).before args s = true) : ∀ w ∈ L, w.before args s = true := by
  intro w hw
  by_cases e1 : w = .isRef (.static Bundle.tN "UNASSIGNED_STACK" Bundle.steD)
  · rw [e1]; exact hU
  · by_cases e2 : w = .isRef (.static Bundle.tN "SUPPRESSED_SENTINEL" Bundle.listD)
    · rw [e2]; exact hN
    · by_cases e3 : w = .laysStatic Bundle.tN "UNASSIGNED_STACK" Bundle.steD
      · rw [e3]; exact lU
      · by_cases e4 : w = .laysStatic Bundle.tN "SUPPRESSED_SENTINEL" Bundle.listD
        · rw [e4]; exact lN
        · exact h1 w (List.mem_filter.mpr ⟨hw, by unfold vx_no; rw [decide_eq_true e1, decide_eq_true e2, decide_eq_true e3, decide_eq_true e4]; rfl⟩)
/-- where a static field lies, its class's statics cell in H -/
def vx_L (C n d : String) (A : Nat → Prop) (U : State) (H : Heap) : Prop := ∃ (c : ClassId) (k : Class) (i : Nat) (f : Field) (a : Nat) (cell : Cell), U.vm.findClass C = some c ∧ U.fieldFound? C n d = some (c, k, i, f) ∧ f.isStatic = true ∧ k.statics = some a ∧ H[a]? = some cell ∧ cell.vm.isStatics = true ∧ cell.cls = c ∧ f.slot < cell.slots.size ∧ k.staticTypes[f.slot]? = some f.type ∧ ¬ A a
theorem vx_L.moved {C n d : String} {A : Nat → Prop} {u U : State} {H : Heap} (hvm : u.vm.Alike U.vm) (h : vx_L C n d A u H) : vx_L C n d A U H := by
  obtain ⟨c, k, i, f, a, cell, h1, h2, h3, h4, h5, h6, h7, h8, h9, h10⟩ := h
  obtain ⟨k', hi', he⟩ := State.fieldFound?_setVm hvm h2
  exact ⟨c, k', i, f, a, cell, by rw [hvm.findClass]; exact h1, hi', h3, by rw [he]; exact h4, h5, h6, h7, h8, by rw [he]; exact h9, h10⟩
theorem vx_L.kept {C n d : String} {A : Nat → Prop} {U : State} {H H1 : Heap} (h : vx_L C n d A U H) (hq : ∀ a : Nat, a < H.size → ¬ A a → H1[a]? = H[a]?) : vx_L C n d A U H1 := by
  obtain ⟨c, k, i, f, a, cell, h1, h2, h3, h4, h5, h6, h7, h8, h9, h10⟩ := h
  exact ⟨c, k, i, f, a, cell, h1, h2, h3, h4, by rw [hq a (Array.getElem?_eq_some_iff.mp h5).1 h10]; exact h5, h6, h7, h8, h9, h10⟩
theorem vx_L.narrow {C n d : String} {A B : Nat → Prop} {U : State} {H : Heap} (h : vx_L C n d A U H) (hAB : ∀ q, B q → A q) : vx_L C n d B U H := by
  obtain ⟨c, k, i, f, a, cell, h1, h2, h3, h4, h5, h6, h7, h8, h9, h10⟩ := h
  exact ⟨c, k, i, f, a, cell, h1, h2, h3, h4, h5, h6, h7, h8, h9, fun z => h10 (hAB _ z)⟩
theorem vx_L.word {C n d : String} {A : Nat → Prop} {s : State} {args : Array Value} (h : vx_L C n d A s s.heap) : (Cond.laysStatic C n d).before args s = true := by
  obtain ⟨c, k, i, f, a, cell, h1, h2, h3, h4, h5, h6, h7, h8, h9, -⟩ := h
  show (Cond.laysStatic C n d).holds args s none s [] = true
  exact Cond.laysStatic_of h1 h2 h3 h4 h5 h6 h7 h8 h9
/-- .. and what it holds: null or some reference -/
def vx_Zq (C n d : String) (A : Nat → Prop) (U : State) (H : Heap) : Prop := va_Zq C n d A U H ∧ vx_L C n d A U H
theorem vx_Zq.moved {C n d : String} {A : Nat → Prop} {u U : State} {H : Heap} (hvm : u.vm.Alike U.vm) (h : vx_Zq C n d A u H) : vx_Zq C n d A U H := ⟨va_Zq.moved hvm h.1, vx_L.moved hvm h.2⟩
theorem vx_Zq.kept {C n d : String} {A : Nat → Prop} {U : State} {H H1 : Heap} (h : vx_Zq C n d A U H) (hq : ∀ a : Nat, a < H.size → ¬ A a → H1[a]? = H[a]?) : vx_Zq C n d A U H1 := ⟨va_Zq.kept h.1 hq, vx_L.kept h.2 hq⟩
theorem vx_Zq.narrow {C n d : String} {A B : Nat → Prop} {U : State} {H : Heap} (h : vx_Zq C n d A U H) (hAB : ∀ q, B q → A q) : vx_Zq C n d B U H := ⟨va_Zq.narrow h.1 hAB, vx_L.narrow h.2 hAB⟩
theorem vx_Zqof {args : Array Value} {s : State} {C n d : String} {A : Nat → Prop} (hl : (Cond.laysStatic C n d).before args s = true) (hini : (Cond.initialized C).before args s = true) (h : (Cond.isRef (.static C n d)).before args s = true) (hA : ∀ a : Nat, a < s.heap.size → ¬ A a) : vx_Zq C n d A s s.heap := by
  refine ⟨va_Zqof hl hini h hA, ?_⟩
  obtain ⟨c, k, i, f, a, cell, h1, h2, h3, h4, h5, h6, h7, h8, h9⟩ := Cond.laysStatic_spec hl
  exact ⟨c, k, i, f, a, cell, h1, h2, h3, h4, h5, h6, h7, h8, h9, hA a (Array.getElem?_eq_some_iff.mp h5).1⟩
theorem vx_isRef {C n d : String} {v : Value} {A : Nat → Prop} {s : State} {args : Array Value} (h : va_Z C n d v A s s.heap) (hv : v.isRef = true) : (Cond.isRef (.static C n d)).before args s = true := by
  obtain ⟨cf, kf, fi, f, a, cell, h1, h2, h3, h4, h5, h6, h7, -⟩ := h
  have he : (Term.static C n d).eval args s none [] s = some v := by
    simp [Term.eval, State.fieldNamed?, h1, h2, h4, h5, h6, h7]
  simp only [Cond.before, Cond.holds, Cond.value, he]
  cases v <;> simp_all [Value.isRef]
theorem vx_isRefq {C n d : String} {A : Nat → Prop} {s : State} {args : Array Value} (h : va_Zq C n d A s s.heap) : (Cond.isRef (.static C n d)).before args s = true := by
  rcases h with h | ⟨t, h⟩
  · exact vx_isRef h rfl
  · exact vx_isRef h rfl
/-- the same frame, seen from here: as if the method were called anew in this heap -/
theorem vx_rebase {T : State} (X : Stand p l e R s m args below meth c T locs cells slots) {R' : Room} (hf : R'.frames ≤ R.frames) (hl : R'.locals ≤ R.locals) (hc : cells + R'.cells ≤ R.cells) (hs : slots + R'.slots ≤ R.slots) :
    Stand p l e R' ((T.setVm s.vm).setFrames (.invoking m args :: below)) m args below meth c T [] 0 0 := by
  have htop : (T.setVm s.vm).topJava?.isSome := X.here.top
  have hF : ((T.setVm s.vm).setFrames (.invoking m args :: below)).frames = .invoking m args :: below := State.frames_setFrames _ (State.cur_lt_of_top htop)
  obtain ⟨g₀, hg0⟩ := Option.isSome_iff_exists.mp htop
  obtain ⟨r, hr⟩ := State.topJava?_eq_some.mp hg0
  have hl9 : e.platform.stackLimits (T.setVm s.vm).me = e.platform.stackLimits s.me := X.limits
  have hb9 : (T.setVm s.vm).me.stackBytes = s.me.stackBytes := X.bytes
  refine ⟨X.admits, X.cas, X.clock, hF, ?_, X.hears, X.method, X.code, X.here, X.tail, X.warmed, ?_, ?_, ?_⟩
  · have h := X.room
    have hU : ((T.setVm s.vm).setFrames (.invoking m args :: below)).localsInUse = s.localsInUse := by
      rw [State.localsInUse_invoking hF (meth := meth) (c := c) X.method X.code, State.localsInUse_invoking X.frames X.method X.code]
    simp only [State.hasRoom, Bool.and_eq_true, decide_eq_true_eq] at h ⊢
    obtain ⟨⟨⟨⟨h1, h2, h3, h4, h5, h6⟩, h7⟩, h8⟩, h9⟩ := h
    rw [X.frames, List.length_cons] at h2 h3
    have q1 := X.heapSize
    have q2 := X.used
    simp only [hF, hU, List.length_cons, State.stackLimits_setFrames, State.stackBytes_setFrames, hl9, hb9]
    refine ⟨⟨⟨⟨by omega, by omega, by omega, by omega, by omega, h6⟩, ?_⟩, ?_⟩, X.book⟩
    · show T.heap.size + R'.cells ≤ e.platform.maxCells
      omega
    · show T.slotsUsed + R'.slots ≤ e.platform.maxSlots
      omega
  · rw [State.stackLimits_setFrames]; rfl
  · rw [State.stackBytes_setFrames]; rfl
  · refine ⟨?_, Nat.le_refl _, Nat.le_refl _, ?_, ?_, fun a c9 h9 => ⟨c9, h9, rfl, rfl, fun _ _ => rfl⟩⟩
    · obtain ⟨t, ht, -⟩ := State.frames_cons hr
      show T.setVm s.vm = { ((T.setVm s.vm).setFrames (.invoking m args :: below)).setFrames (T.setVm s.vm).frames with heap := T.heap, slotsUsed := T.slotsUsed }
      rw [State.setFrames_setFrames, State.setFrames_self ht]
      rfl
    · show T.slotsUsed = T.slotsUsed + ((T.heap.toList.drop T.heap.size).map (·.slots.size)).sum
      rw [List.drop_eq_nil_of_le (Nat.le_of_eq Array.length_toList)]
      rfl
    · show ((T.heap.toList.drop T.heap.size).map (·.slots.size)).sum ≤ 0
      rw [List.drop_eq_nil_of_le (Nat.le_of_eq Array.length_toList)]
      exact Nat.le_refl _
/-- 'throw new E()': new; dup; invokespecial; athrow -/
theorem vx_throw0 {cc : ByteArray} {pc : Nat} (hexec : p.tables.exec = Jvm.exec) (hb : c.code = cc) (hl : l.stackTraces = false) {own cls : String} {names : List String} {ik ic mc ms : Nat} {A : Nat → Prop}
    (hown : s.vm.findClass own = some m.cls) (hcls : Bundle.fit cls = true) (hnames : ∀ n ∈ names, Bundle.fit n = true)
    (hk : (Cond.classLink own ik cls).before args s = true) (hini : (Cond.initialized cls).before args s = true) (hat : ∀ w ∈ vx_at0 own ic cls names, w.before args s = true)
    (hgood : ∀ w ∈ Cond.classLink own ik cls :: Cond.initialized cls :: vx_at0 own ic cls names, vx_ot w = true)
    (hU : vx_Zq Bundle.tN "UNASSIGNED_STACK" Bundle.steD A s s.heap) (hN : vx_Zq Bundle.tN "SUPPRESSED_SENTINEL" Bundle.listD A s s.heap) (hS : va_S A s.heap H locs) (hsize : ls.size = c.maxLocals)
    (d0 : decode cc pc = .ok (.new ik, 3)) (d3 : decode cc (pc + 3) = .ok (.dup, 1)) (d4 : decode cc (pc + 4) = .ok (.invokespecial ic, 3)) (d7 : decode cc (pc + 7) = .ok (.athrow, 1))
    (hout : ∀ x ∈ c.exceptionTable.toList, covers x (pc + 7) = false)
    (hRframes : names.length + 3 < R.frames) (hRlocals : (rest.map fun v => v.category).sum + (13 * (names.length + 1) + 42) ≤ R.locals) (hRcells : cells + 1 ≤ R.cells) (hRslots : slots + 6 ≤ R.slots) (hlocks : meth.locks = false)
    (hx : ∀ t : State, s.vm.Alike t.vm → H.size ≤ t.heap.size → (∀ q : Nat, q < H.size → t.heap[q]? = H[q]?) → XC cls s t)
    (hf : ∀ z ∈ locs, free z.base) (hc : cells + 1 ≤ mc) (hs : slots + 6 ≤ ms) :
    W p l e R s m args below meth c H locs cells slots (vx_MQ below Qc XC args s mc ms free) (F0 m pc ls rest) := by
  intro T hT X
  have htr : e.platform.stackTraces = false := (show e.platform.stackTraces = l.stackTraces by rw [X.admits.platform]).trans hl
  have Y := vx_rebase X (R' := { frames := R.frames, locals := R.locals, cells := 1, slots := 6 }) (Nat.le_refl _) (Nat.le_refl _) hRcells hRslots
  obtain ⟨s', hA⟩ : ∃ z, z = (T.setVm s.vm).setFrames (.invoking m args :: below) := ⟨_, rfl⟩
  rw [← hA] at Y
  have hvm : s'.vm = s.vm := by rw [hA]; rfl
  have hhp : s'.heap = H := by rw [hA]; exact hT
  have hW0 : s.WarmedH s'.vm := by rw [hvm]; exact State.WarmedH.refl s
  have hat' : ∀ w ∈ vx_at0 own ic cls names, w.before args s' = true := fun w hw => vx_ot_at hW0 hvm.symm (hgood w (List.mem_cons_of_mem _ (List.mem_cons_of_mem _ hw))) (hat w hw)
  have hk' : (Cond.classLink own ik cls).before args s' = true := vx_ot_at hW0 hvm.symm (hgood _ List.mem_cons_self) hk
  have hini' : (Cond.initialized cls).before args s' = true := vx_ot_at hW0 hvm.symm (hgood _ (List.mem_cons_of_mem _ List.mem_cons_self)) hini
  have hU' : vx_Zq Bundle.tN "UNASSIGNED_STACK" Bundle.steD A s' s'.heap := by rw [hhp]; exact vx_Zq.moved hW0.alike (hU.kept hS.2.1)
  have hN' : vx_Zq Bundle.tN "SUPPRESSED_SENTINEL" Bundle.listD A s' s'.heap := by rw [hhp]; exact vx_Zq.moved hW0.alike (hN.kept hS.2.1)
  have h : ∀ w ∈ Bundle.ownAtoms0 own ic cls names, w.before args s' = true := vx_own hat' (vx_isRefq hU'.1) (vx_isRefq hN'.1) hU'.2.word hN'.2.word
  have hown' : s'.vm.findClass own = some m.cls := by rw [hvm]; exact hown
  have hins : (Cond.instantiable cls 6).before args s' = true := h _ (by simp [Bundle.ownAtoms0])
  obtain ⟨vm₁, cX, kX, hfX, hkX, -, -, X₁, st1⟩ := Y.newCold hexec (own := own) (C := cls) (index := ik) (n := 6) hown' hk' hins hini'
    (g := F0 m pc ls rest) rfl (by rw [hb]; exact d0) (Nat.le_refl _) (Nat.le_refl _)
  generalize hT1 : (T.setVm vm₁).pushCell { cls := cX, slots := kX.instanceTypes.map defaultValue, vm := .none } = T1 at X₁ st1
  have hcat : (Value.ref T.heap.size).category = 1 := rfl
  have hcellA : T1.heap[T.heap.size]? = some (freshCell cX kX) := by rw [← hT1]; exact State.heap_pushCell_size _ _
  have d3' : decode c.code (pc + 3) = .ok (.dup, 1) := by rw [hb]; exact d3
  obtain ⟨U, hsteps, hrun, hend, hW, hsame, ce, hce, hO⟩ := X₁.ctorThrow0 hexec htr (own := own) (cls := cls) (names := names) (ic := ic) hown' hcls hnames h (fun x hx => nomatch hx) hfX hkX hcellA (by rw [hhp, hT]; exact Nat.le_refl _)
    (g := { method := m, pc := pc + 4, locals := ls, stack := .ref T.heap.size :: .ref T.heap.size :: rest, locked := none }) rfl hsize rfl rfl (rest := rest) rfl
    (by rw [hb]; exact d4) (by rw [hb]; exact d7) hout hRframes (by simp only [List.map_cons, List.sum_cons, hcat]; omega) hlocks
  obtain ⟨f1, f2⟩ := vx_frame hsame
  rw [hhp] at f1 f2
  have hWs : s.WarmedH U.vm := State.WarmedH.trans hW0 hW
  have hcl : s.vm.findClass cls = some ce.cls := by
    have h9 := hO.cls
    rw [hvm] at h9
    exact h9
  have hall : s.sameButNew ({ U with vm := s.vm } : State) locs mc ms := by
    subst hA
    obtain ⟨e1, e2⟩ := hsame
    rw [State.setFrames_setFrames] at e1
    have h2 : (T.setVm s.vm).sameButNew ({ U with vm := s.vm } : State) [] (0 + 1) (0 + 6) := ⟨e1, e2⟩
    have h3 := X.same.trans h2
    rw [List.append_nil] at h3
    exact h3.mono hc hs
  refine ⟨U, ?_, .threw T.heap.size, hrun, hend, Or.inr ⟨T.heap.size, rfl, cls, ce, locs, hx U hWs.alike f1 (fun q hq => f2 q hq (fun z hz => nomatch hz)), hce, hO.vm, hcl, hWs, hall, hf⟩⟩
  refine st1 _ ?_
  show Steps p.tables e below (T1.setTop { method := m, pc := pc + 3, locals := ls, stack := .ref T.heap.size :: rest, locked := none }) _
  jvm_step X₁.here [X₁.here.top, hexec, d3', Value.category]
  exact hsteps
/-- 'throw new E("text")': new; dup; ldc; invokespecial; athrow -/
theorem vx_throwS {cc : ByteArray} {pc : Nat} (hexec : p.tables.exec = Jvm.exec) (hb : c.code = cc) (hl : l.stackTraces = false) {own cls text : String} {names : List String} {ik is ic mc ms sa : Nat} {A : Nat → Prop}
    (hown : s.vm.findClass own = some m.cls) (hcls : Bundle.fit cls = true) (hnames : ∀ n ∈ names, Bundle.fit n = true)
    (hk : (Cond.classLink own ik cls).before args s = true) (hini : (Cond.initialized cls).before args s = true) (hstr : vk_R own is text sa s) (hat : ∀ w ∈ vx_atS own ic cls names, w.before args s = true)
    (hgood : ∀ w ∈ Cond.classLink own ik cls :: Cond.initialized cls :: vx_atS own ic cls names, vx_ot w = true)
    (hU : vx_Zq Bundle.tN "UNASSIGNED_STACK" Bundle.steD A s s.heap) (hN : vx_Zq Bundle.tN "SUPPRESSED_SENTINEL" Bundle.listD A s s.heap) (hS : va_S A s.heap H locs) (hsize : ls.size = c.maxLocals)
    (d0 : decode cc pc = .ok (.new ik, 3)) (d3 : decode cc (pc + 3) = .ok (.dup, 1)) (d4 : decode cc (pc + 4) = .ok (.ldc is, 2)) (d6 : decode cc (pc + 6) = .ok (.invokespecial ic, 3)) (d9 : decode cc (pc + 9) = .ok (.athrow, 1))
    (hout : ∀ x ∈ c.exceptionTable.toList, covers x (pc + 9) = false)
    (hRframes : names.length + 3 < R.frames) (hRlocals : (rest.map fun v => v.category).sum + (13 * (names.length + 1) + 43) ≤ R.locals) (hRcells : cells + 1 ≤ R.cells) (hRslots : slots + 6 ≤ R.slots) (hlocks : meth.locks = false)
    (hx : ∀ t : State, s.vm.Alike t.vm → H.size ≤ t.heap.size → (∀ q : Nat, q < H.size → t.heap[q]? = H[q]?) → XC cls s t)
    (hf : ∀ z ∈ locs, free z.base) (hc : cells + 1 ≤ mc) (hs : slots + 6 ≤ ms) :
    W p l e R s m args below meth c H locs cells slots (vx_MQ below Qc XC args s mc ms free) (F0 m pc ls rest) := by
  intro T hT X
  have htr : e.platform.stackTraces = false := (show e.platform.stackTraces = l.stackTraces by rw [X.admits.platform]).trans hl
  have Y := vx_rebase X (R' := { frames := R.frames, locals := R.locals, cells := 1, slots := 6 }) (Nat.le_refl _) (Nat.le_refl _) hRcells hRslots
  obtain ⟨s', hA⟩ : ∃ z, z = (T.setVm s.vm).setFrames (.invoking m args :: below) := ⟨_, rfl⟩
  rw [← hA] at Y
  have hvm : s'.vm = s.vm := by rw [hA]; rfl
  have hhp : s'.heap = H := by rw [hA]; exact hT
  have hW0 : s.WarmedH s'.vm := by rw [hvm]; exact State.WarmedH.refl s
  have hat' : ∀ w ∈ vx_atS own ic cls names, w.before args s' = true := fun w hw => vx_ot_at hW0 hvm.symm (hgood w (List.mem_cons_of_mem _ (List.mem_cons_of_mem _ hw))) (hat w hw)
  have hk' : (Cond.classLink own ik cls).before args s' = true := vx_ot_at hW0 hvm.symm (hgood _ List.mem_cons_self) hk
  have hini' : (Cond.initialized cls).before args s' = true := vx_ot_at hW0 hvm.symm (hgood _ (List.mem_cons_of_mem _ List.mem_cons_self)) hini
  have hU' : vx_Zq Bundle.tN "UNASSIGNED_STACK" Bundle.steD A s' s'.heap := by rw [hhp]; exact vx_Zq.moved hW0.alike (hU.kept hS.2.1)
  have hN' : vx_Zq Bundle.tN "SUPPRESSED_SENTINEL" Bundle.listD A s' s'.heap := by rw [hhp]; exact vx_Zq.moved hW0.alike (hN.kept hS.2.1)
  have h : ∀ w ∈ Bundle.ownAtoms own ic cls names, w.before args s' = true := vx_own hat' (vx_isRefq hU'.1) (vx_isRefq hN'.1) hU'.2.word hN'.2.word
  have hown' : s'.vm.findClass own = some m.cls := by rw [hvm]; exact hown
  have hins : (Cond.instantiable cls 6).before args s' = true := h _ (by simp [Bundle.ownAtoms])
  obtain ⟨vm₁, cX, kX, hfX, hkX, -, -, X₁, st1⟩ := Y.newCold hexec (own := own) (C := cls) (index := ik) (n := 6) hown' hk' hins hini'
    (g := F0 m pc ls rest) rfl (by rw [hb]; exact d0) (Nat.le_refl _) (Nat.le_refl _)
  generalize hT1 : (T.setVm vm₁).pushCell { cls := cX, slots := kX.instanceTypes.map defaultValue, vm := .none } = T1 at X₁ st1
  have hcat : (Value.ref T.heap.size).category = 1 := rfl
  have hcellA : T1.heap[T.heap.size]? = some (freshCell cX kX) := by rw [← hT1]; exact State.heap_pushCell_size _ _
  have d3' : decode c.code (pc + 3) = .ok (.dup, 1) := by rw [hb]; exact d3
  have d4' : decode c.code (pc + 4) = .ok (.ldc is, 2) := by rw [hb]; exact d4
  have hstr' : vk_R own is text sa s' := vk_R.warm hW0 hstr
  obtain ⟨U, hsteps, hrun, hend, hW, hsame, ce, hce, hO⟩ := X₁.ctorThrowS hexec htr (own := own) (cls := cls) (names := names) (ic := ic) hown' hcls hnames h (fun x hx => nomatch hx) hfX hkX hcellA (by rw [hhp, hT]; exact Nat.le_refl _) (msg := .ref sa) rfl
    (g := { method := m, pc := pc + 6, locals := ls, stack := .ref sa :: .ref T.heap.size :: .ref T.heap.size :: rest, locked := none }) rfl hsize rfl rfl (rest := rest) rfl
    (by rw [hb]; exact d6) (by rw [hb]; exact d9) hout hRframes (by simp only [List.map_cons, List.sum_cons, hcat]; omega) hlocks
  obtain ⟨f1, f2⟩ := vx_frame hsame
  rw [hhp] at f1 f2
  have hWs : s.WarmedH U.vm := State.WarmedH.trans hW0 hW
  have hcl : s.vm.findClass cls = some ce.cls := by
    have h9 := hO.cls
    rw [hvm] at h9
    exact h9
  have hall : s.sameButNew ({ U with vm := s.vm } : State) locs mc ms := by
    subst hA
    obtain ⟨e1, e2⟩ := hsame
    rw [State.setFrames_setFrames] at e1
    have h2 : (T.setVm s.vm).sameButNew ({ U with vm := s.vm } : State) [] (0 + 1) (0 + 6) := ⟨e1, e2⟩
    have h3 := X.same.trans h2
    rw [List.append_nil] at h3
    exact h3.mono hc hs
  refine ⟨U, ?_, .threw T.heap.size, hrun, hend, Or.inr ⟨T.heap.size, rfl, cls, ce, locs, hx U hWs.alike f1 (fun q hq => f2 q hq (fun z hz => nomatch hz)), hce, hO.vm, hcl, hWs, hall, hf⟩⟩
  refine st1 _ ?_
  show Steps p.tables e below (T1.setTop { method := m, pc := pc + 3, locals := ls, stack := .ref T.heap.size :: rest, locked := none }) _
  jvm_step X₁.here [X₁.here.top, hexec, d3', Value.category]
  exact X₁.ldcString hexec (own := own) (text := text) (index := is) (a := sa) hown' hstr'.1 hstr'.2
    (g := { method := m, pc := pc + 4, locals := ls, stack := .ref T.heap.size :: .ref T.heap.size :: rest, locked := none }) rfl d4' _ hsteps
/-- 'throw new E("text")', the text by a wide index -/
theorem vx_throwSW {cc : ByteArray} {pc : Nat} (hexec : p.tables.exec = Jvm.exec) (hb : c.code = cc) (hl : l.stackTraces = false) {own cls text : String} {names : List String} {ik is ic mc ms sa : Nat} {A : Nat → Prop}
    (hown : s.vm.findClass own = some m.cls) (hcls : Bundle.fit cls = true) (hnames : ∀ n ∈ names, Bundle.fit n = true)
    (hk : (Cond.classLink own ik cls).before args s = true) (hini : (Cond.initialized cls).before args s = true) (hstr : vk_R own is text sa s) (hat : ∀ w ∈ vx_atS own ic cls names, w.before args s = true)
    (hgood : ∀ w ∈ Cond.classLink own ik cls :: Cond.initialized cls :: vx_atS own ic cls names, vx_ot w = true)
    (hU : vx_Zq Bundle.tN "UNASSIGNED_STACK" Bundle.steD A s s.heap) (hN : vx_Zq Bundle.tN "SUPPRESSED_SENTINEL" Bundle.listD A s s.heap) (hS : va_S A s.heap H locs) (hsize : ls.size = c.maxLocals)
    (d0 : decode cc pc = .ok (.new ik, 3)) (d3 : decode cc (pc + 3) = .ok (.dup, 1)) (d4 : decode cc (pc + 4) = .ok (.ldc_w is, 3)) (d7 : decode cc (pc + 7) = .ok (.invokespecial ic, 3)) (d10 : decode cc (pc + 10) = .ok (.athrow, 1))
    (hout : ∀ x ∈ c.exceptionTable.toList, covers x (pc + 10) = false)
    (hRframes : names.length + 3 < R.frames) (hRlocals : (rest.map fun v => v.category).sum + (13 * (names.length + 1) + 43) ≤ R.locals) (hRcells : cells + 1 ≤ R.cells) (hRslots : slots + 6 ≤ R.slots) (hlocks : meth.locks = false)
    (hx : ∀ t : State, s.vm.Alike t.vm → H.size ≤ t.heap.size → (∀ q : Nat, q < H.size → t.heap[q]? = H[q]?) → XC cls s t)
    (hf : ∀ z ∈ locs, free z.base) (hc : cells + 1 ≤ mc) (hs : slots + 6 ≤ ms) :
    W p l e R s m args below meth c H locs cells slots (vx_MQ below Qc XC args s mc ms free) (F0 m pc ls rest) := by
  intro T hT X
  have htr : e.platform.stackTraces = false := (show e.platform.stackTraces = l.stackTraces by rw [X.admits.platform]).trans hl
  have Y := vx_rebase X (R' := { frames := R.frames, locals := R.locals, cells := 1, slots := 6 }) (Nat.le_refl _) (Nat.le_refl _) hRcells hRslots
  obtain ⟨s', hA⟩ : ∃ z, z = (T.setVm s.vm).setFrames (.invoking m args :: below) := ⟨_, rfl⟩
  rw [← hA] at Y
  have hvm : s'.vm = s.vm := by rw [hA]; rfl
  have hhp : s'.heap = H := by rw [hA]; exact hT
  have hW0 : s.WarmedH s'.vm := by rw [hvm]; exact State.WarmedH.refl s
  have hat' : ∀ w ∈ vx_atS own ic cls names, w.before args s' = true := fun w hw => vx_ot_at hW0 hvm.symm (hgood w (List.mem_cons_of_mem _ (List.mem_cons_of_mem _ hw))) (hat w hw)
  have hk' : (Cond.classLink own ik cls).before args s' = true := vx_ot_at hW0 hvm.symm (hgood _ List.mem_cons_self) hk
  have hini' : (Cond.initialized cls).before args s' = true := vx_ot_at hW0 hvm.symm (hgood _ (List.mem_cons_of_mem _ List.mem_cons_self)) hini
  have hU' : vx_Zq Bundle.tN "UNASSIGNED_STACK" Bundle.steD A s' s'.heap := by rw [hhp]; exact vx_Zq.moved hW0.alike (hU.kept hS.2.1)
  have hN' : vx_Zq Bundle.tN "SUPPRESSED_SENTINEL" Bundle.listD A s' s'.heap := by rw [hhp]; exact vx_Zq.moved hW0.alike (hN.kept hS.2.1)
  have h : ∀ w ∈ Bundle.ownAtoms own ic cls names, w.before args s' = true := vx_own hat' (vx_isRefq hU'.1) (vx_isRefq hN'.1) hU'.2.word hN'.2.word
  have hown' : s'.vm.findClass own = some m.cls := by rw [hvm]; exact hown
  have hins : (Cond.instantiable cls 6).before args s' = true := h _ (by simp [Bundle.ownAtoms])
  obtain ⟨vm₁, cX, kX, hfX, hkX, -, -, X₁, st1⟩ := Y.newCold hexec (own := own) (C := cls) (index := ik) (n := 6) hown' hk' hins hini'
    (g := F0 m pc ls rest) rfl (by rw [hb]; exact d0) (Nat.le_refl _) (Nat.le_refl _)
  generalize hT1 : (T.setVm vm₁).pushCell { cls := cX, slots := kX.instanceTypes.map defaultValue, vm := .none } = T1 at X₁ st1
  have hcat : (Value.ref T.heap.size).category = 1 := rfl
  have hcellA : T1.heap[T.heap.size]? = some (freshCell cX kX) := by rw [← hT1]; exact State.heap_pushCell_size _ _
  have d3' : decode c.code (pc + 3) = .ok (.dup, 1) := by rw [hb]; exact d3
  have d4' : decode c.code (pc + 4) = .ok (.ldc_w is, 3) := by rw [hb]; exact d4
  have hstr' : vk_R own is text sa s' := vk_R.warm hW0 hstr
  obtain ⟨U, hsteps, hrun, hend, hW, hsame, ce, hce, hO⟩ := X₁.ctorThrowS hexec htr (own := own) (cls := cls) (names := names) (ic := ic) hown' hcls hnames h (fun x hx => nomatch hx) hfX hkX hcellA (by rw [hhp, hT]; exact Nat.le_refl _) (msg := .ref sa) rfl
    (g := { method := m, pc := pc + 7, locals := ls, stack := .ref sa :: .ref T.heap.size :: .ref T.heap.size :: rest, locked := none }) rfl hsize rfl rfl (rest := rest) rfl
    (by rw [hb]; exact d7) (by rw [hb]; exact d10) hout hRframes (by simp only [List.map_cons, List.sum_cons, hcat]; omega) hlocks
  obtain ⟨f1, f2⟩ := vx_frame hsame
  rw [hhp] at f1 f2
  have hWs : s.WarmedH U.vm := State.WarmedH.trans hW0 hW
  have hcl : s.vm.findClass cls = some ce.cls := by
    have h9 := hO.cls
    rw [hvm] at h9
    exact h9
  have hall : s.sameButNew ({ U with vm := s.vm } : State) locs mc ms := by
    subst hA
    obtain ⟨e1, e2⟩ := hsame
    rw [State.setFrames_setFrames] at e1
    have h2 : (T.setVm s.vm).sameButNew ({ U with vm := s.vm } : State) [] (0 + 1) (0 + 6) := ⟨e1, e2⟩
    have h3 := X.same.trans h2
    rw [List.append_nil] at h3
    exact h3.mono hc hs
  refine ⟨U, ?_, .threw T.heap.size, hrun, hend, Or.inr ⟨T.heap.size, rfl, cls, ce, locs, hx U hWs.alike f1 (fun q hq => f2 q hq (fun z hz => nomatch hz)), hce, hO.vm, hcl, hWs, hall, hf⟩⟩
  refine st1 _ ?_
  show Steps p.tables e below (T1.setTop { method := m, pc := pc + 3, locals := ls, stack := .ref T.heap.size :: rest, locked := none }) _
  jvm_step X₁.here [X₁.here.top, hexec, d3', Value.category]
  exact X₁.ldcStringW hexec (own := own) (text := text) (index := is) (a := sa) hown' hstr'.1 hstr'.2
    (g := { method := m, pc := pc + 4, locals := ls, stack := .ref T.heap.size :: .ref T.heap.size :: rest, locked := none }) rfl d4' _ hsteps
end Ends
section Bodies
variable {l : Launch}
theorem vx_ofW {y : MethodName} {ws ws' : List Cond} {rm : Room} {Pc : Array Value → State → Prop} {Qc : Array Value → State → Outcome → State → Prop} {XC : String → State → State → Prop} {mc ms : Nat} {free : Addr → Prop} {cc : ByteArray} {maxL : Nat} {ret : Option FieldType}
    (hy : plainName y.cls = true) (hw : ws = Cond.code y cc maxL ret :: ws')
    (body : ∀ p e s m args below meth c s₁, BodyLoose p l y (headSpec ws rm) cc maxL ret e s m args below meth c s₁ → c.maxLocals = maxL → (∀ x ∈ c.exceptionTable.toList, False) → Pc args s →
      W p l e (headSpec ws rm).room s m args below meth c s.heap [] 0 0 (vx_MQ below Qc XC args s mc ms free) (entryFrame m args maxL)) : vx_Met l y ws rm Pc Qc XC mc ms free := by
  refine MetFree.of_bodyS (code := cc) (maxLocals := maxL) (ret := ret) hy ?_ ?_
  · intro args s m h hn
    obtain ⟨meth, c, h1, h2, h3, h4, h5, h6, -, -⟩ := Cond.code_spec hn (atoms_spec (ws := ws) h _ (by rw [hw]; exact List.mem_cons_self))
    exact ⟨meth, c, h1, h2, h3, h4, h5, h6⟩
  · intro p e s m args below meth c s₁ B hml hP _
    have hh0 : s₁.heap = s.heap := by rw [B.state]; rfl
    have ht : ∀ x ∈ c.exceptionTable.toList, False := by
      obtain ⟨meth9, c9, h1, h2, -, -, -, -, h7, -⟩ := Cond.code_spec B.named (atoms_spec (ws := ws) B.pre _ (by rw [hw]; exact List.mem_cons_self))
      cases Option.some.inj (h1.symm.trans B.method)
      cases Option.some.inj (h2.symm.trans (Stand.of_body B).code)
      intro x hx
      rw [Array.isEmpty_iff.mp h7] at hx
      cases hx
    obtain ⟨t, a1, o, b1, b2, b3⟩ := body p e s m args below meth c s₁ B hml ht hP s₁ hh0 (Stand.of_body B)
    exact ⟨t, o, a1, b1, b2, b3⟩
/-- the table of a body with handlers -/
theorem vx_table {p : Program} {x y : MethodName} {S : Spec} {cc bytes : ByteArray} {maxL maxL' : Nat} {ret ret' : Option FieldType} {e : Env} {s s₁ : State} {m : MethodId} {args : Array Value} {below : List Frame} {meth : Method} {c : Code} {hh : List (Nat × Nat × Nat × Nat)}
    (B : BodyLoose p l y S cc maxL ret e s m args below meth c s₁) (h : (Cond.codeWith y bytes maxL' ret' hh).before args s = true) : c.exceptionTable.toList = tableOf hh := by
  obtain ⟨m9, meth9, c9, hn9, h1, h2, -, -, h6, -⟩ := Cond.codeWith_spec h
  cases Option.some.inj (hn9.symm.trans B.named)
  cases Option.some.inj (h1.symm.trans B.method)
  cases Option.some.inj (h2.symm.trans (Stand.of_body B).code)
  rw [← h6, table_eq]
end Bodies
end VXA
/-! ===== END ===== -/
/-! ===== BEGIN a static call of a method with an exception table ===== -/
section VXS
variable {p : Program} {l : Launch} {e : Env} {R : Room} {s : State} {m : MethodId} {args : Array Value} {below : List Frame} {meth : Method} {c : Code} {T : State} {H : Heap} {locs : List Loc} {cells slots : Nat}
abbrev vx_CSW (R : Room) (s : State) (args : Array Value) (own : String) (index : Nat) (y : MethodName) (bytes : ByteArray) (maxL : Nat) (ret : Option FieldType) (hh : List (Nat × Nat × Nat × Nat)) (ws : List Cond) (rm : Room) (mc ms n : Nat) : Prop :=
  (rm.cells = mc ∧ rm.slots = ms ∧ rm.frames + 1 ≤ R.frames ∧ 8 + (maxL + 11) + rm.locals ≤ R.locals ∧ (∀ w ∈ ws, ∀ (a' : Array Value) (U : State), s.WarmedH U.vm → w.before a' U = true) ∧ Cond.codeWith y bytes maxL ret hh ∈ ws) ∧
  (Cond.codeWith y bytes maxL ret hh).before args s = true ∧ (Cond.initialized y.cls).before args s = true ∧ (y.cls ≠ "java/lang/invoke/MethodHandle" ∧ y.cls ≠ "java/lang/invoke/VarHandle") ∧
  (∀ sig, parseMethodDescriptor y.desc = some sig → n = sig.parameters.length) ∧ (Cond.methodLink own index y).before args s = true ∧ (Cond.static y).before args s = true
theorem vx_cwSW {own : String} {index maxL mc ms : Nat} {y : MethodName} {bytes : ByteArray} {ret : Option FieldType} {hh : List (Nat × Nat × Nat × Nat)} {Ts ws ws' : List Cond} {rm : Room} (n : Nat) (ht : ∀ w ∈ Ts, w.before args s = true) (hT : GoodIn Ts (va_wsS own index y ws)) (hw : ws = Cond.codeWith y bytes maxL ret hh :: ws') (hrc : rm.cells = mc) (hrs : rm.slots = ms)
    (hd : y.cls ≠ "java/lang/invoke/MethodHandle" ∧ y.cls ≠ "java/lang/invoke/VarHandle" ∧ (parseMethodDescriptor y.desc).map (fun d => d.parameters.length) = some n) (hR : rm.frames + 1 ≤ R.frames ∧ 8 + (maxL + 11) + rm.locals ≤ R.locals) :
    vx_CSW R s args own index y bytes maxL ret hh ws rm mc ms n := by
  have ok : ∀ w ∈ va_wsS own index y ws, w.before args s = true := fun w h => ht w (hT w h).1
  have hG : GoodIn Ts ws := fun w h => hT w (by unfold va_wsS; exact List.mem_append_right _ h)
  have hc : Cond.codeWith y bytes maxL ret hh ∈ ws := by rw [hw]; exact List.mem_cons_self
  refine ⟨⟨hrc, hrs, hR.1, hR.2, pay_in ht hG, hc⟩, ht _ (hG _ hc).1, ok _ (by simp [va_wsS]), ⟨hd.1, hd.2.1⟩, fun sig h => ?_, ok _ (by simp [va_wsS]), ok _ (by simp [va_wsS])⟩
  have h2 := hd.2.2
  rw [h] at h2
  exact (Option.some.inj h2).symm
theorem vx_callSW (X : Stand p l e R s m args below meth c T locs cells slots) (hexec : p.tables.exec = Jvm.exec) {own : String} {index : Nat} {y : MethodName} {bytes : ByteArray} {maxL : Nat} {ret : Option FieldType} {hh : List (Nat × Nat × Nat × Nat)}
    (hown : s.vm.findClass own = some m.cls) (hlink : (Cond.methodLink own index y).before args s = true) (hstat : (Cond.static y).before args s = true) (hinit : (Cond.initialized y.cls).before args s = true)
    (hcode : (Cond.codeWith y bytes maxL ret hh).before args s = true) (hy : y.cls ≠ "java/lang/invoke/MethodHandle" ∧ y.cls ≠ "java/lang/invoke/VarHandle")
    {W9 : Nat} {Pre : Pt → Array Value → Prop} {Post : Pt → Array Value → Option Value → Pt → Prop} (hK : Back l R p e below s args y 3 W9 Pre Post)
    {g : JFrame} (hg : g.method = m) (hsize : g.locals.size = c.maxLocals) {argsL rest : List Value} (hlen : ∀ sig, parseMethodDescriptor y.desc = some sig → argsL.length = sig.parameters.length)
    (hstack : g.stack = argsL.reverse ++ rest) (hW : 2 * g.monitorRoom + (rest.map fun v => v.category).sum ≤ W9) (hdg : decode c.code g.pc = .ok (.invokestatic index, 3))
    (hpre : ∀ vm₁, s.WarmedH vm₁ → Pre ⟨T.setVm vm₁, locs, cells, slots⟩ argsL.toArray) :
    ∃ (v : Option Value) (vm₁ : Vm) (B : Pt), s.WarmedH vm₁ ∧ Stand p l e R s m args below meth c B.U B.locs B.cells B.slots ∧ Post ⟨T.setVm vm₁, locs, cells, slots⟩ argsL.toArray v B ∧
      ∀ target, Steps p.tables e below (B.U.setTop { g with pc := g.pc + 3, stack := v.toList ++ rest }) target → Steps p.tables e below (T.setTop g) target := by
  obtain ⟨mk, methM, cM, hnamed, hmethM, -, -, -, -, -, -, hsigM⟩ := Cond.codeWith_spec hcode
  have hstatic : methM.isStatic = true := Cond.static_spec hnamed hmethM hstat
  obtain ⟨kP, hkP, -⟩ := className_of_methodNamed hnamed
  have hinitP : kP.init = .initialized := Cond.initialized_spec (findClass_of_methodNamed hnamed) hkP hinit
  obtain ⟨vm₁, X₁, hstep₁⟩ := X.invokestatic hexec hown hlink hnamed hmethM hstatic hkP hinitP hy (g := g) hg (argsL := argsL) (rest := rest) (hlen _ hsigM) hstack hdg
  obtain ⟨v, B, X', hpost, hsteps⟩ := hK m meth c ⟨T.setVm vm₁, locs, cells, slots⟩ { g with stack := rest } (.invokestatic index) mk argsL.toArray X₁ hg hsize hdg hW (X₁.named hnamed) (hpre vm₁ X₁.warmed)
  exact ⟨v, vm₁, B, X₁.warmed, X', hpost, fun target h => hstep₁ _ fun acts => by rw [doInvoke_state]; exact hsteps.trans h⟩
theorem vx_runSW {y : MethodName} {bytes cc : ByteArray} {maxL nL mc ms n index : Nat} {ret : Option FieldType} {hh : List (Nat × Nat × Nat × Nat)} {ws : List Cond} {rm : Room} {Pc : Array Value → State → Prop} {Qc : Array Value → State → Outcome → State → Prop} {free : Addr → Prop} {Ts : List Cond} {own : String} {As rest : List Value} {g : JFrame}
    (S : CallFix p m c cc nL s args Ts own) (hM : Met l y ws rm Pc Qc mc ms free) (cw : vx_CSW R s args own index y bytes maxL ret hh ws rm mc ms n) (hp : PreS s H Pc As)
    (hg : g.method = m) (hn : As.length = n) (hsize : g.locals.size = nL) (hstack : g.stack = As.reverse ++ rest) (hW : 2 * g.monitorRoom + (rest.map fun v => v.category).sum ≤ 8) (hdg : decode cc g.pc = .ok (.invokestatic index, 3)) (hf : cells + mc ≤ R.cells ∧ slots + ms ≤ R.slots) :
    va_Run p l e R s m args below meth c H locs cells slots mc ms g rest (Qc As.toArray) (free) := by
  obtain ⟨⟨hrc, hrs, hfr, hlo, hws, hcw⟩, hcode, hini, hy, hlen, hl, hstt⟩ := cw
  have hK : Back l R p e below s args y 3 8 (PreOf R mc ms Pc) (PostOf Qc mc ms free) := va_backW (hh := hh) (bytes := bytes) (maxL := maxL) (ret := ret) hM hp.1 hrc hrs hfr hlo hws hcw (fun a' U hW => word_at hW (Or.inl (by first | rfl | simp [Cond.onTables, Cond.keeps, Cond.steady])) hini)
  obtain ⟨hx, hb, hml, ho, -⟩ := S
  intro T hT X
  obtain ⟨v, vm₁, ⟨U', l2, c2, s2⟩, hW₁, X', ⟨g', mk, t, L, e1, e2, hq, h1, hL, h2, h3⟩, st⟩ := vx_callSW X hx (hh := hh) (bytes := bytes) (maxL := maxL) (ret := ret) ho hl hstt hini hcode hy hK hg (hsize.trans hml.symm) (argsL := As) (rest := rest) (fun sig h => hn.trans (hlen sig h)) hstack hW (by rw [hb]; exact hdg)
    (fun vm₁ hW₁ => ⟨hf.1, hf.2, hp.2 (T.setVm vm₁) hT hW₁⟩)
  dsimp only [Pt.U, Pt.locs, Pt.cells, Pt.slots] at X' e1 e2 h1 h2 h3 st
  subst h1; subst h2; subst h3
  exact ⟨v, (T.setVm vm₁).calling g' mk As.toArray, t, U', L, hT, X', hL, e1, e2, hq, st⟩
/-- not caught here, past rows that name other classes: it goes on to the caller -/
theorem vx_outP {p : Program} {l : Launch} {e : Env} {R : Room} {s : State} {m : MethodId} {args : Array Value} {below : List Frame} {meth : Method} {c : Code} {H : Heap} {locs : List Loc} {cells slots : Nat} {free : Addr → Prop} {ls : Array Slot} {rest : List Value} {Qc : Array Value → State → Outcome → State → Prop} {XC : String → State → State → Prop}
    {pc : Nat} {own E : String} {ce : Cell} {q : Addr} {mc ms : Nat} (hown : s.vm.findClass own = some m.cls) (hlocks : meth.locks = false)
    (hpass : ∀ z ∈ c.exceptionTable.toList, covers z pc = false ∨ (z.catchType ≠ 0 ∧ ∃ nm : String, (Cond.classLink own z.catchType nm).before args s = true ∧ va_Nc E nm s)) (hcell : H[q]? = some ce) (hv : ce.vm = .none) (hcl : s.vm.findClass E = some ce.cls)
    (hx : ∀ t : State, t.heap = H → s.vm.Alike t.vm → XC E s t) (hf : ∀ z ∈ locs, free z.base) (hc : cells ≤ mc) (hs : slots ≤ ms) :
    vx_W p l e R s m args below meth c H locs cells slots (vx_MQ below Qc XC args s mc ms free) (F0 m pc ls rest) q := by
  intro T hT X
  have hpl : e.platform.magicAccessors = ({} : Platform).magicAccessors := by rw [X.admits.platform]
  obtain ⟨vm', hW', X', st⟩ := X.outThrough hlocks q (g := F0 m pc ls rest) rfl rfl rfl (cell := ce) (by rw [hT]; exact hcell) (by rw [hv]; rfl)
    (by obtain ⟨k9, h9, -⟩ := Vm.findClass_spec hcl; exact ⟨k9, h9⟩) (fun z hz => by
      rcases hpass z hz with h | ⟨hz0, nm, hl1, hn1⟩
      · exact Or.inl h
      · obtain ⟨c6, hc6, hcl6⟩ := Cond.classLink_spec hown hl1 e.platform hpl
        obtain ⟨a8, b8, h1, h2, h3⟩ := hn1
        cases Option.some.inj (h1.symm.trans hcl)
        cases Option.some.inj (h2.symm.trans hc6)
        exact Or.inr ⟨hz0, _, hcl6, h3⟩)
  obtain ⟨g₀, hfr⟩ := X'.frames_eq
  have hcell9 : ((T.setVm vm').setFrames (.throwing q :: below)).heap[q]? = some ce := by
    show T.heap[q]? = some ce
    rw [hT]; exact hcell
  have hend : Ended ((T.setVm vm').setFrames (.throwing q :: below)) below (.threw q) := State.frames_setFrames _ (State.cur_lt_of_frames hfr)
  refine ⟨(T.setVm vm').setFrames (.throwing q :: below), ?_, .threw q, X'.here.running, hend, Or.inr ⟨q, rfl, E, ce, locs, hx _ hT (X'.ends _).1.alike, hcell9, hv, hcl, (X'.ends _).1, (X'.ends _).2.mono hc hs, hf⟩⟩
  rw [X.pushThrowing_eq]
  exact st
/-- a thing of a world lies in the heap -/
theorem vx_lt {D : va_G} {cl : List vw_C} {ws : va_W} {H1 : Heap} (h : va_P D cl ws H1) {k : Nat} {q : Nat × va_E} (hk : ws[k]? = some q) : q.1 < H1.size := (h k q hk).lt
end VXS
/-! ===== END ===== -/
/-! ===== BEGIN methods with a table of their own: called by a name, returning or throwing ===== -/
section VXH
/-! vx_backW, vx_callVX, vx_callSX, vx_callVW, vx_runVW, vx_runVX, vx_runSX, vx_ofWH follow the same proofs as their sisters above (Free/Laws.lean, Shelf42/LK1.lean); vx_outP calls Shelf42/NT130.lean (outThrough). -/
section
variable {l : Launch} {R : Room} {p : Program} {e : Env} {below : List Frame} {s : State} {sargs : Array Value} {y : MethodName} {len W9 : Nat}
theorem vx_backW {ws : List Cond} {rm : Room} {Pc : Array Value → State → Prop} {Qc : Array Value → State → Outcome → State → Prop} {XC : String → State → State → Prop} {mc ms : Nat} {free : Addr → Prop} {bytes : ByteArray} {maxL : Nat} {ret : Option FieldType} {hh : List (Nat × Nat × Nat × Nat)}
    (hM : vx_Met l y ws rm Pc Qc XC mc ms free) (hblind : FrameBlind Pc) (hrc : rm.cells = mc) (hrs : rm.slots = ms)
    (hframes : rm.frames + 1 ≤ R.frames) (hlocals : W9 + (maxL + 11) + rm.locals ≤ R.locals)
    (hws : ∀ w ∈ ws, ∀ a' U, s.WarmedH U.vm → w.before a' U = true) (hcode : Cond.codeWith y bytes maxL ret hh ∈ ws) (hinit : ∀ a' U, s.WarmedH U.vm → (Cond.initialized y.cls).before a' U = true) :
    vx_Back l R p e below s sargs y len W9 (PreOf R mc ms Pc) (PostOf Qc mc ms free) (vx_Post XC mc ms free) := by
  intro m meth c A g ig mk a X hg hsize hdg hW hn hp
  have h1 : (headSpec ws rm).pre.before a A.U = true := atoms_intro fun w hw => hws w hw _ _ X.warmed
  have h2 : (Cond.codeWith y bytes maxL ret hh).before a A.U = true := hws _ hcode _ _ X.warmed
  have h3 : (Cond.initialized y.cls).before a A.U = true := hinit _ _ X.warmed
  have h4 : A.cells + (headSpec ws rm).room.cells ≤ R.cells := by rw [show (headSpec ws rm).room.cells = mc from hrc]; exact hp.1
  have h5 : A.slots + (headSpec ws rm).room.slots ≤ R.slots := by rw [show (headSpec ws rm).room.slots = ms from hrs]; exact hp.2.1
  have hPc : Pc a (A.U.calling g mk a) := hblind _ _ _ _ hp.2.2
  obtain ⟨U, Ls, c0, s0⟩ := A
  dsimp only [Pt.U, Pt.locs, Pt.cells, Pt.slots] at h1 h2 h3 h4 h5 X hn hPc ⊢
  obtain ⟨m9, methY, cY, hn9, hmY, hcY, -, hlY, -⟩ := Cond.codeWith_spec h2
  cases Option.some.inj (hn9.symm.trans hn)
  obtain ⟨kY, hkY, -⟩ := className_of_methodNamed hn
  have hinitY : kY.init = .initialized := Cond.initialized_spec (findClass_of_methodNamed hn) hkY h3
  have h : At U g.method c below := by rw [hg]; exact X.here
  have hlocals9 : W9 + (maxL + 11) + (headSpec ws rm).room.locals ≤ R.locals := hlocals
  have happ : (headSpec ws rm).appliesLoose y e.platform (U.calling g mk a) = true :=
    Spec.appliesLoose_calling (g := g) h hdg hn hkY hinitY
      (X.room_calling (g := g) (R' := (headSpec ws rm).room) hsize hmY hcY hframes (by rw [hlY]; omega) h4 h5) h1
  obtain ⟨mid, hmid⟩ := h.above
  have hfr : (U.setTop g).frames = (.java g :: mid) ++ below := by rw [State.frames_setTop' g h.top, hmid]; rfl
  obtain ⟨o, s₂, hsteps, -, hend, hq⟩ := Steps.callFree hM p X.admits X.cas X.clock (acts := []) hfr happ hPc trivial
  have hq' : vx_Q Qc XC mc ms free a (U.calling g mk a) o s₂ := hq
  rw [State.frames_setTop' g h.top] at hend
  obtain ⟨g₀, hg0⟩ := Option.isSome_iff_exists.mp h.top
  obtain ⟨r, hr⟩ := State.topJava?_eq_some.mp hg0
  have hr' : (({ U with heap := s₂.heap, slotsUsed := s₂.slotsUsed } : State).setVm s₂.vm).frames = .java g₀ :: r := hr
  rcases hq' with ⟨hqc, L, hfe, hL⟩ | ⟨q, rfl, E, ce, L, hx, hce, hcv, hcl, hW₂, hsm, hL⟩
  · obtain ⟨⟨v, rfl⟩, hW₂, e2, q2, q3, q4, q5, q6⟩ := id hfe
    have e3 : s₂ = ({ (U.calling g mk a).setFrames s₂.frames with heap := s₂.heap, slotsUsed := s₂.slotsUsed } : State).setVm s₂.vm := by
      have : s₂ = ({ s₂ with vm := (U.calling g mk a).vm } : State).setVm s₂.vm := rfl
      rw [e2] at this
      exact this
    obtain ⟨c₂, i₂, len₂, hc₂, hd₂, hf₂⟩ := hend
    have hW' : U.WarmedH s₂.vm := hW₂
    have hcc : c₂ = c := by
      have h1 : s₂.code? g.method = U.code? g.method := by
        rw [State.code?_eq, State.code?_eq, hW'.alike.method?]
      exact Option.some.inj (hc₂.symm.trans (h1.trans h.code))
    subst hcc
    have hlen : len₂ = len := by rw [hdg] at hd₂; cases hd₂; rfl
    subst hlen
    have hs₂ : s₂ = (({ U with heap := s₂.heap, slotsUsed := s₂.slotsUsed } : State).setVm s₂.vm).setTop { g with pc := g.pc + len₂, stack := v.toList ++ g.stack } := by
      refine e3.trans ?_
      rw [hf₂, State.calling_eq h.top, State.setFrames_setFrames, State.setTop_of_frames _ hr', hr]
      rfl
    have hsame : U.sameButNew ({ U with heap := s₂.heap, slotsUsed := s₂.slotsUsed } : State) L mc ms := by
      refine ⟨?_, q2, q3, q4, q5, q6⟩
      obtain ⟨t, ht, -⟩ := State.frames_cons hr
      show ({ U with heap := s₂.heap, slotsUsed := s₂.slotsUsed } : State) = { U.setFrames U.frames with heap := s₂.heap, slotsUsed := s₂.slotsUsed }
      rw [State.setFrames_self ht]
    subst hg
    refine Or.inl ⟨v, ⟨(({ U with heap := s₂.heap, slotsUsed := s₂.slotsUsed } : State).setVm s₂.vm), Ls ++ L, c0 + mc, s0 + ms⟩,
      ⟨X.admits, X.cas, X.clock, X.frames, X.room, X.hears, X.method, X.code, (X.here.setHeapUsed s₂.heap s₂.slotsUsed).setVm hW'.alike, X.tail, State.WarmedH.trans X.warmed hW', X.limits, X.bytes, X.same.trans (hsame.setVm s.vm)⟩,
      ⟨g, mk, s₂, L, rfl, rfl, hqc, rfl, hL, rfl, rfl⟩, ?_⟩
    show Steps p.tables e below _ ((({ U with heap := s₂.heap, slotsUsed := s₂.slotsUsed } : State).setVm s₂.vm).setTop { g with pc := g.pc + len₂, stack := v.toList ++ g.stack })
    rw [← hs₂]
    exact hsteps
  · obtain ⟨e2, q2, q3, q4, q5, q6⟩ := id hsm
    have e3 : s₂ = ({ (U.calling g mk a).setFrames s₂.frames with heap := s₂.heap, slotsUsed := s₂.slotsUsed } : State).setVm s₂.vm := by
      have : s₂ = ({ s₂ with vm := (U.calling g mk a).vm } : State).setVm s₂.vm := rfl
      rw [e2] at this
      exact this
    have hf₂ : s₂.frames = .throwing q :: .java g :: U.frames.tail := hend
    have hW' : U.WarmedH s₂.vm := hW₂
    have hs₂ : s₂ = ((({ U with heap := s₂.heap, slotsUsed := s₂.slotsUsed } : State).setVm s₂.vm).setTop g).pushFrame (.throwing q) := by
      refine e3.trans ?_
      rw [hf₂, State.calling_eq h.top, State.setFrames_setFrames, State.pushFrame, State.frames_setTop _ hr', State.setTop_of_frames _ hr', State.setFrames_setFrames, hr]
      rfl
    have hsame : U.sameButNew ({ U with heap := s₂.heap, slotsUsed := s₂.slotsUsed } : State) L mc ms := by
      refine ⟨?_, q2, q3, q4, q5, q6⟩
      obtain ⟨t, ht, -⟩ := State.frames_cons hr
      show ({ U with heap := s₂.heap, slotsUsed := s₂.slotsUsed } : State) = { U.setFrames U.frames with heap := s₂.heap, slotsUsed := s₂.slotsUsed }
      rw [State.setFrames_self ht]
    subst hg
    refine Or.inr ⟨q, ⟨(({ U with heap := s₂.heap, slotsUsed := s₂.slotsUsed } : State).setVm s₂.vm), Ls ++ L, c0 + mc, s0 + ms⟩,
      ⟨X.admits, X.cas, X.clock, X.frames, X.room, X.hears, X.method, X.code, (X.here.setHeapUsed s₂.heap s₂.slotsUsed).setVm hW'.alike, X.tail, State.WarmedH.trans X.warmed hW', X.limits, X.bytes, X.same.trans (hsame.setVm s.vm)⟩,
      ⟨g, mk, s₂, L, E, ce, rfl, rfl, hx, hce, hcv, hcl, rfl, hL, rfl, rfl⟩, ?_⟩
    show Steps p.tables e below _ (((({ U with heap := s₂.heap, slotsUsed := s₂.slotsUsed } : State).setVm s₂.vm).setTop g).pushFrame (.throwing q))
    rw [← hs₂]
    exact hsteps
end
variable {p : Program} {l : Launch} {e : Env} {R : Room} {s : State} {m : MethodId} {args : Array Value} {below : List Frame} {meth : Method} {c : Code} {T : State} {H : Heap} {locs : List Loc} {cells slots : Nat}
theorem vx_callVX (X : Stand p l e R s m args below meth c T locs cells slots) (hexec : p.tables.exec = Jvm.exec) {own C : String} {index : Nat} {y : MethodName} {bytes : ByteArray} {maxL : Nat} {ret : Option FieldType} {hh : List (Nat × Nat × Nat × Nat)}
    (hown : s.vm.findClass own = some m.cls) (hlink : (Cond.methodLink own index y).before args s = true) (hinst : (Cond.instanceMethod y).before args s = true) (hsel : (Cond.selects C y y).before args s = true)
    (hcode : (Cond.codeWith y bytes maxL ret hh).before args s = true) (hy : y.cls ≠ "java/lang/invoke/MethodHandle" ∧ y.cls ≠ "java/lang/invoke/VarHandle")
    {W9 : Nat} {Pre : Pt → Array Value → Prop} {Post : Pt → Array Value → Option Value → Pt → Prop} {PostX : Pt → Array Value → Addr → Pt → Prop} (hK : vx_Back l R p e below s args y 3 W9 Pre Post PostX)
    {b : Addr} {cellB : Cell} (hcell : T.heap[b]? = some cellB) (hobj : cellB.vm.isStatics = false) (hcls : s.vm.findClass C = some cellB.cls)
    {g : JFrame} (hg : g.method = m) (hsize : g.locals.size = c.maxLocals) {argsL rest : List Value} (hlen : ∀ sig, parseMethodDescriptor y.desc = some sig → argsL.length = sig.parameters.length)
    (hstack : g.stack = argsL.reverse ++ .ref b :: rest) (hW : 2 * g.monitorRoom + (rest.map fun v => v.category).sum ≤ W9) (hdg : decode c.code g.pc = .ok (.invokevirtual index, 3))
    (hpre : ∀ vm₁, s.WarmedH vm₁ → Pre ⟨T.setVm vm₁, locs, cells, slots⟩ (Value.ref b :: argsL).toArray) :
    (∃ (v : Option Value) (vm₁ : Vm) (B : Pt), s.WarmedH vm₁ ∧ Stand p l e R s m args below meth c B.U B.locs B.cells B.slots ∧ Post ⟨T.setVm vm₁, locs, cells, slots⟩ (Value.ref b :: argsL).toArray v B ∧
      ∀ target, Steps p.tables e below (B.U.setTop { g with pc := g.pc + 3, stack := v.toList ++ rest }) target → Steps p.tables e below (T.setTop g) target) ∨
    (∃ (q : Addr) (vm₁ : Vm) (B : Pt), s.WarmedH vm₁ ∧ Stand p l e R s m args below meth c B.U B.locs B.cells B.slots ∧ PostX ⟨T.setVm vm₁, locs, cells, slots⟩ (Value.ref b :: argsL).toArray q B ∧
      Steps p.tables e below (T.setTop g) ((B.U.setTop { g with stack := rest }).pushFrame (.throwing q))) := by
  obtain ⟨mk, methM, hnamed, hmethM, hstM, habM⟩ := Cond.instanceMethod_spec hinst
  obtain ⟨m8, methM', cM, hn8, hmethM', -, -, -, -, -, -, hsigM⟩ := Cond.codeWith_spec hcode
  cases Option.some.inj (hn8.symm.trans hnamed)
  cases hmethM.symm.trans hmethM'
  obtain ⟨c2, r2, m2, q1, q2, q3, q4, kP, hkP, hkPi⟩ := Cond.selects_spec hsel
  cases hcls.symm.trans q1
  cases (State.methodFound?_of_named hnamed hy).symm.trans q2
  cases hnamed.symm.trans q3
  have hselP : selectMethod e.platform s.vm cellB.cls mk = .method mk := by rw [Launch.admits_selectMethod X.admits]; exact q4
  obtain ⟨vm₁, X₁, hstep₁⟩ := X.invokevirtual hexec hown hlink hnamed hmethM hstM hkP hkPi hy (a := b) (cell := cellB) hcell
    (fun z h => by rw [h] at hobj; cases hobj) hselP hmethM habM hkP hkPi (g := g) hg (argsL := argsL) (rest := rest) (hlen _ hsigM) hstack hdg
  rcases hK m meth c ⟨T.setVm vm₁, locs, cells, slots⟩ { g with stack := rest } (.invokevirtual index) mk (Value.ref b :: argsL).toArray X₁ hg hsize hdg hW (X₁.named hnamed) (hpre vm₁ X₁.warmed) with ⟨v, B, X', hpost, hsteps⟩ | ⟨q, B, X', hpost, hsteps⟩
  · exact Or.inl ⟨v, vm₁, B, X₁.warmed, X', hpost, fun target h => hstep₁ _ fun acts => by rw [doInvoke_state]; exact hsteps.trans h⟩
  · exact Or.inr ⟨q, vm₁, B, X₁.warmed, X', hpost, hstep₁ _ fun acts => by rw [doInvoke_state]; exact hsteps⟩
theorem vx_callSX (X : Stand p l e R s m args below meth c T locs cells slots) (hexec : p.tables.exec = Jvm.exec) {own : String} {index : Nat} {y : MethodName} {bytes : ByteArray} {maxL : Nat} {ret : Option FieldType} {hh : List (Nat × Nat × Nat × Nat)}
    (hown : s.vm.findClass own = some m.cls) (hlink : (Cond.methodLink own index y).before args s = true) (hstat : (Cond.static y).before args s = true) (hinit : (Cond.initialized y.cls).before args s = true)
    (hcode : (Cond.codeWith y bytes maxL ret hh).before args s = true) (hy : y.cls ≠ "java/lang/invoke/MethodHandle" ∧ y.cls ≠ "java/lang/invoke/VarHandle")
    {W9 : Nat} {Pre : Pt → Array Value → Prop} {Post : Pt → Array Value → Option Value → Pt → Prop} {PostX : Pt → Array Value → Addr → Pt → Prop} (hK : vx_Back l R p e below s args y 3 W9 Pre Post PostX)
    {g : JFrame} (hg : g.method = m) (hsize : g.locals.size = c.maxLocals) {argsL rest : List Value} (hlen : ∀ sig, parseMethodDescriptor y.desc = some sig → argsL.length = sig.parameters.length)
    (hstack : g.stack = argsL.reverse ++ rest) (hW : 2 * g.monitorRoom + (rest.map fun v => v.category).sum ≤ W9) (hdg : decode c.code g.pc = .ok (.invokestatic index, 3))
    (hpre : ∀ vm₁, s.WarmedH vm₁ → Pre ⟨T.setVm vm₁, locs, cells, slots⟩ argsL.toArray) :
    (∃ (v : Option Value) (vm₁ : Vm) (B : Pt), s.WarmedH vm₁ ∧ Stand p l e R s m args below meth c B.U B.locs B.cells B.slots ∧ Post ⟨T.setVm vm₁, locs, cells, slots⟩ argsL.toArray v B ∧
      ∀ target, Steps p.tables e below (B.U.setTop { g with pc := g.pc + 3, stack := v.toList ++ rest }) target → Steps p.tables e below (T.setTop g) target) ∨
    (∃ (q : Addr) (vm₁ : Vm) (B : Pt), s.WarmedH vm₁ ∧ Stand p l e R s m args below meth c B.U B.locs B.cells B.slots ∧ PostX ⟨T.setVm vm₁, locs, cells, slots⟩ argsL.toArray q B ∧
      Steps p.tables e below (T.setTop g) ((B.U.setTop { g with stack := rest }).pushFrame (.throwing q))) := by
  obtain ⟨mk, methM, cM, hnamed, hmethM, -, -, -, -, -, -, hsigM⟩ := Cond.codeWith_spec hcode
  have hstatic : methM.isStatic = true := Cond.static_spec hnamed hmethM hstat
  obtain ⟨kP, hkP, -⟩ := className_of_methodNamed hnamed
  have hinitP : kP.init = .initialized := Cond.initialized_spec (findClass_of_methodNamed hnamed) hkP hinit
  obtain ⟨vm₁, X₁, hstep₁⟩ := X.invokestatic hexec hown hlink hnamed hmethM hstatic hkP hinitP hy (g := g) hg (argsL := argsL) (rest := rest) (hlen _ hsigM) hstack hdg
  rcases hK m meth c ⟨T.setVm vm₁, locs, cells, slots⟩ { g with stack := rest } (.invokestatic index) mk argsL.toArray X₁ hg hsize hdg hW (X₁.named hnamed) (hpre vm₁ X₁.warmed) with ⟨v, B, X', hpost, hsteps⟩ | ⟨q, B, X', hpost, hsteps⟩
  · exact Or.inl ⟨v, vm₁, B, X₁.warmed, X', hpost, fun target h => hstep₁ _ fun acts => by rw [doInvoke_state]; exact hsteps.trans h⟩
  · exact Or.inr ⟨q, vm₁, B, X₁.warmed, X', hpost, hstep₁ _ fun acts => by rw [doInvoke_state]; exact hsteps⟩
theorem vx_callVW (X : Stand p l e R s m args below meth c T locs cells slots) (hexec : p.tables.exec = Jvm.exec) {own C : String} {index : Nat} {y : MethodName} {bytes : ByteArray} {maxL : Nat} {ret : Option FieldType} {hh : List (Nat × Nat × Nat × Nat)}
    (hown : s.vm.findClass own = some m.cls) (hlink : (Cond.methodLink own index y).before args s = true) (hinst : (Cond.instanceMethod y).before args s = true) (hsel : (Cond.selects C y y).before args s = true)
    (hcode : (Cond.codeWith y bytes maxL ret hh).before args s = true) (hy : y.cls ≠ "java/lang/invoke/MethodHandle" ∧ y.cls ≠ "java/lang/invoke/VarHandle")
    {W9 : Nat} {Pre : Pt → Array Value → Prop} {Post : Pt → Array Value → Option Value → Pt → Prop} (hK : Back l R p e below s args y 3 W9 Pre Post)
    {b : Addr} {cellB : Cell} (hcell : T.heap[b]? = some cellB) (hobj : cellB.vm.isStatics = false) (hcls : s.vm.findClass C = some cellB.cls)
    {g : JFrame} (hg : g.method = m) (hsize : g.locals.size = c.maxLocals) {argsL rest : List Value} (hlen : ∀ sig, parseMethodDescriptor y.desc = some sig → argsL.length = sig.parameters.length)
    (hstack : g.stack = argsL.reverse ++ .ref b :: rest) (hW : 2 * g.monitorRoom + (rest.map fun v => v.category).sum ≤ W9) (hdg : decode c.code g.pc = .ok (.invokevirtual index, 3))
    (hpre : ∀ vm₁, s.WarmedH vm₁ → Pre ⟨T.setVm vm₁, locs, cells, slots⟩ (Value.ref b :: argsL).toArray) :
    ∃ (v : Option Value) (vm₁ : Vm) (B : Pt), s.WarmedH vm₁ ∧ Stand p l e R s m args below meth c B.U B.locs B.cells B.slots ∧ Post ⟨T.setVm vm₁, locs, cells, slots⟩ (Value.ref b :: argsL).toArray v B ∧
      ∀ target, Steps p.tables e below (B.U.setTop { g with pc := g.pc + 3, stack := v.toList ++ rest }) target → Steps p.tables e below (T.setTop g) target := by
  obtain ⟨mk, methM, hnamed, hmethM, hstM, habM⟩ := Cond.instanceMethod_spec hinst
  obtain ⟨m8, methM', cM, hn8, hmethM', -, -, -, -, -, -, hsigM⟩ := Cond.codeWith_spec hcode
  cases Option.some.inj (hn8.symm.trans hnamed)
  cases hmethM.symm.trans hmethM'
  obtain ⟨c2, r2, m2, q1, q2, q3, q4, kP, hkP, hkPi⟩ := Cond.selects_spec hsel
  cases hcls.symm.trans q1
  cases (State.methodFound?_of_named hnamed hy).symm.trans q2
  cases hnamed.symm.trans q3
  have hselP : selectMethod e.platform s.vm cellB.cls mk = .method mk := by rw [Launch.admits_selectMethod X.admits]; exact q4
  obtain ⟨vm₁, X₁, hstep₁⟩ := X.invokevirtual hexec hown hlink hnamed hmethM hstM hkP hkPi hy (a := b) (cell := cellB) hcell
    (fun z h => by rw [h] at hobj; cases hobj) hselP hmethM habM hkP hkPi (g := g) hg (argsL := argsL) (rest := rest) (hlen _ hsigM) hstack hdg
  obtain ⟨v, B, X', hpost, hsteps⟩ := hK m meth c ⟨T.setVm vm₁, locs, cells, slots⟩ { g with stack := rest } (.invokevirtual index) mk (Value.ref b :: argsL).toArray X₁ hg hsize hdg hW (X₁.named hnamed) (hpre vm₁ X₁.warmed)
  exact ⟨v, vm₁, B, X₁.warmed, X', hpost, fun target h => hstep₁ _ fun acts => by rw [doInvoke_state]; exact hsteps.trans h⟩
abbrev vx_CVW (R : Room) (s : State) (args : Array Value) (own C : String) (index : Nat) (y : MethodName) (bytes : ByteArray) (maxL : Nat) (ret : Option FieldType) (hh : List (Nat × Nat × Nat × Nat)) (ws : List Cond) (rm : Room) (mc ms n : Nat) : Prop :=
  (rm.cells = mc ∧ rm.slots = ms ∧ rm.frames + 1 ≤ R.frames ∧ 8 + (maxL + 11) + rm.locals ≤ R.locals ∧ (∀ w ∈ ws, ∀ (a' : Array Value) (U : State), s.WarmedH U.vm → w.before a' U = true) ∧ Cond.codeWith y bytes maxL ret hh ∈ ws) ∧
  (Cond.codeWith y bytes maxL ret hh).before args s = true ∧ (Cond.initialized y.cls).before args s = true ∧ (y.cls ≠ "java/lang/invoke/MethodHandle" ∧ y.cls ≠ "java/lang/invoke/VarHandle") ∧
  (∀ sig, parseMethodDescriptor y.desc = some sig → n = sig.parameters.length) ∧ (Cond.methodLink own index y).before args s = true ∧ (Cond.instanceMethod y).before args s = true ∧ (Cond.selects C y y).before args s = true
theorem vx_cwVW {own C : String} {index maxL mc ms : Nat} {y : MethodName} {bytes : ByteArray} {ret : Option FieldType} {hh : List (Nat × Nat × Nat × Nat)} {Ts ws ws' : List Cond} {rm : Room} (n : Nat) (ht : ∀ w ∈ Ts, w.before args s = true) (hT : GoodIn Ts (wsV own index C y ws)) (hw : ws = Cond.codeWith y bytes maxL ret hh :: ws') (hrc : rm.cells = mc) (hrs : rm.slots = ms)
    (hd : y.cls = C ∧ y.cls ≠ "java/lang/invoke/MethodHandle" ∧ y.cls ≠ "java/lang/invoke/VarHandle" ∧ (parseMethodDescriptor y.desc).map (fun d => d.parameters.length) = some n) (hR : rm.frames + 1 ≤ R.frames ∧ 8 + (maxL + 11) + rm.locals ≤ R.locals) :
    vx_CVW R s args own C index y bytes maxL ret hh ws rm mc ms n := by
  obtain ⟨hC, hd⟩ := hd
  subst hC
  have ok : ∀ w ∈ wsV own index y.cls y ws, w.before args s = true := fun w h => ht w (hT w h).1
  have hG : GoodIn Ts ws := fun w h => hT w (by unfold wsV; exact List.mem_append_right _ h)
  have hc : Cond.codeWith y bytes maxL ret hh ∈ ws := by rw [hw]; exact List.mem_cons_self
  refine ⟨⟨hrc, hrs, hR.1, hR.2, pay_in ht hG, hc⟩, ht _ (hG _ hc).1, ok _ (by simp [wsV]), ⟨hd.1, hd.2.1⟩, fun sig h => ?_, ok _ (by simp [wsV]), ok _ (by simp [wsV]), ok _ (by simp [wsV])⟩
  have h2 := hd.2.2
  rw [h] at h2
  exact (Option.some.inj h2).symm
theorem vx_runVW {y : MethodName} {bytes cc : ByteArray} {maxL nL mc ms n index : Nat} {ret : Option FieldType} {hh : List (Nat × Nat × Nat × Nat)} {ws : List Cond} {rm : Room} {Pc : Array Value → State → Prop} {Qc : Array Value → State → Outcome → State → Prop} {free : Addr → Prop} {Ts : List Cond} {own C : String} {b : Addr} {As rest : List Value} {g : JFrame}
    (S : CallFix p m c cc nL s args Ts own) (hM : Met l y ws rm Pc Qc mc ms free) (cw : vx_CVW R s args own C index y bytes maxL ret hh ws rm mc ms n) (hp : PreV s H C b Pc As)
    (hg : g.method = m) (hn : As.length = n) (hsize : g.locals.size = nL) (hstack : g.stack = As.reverse ++ .ref b :: rest) (hW : 2 * g.monitorRoom + (rest.map fun v => v.category).sum ≤ 8) (hdg : decode cc g.pc = .ok (.invokevirtual index, 3)) (hf : cells + mc ≤ R.cells ∧ slots + ms ≤ R.slots) :
    va_Run p l e R s m args below meth c H locs cells slots mc ms g rest (Qc (Value.ref b :: As).toArray) free := by
  obtain ⟨⟨hrc, hrs, hfr, hlo, hws, hcw⟩, hcode, hini, hy, hlen, hl, hin, hse⟩ := cw
  have hK : Back l R p e below s args y 3 8 (PreOf R mc ms Pc) (PostOf Qc mc ms free) := va_backW (hh := hh) (bytes := bytes) (maxL := maxL) (ret := ret) hM hp.1 hrc hrs hfr hlo hws hcw (fun a' U hW => word_at hW (Or.inl (by first | rfl | simp [Cond.onTables, Cond.keeps, Cond.steady])) hini)
  obtain ⟨hx, hb, hml, ho, -⟩ := S
  obtain ⟨-, ⟨cellB, hcB, hoB, hclB⟩, hPc⟩ := hp
  intro T hT X
  obtain ⟨v, vm₁, ⟨U', l2, c2, s2⟩, hW₁, X', ⟨g', mk, t, L, e1, e2, hq, h1, hL, h2, h3⟩, st⟩ := vx_callVW X hx (C := C) (hh := hh) (bytes := bytes) (maxL := maxL) (ret := ret) ho hl hin hse hcode hy hK (by rw [hT]; exact hcB) hoB hclB hg (hsize.trans hml.symm) (argsL := As) (rest := rest) (fun sig h => hn.trans (hlen sig h)) hstack hW (by rw [hb]; exact hdg)
    (fun vm₁ hW₁ => ⟨hf.1, hf.2, hPc (T.setVm vm₁) hT hW₁⟩)
  dsimp only [Pt.U, Pt.locs, Pt.cells, Pt.slots] at X' e1 e2 h1 h2 h3 st
  subst h1; subst h2; subst h3
  exact ⟨v, (T.setVm vm₁).calling g' mk (Value.ref b :: As).toArray, t, U', L, hT, X', hL, e1, e2, hq, st⟩
section
variable {y : MethodName} {bytes cc : ByteArray} {maxL nL mc ms n index : Nat} {ret : Option FieldType} {ws : List Cond} {rm : Room} {Pc : Array Value → State → Prop} {Qc : Array Value → State → Outcome → State → Prop} {XC : String → State → State → Prop} {free : Addr → Prop} {Ts : List Cond} {own C : String} {b : Addr} {As rest : List Value} {g : JFrame}
theorem vx_runVX {hh : List (Nat × Nat × Nat × Nat)} (S : CallFix p m c cc nL s args Ts own) (hM : vx_Met l y ws rm Pc Qc XC mc ms free) (cw : vx_CVW R s args own C index y bytes maxL ret hh ws rm mc ms n) (hp : PreV s H C b Pc As)
    (hg : g.method = m) (hn : As.length = n) (hsize : g.locals.size = nL) (hstack : g.stack = As.reverse ++ .ref b :: rest) (hW : 2 * g.monitorRoom + (rest.map fun v => v.category).sum ≤ 8) (hdg : decode cc g.pc = .ok (.invokevirtual index, 3)) (hf : cells + mc ≤ R.cells ∧ slots + ms ≤ R.slots) :
    vx_Run p l e R s m args below meth c H locs cells slots mc ms g rest (Qc (Value.ref b :: As).toArray) XC free := by
  obtain ⟨⟨hrc, hrs, hfr, hlo, hws, hcw⟩, hcode, hini, hy, hlen, hl, hin, hse⟩ := cw
  have hK : vx_Back l R p e below s args y 3 8 (PreOf R mc ms Pc) (PostOf Qc mc ms free) (vx_Post XC mc ms free) := vx_backW (hh := hh) (bytes := bytes) (maxL := maxL) (ret := ret) hM hp.1 hrc hrs hfr hlo hws hcw (fun a' U hW => word_at hW (Or.inl (by first | rfl | simp [Cond.onTables, Cond.keeps, Cond.steady])) hini)
  obtain ⟨hx, hb, hml, ho, -⟩ := S
  obtain ⟨-, ⟨cellB, hcB, hoB, hclB⟩, hPc⟩ := hp
  intro T hT X
  rcases vx_callVX X hx (C := C) (hh := hh) (bytes := bytes) (maxL := maxL) (ret := ret) ho hl hin hse hcode hy hK (by rw [hT]; exact hcB) hoB hclB hg (hsize.trans hml.symm) (argsL := As) (rest := rest) (fun sig h => hn.trans (hlen sig h)) hstack hW (by rw [hb]; exact hdg)
    (fun vm₁ hW₁ => ⟨hf.1, hf.2, hPc (T.setVm vm₁) hT hW₁⟩) with ⟨v, vm₁, ⟨U', l2, c2, s2⟩, hW₁, X', ⟨g', mk, t, L, e1, e2, hq, h1, hL, h2, h3⟩, st⟩ | ⟨q, vm₁, ⟨U', l2, c2, s2⟩, hW₁, X', ⟨g', mk, t, L, E, ce, e1, e2, hq, hce, hcv, hcl, h1, hL, h2, h3⟩, st⟩
  · dsimp only [Pt.U, Pt.locs, Pt.cells, Pt.slots] at X' e1 e2 h1 h2 h3 st
    subst h1; subst h2; subst h3
    exact Or.inl ⟨v, (T.setVm vm₁).calling g' mk (Value.ref b :: As).toArray, t, U', L, hT, X', hL, e1, e2, hq, st⟩
  · dsimp only [Pt.U, Pt.locs, Pt.cells, Pt.slots] at X' e1 e2 h1 h2 h3 st hcl
    subst h1; subst h2; subst h3
    exact Or.inr ⟨q, (T.setVm vm₁).calling g' mk (Value.ref b :: As).toArray, t, U', L, E, ce, hT, X', hL, e1, e2, hq, hce, hcv, vx_cls hW₁ hcl, st⟩
theorem vx_runSX {hh : List (Nat × Nat × Nat × Nat)} (S : CallFix p m c cc nL s args Ts own) (hM : vx_Met l y ws rm Pc Qc XC mc ms free) (cw : vx_CSW R s args own index y bytes maxL ret hh ws rm mc ms n) (hp : PreS s H Pc As)
    (hg : g.method = m) (hn : As.length = n) (hsize : g.locals.size = nL) (hstack : g.stack = As.reverse ++ rest) (hW : 2 * g.monitorRoom + (rest.map fun v => v.category).sum ≤ 8) (hdg : decode cc g.pc = .ok (.invokestatic index, 3)) (hf : cells + mc ≤ R.cells ∧ slots + ms ≤ R.slots) :
    vx_Run p l e R s m args below meth c H locs cells slots mc ms g rest (Qc As.toArray) XC free := by
  obtain ⟨⟨hrc, hrs, hfr, hlo, hws, hcw⟩, hcode, hini, hy, hlen, hl, hstt⟩ := cw
  have hK : vx_Back l R p e below s args y 3 8 (PreOf R mc ms Pc) (PostOf Qc mc ms free) (vx_Post XC mc ms free) := vx_backW (hh := hh) (bytes := bytes) (maxL := maxL) (ret := ret) hM hp.1 hrc hrs hfr hlo hws hcw (fun a' U hW => word_at hW (Or.inl (by first | rfl | simp [Cond.onTables, Cond.keeps, Cond.steady])) hini)
  obtain ⟨hx, hb, hml, ho, -⟩ := S
  intro T hT X
  rcases vx_callSX X hx (hh := hh) (bytes := bytes) (maxL := maxL) (ret := ret) ho hl hstt hini hcode hy hK hg (hsize.trans hml.symm) (argsL := As) (rest := rest) (fun sig h => hn.trans (hlen sig h)) hstack hW (by rw [hb]; exact hdg)
    (fun vm₁ hW₁ => ⟨hf.1, hf.2, hp.2 (T.setVm vm₁) hT hW₁⟩) with ⟨v, vm₁, ⟨U', l2, c2, s2⟩, hW₁, X', ⟨g', mk, t, L, e1, e2, hq, h1, hL, h2, h3⟩, st⟩ | ⟨q, vm₁, ⟨U', l2, c2, s2⟩, hW₁, X', ⟨g', mk, t, L, E, ce, e1, e2, hq, hce, hcv, hcl, h1, hL, h2, h3⟩, st⟩
  · dsimp only [Pt.U, Pt.locs, Pt.cells, Pt.slots] at X' e1 e2 h1 h2 h3 st
    subst h1; subst h2; subst h3
    exact Or.inl ⟨v, (T.setVm vm₁).calling g' mk As.toArray, t, U', L, hT, X', hL, e1, e2, hq, st⟩
  · dsimp only [Pt.U, Pt.locs, Pt.cells, Pt.slots] at X' e1 e2 h1 h2 h3 st hcl
    subst h1; subst h2; subst h3
    exact Or.inr ⟨q, (T.setVm vm₁).calling g' mk As.toArray, t, U', L, E, ce, hT, X', hL, e1, e2, hq, hce, hcv, vx_cls hW₁ hcl, st⟩
end
end VXH
theorem vx_ofWH {l : Launch} {y : MethodName} {ws ws' : List Cond} {rm : Room} {Pc : Array Value → State → Prop} {Qc : Array Value → State → Outcome → State → Prop} {XC : String → State → State → Prop} {mc ms : Nat} {free : Addr → Prop} {cc : ByteArray} {maxL : Nat} {ret : Option FieldType} {hh : List (Nat × Nat × Nat × Nat)}
    (hy : plainName y.cls = true) (hw : ws = Cond.codeWith y cc maxL ret hh :: ws')
    (body : ∀ p e s m args below meth c s₁, BodyLoose p l y (headSpec ws rm) cc maxL ret e s m args below meth c s₁ → c.maxLocals = maxL → Pc args s →
      W p l e (headSpec ws rm).room s m args below meth c s.heap [] 0 0 (vx_MQ below Qc XC args s mc ms free) (entryFrame m args maxL)) : vx_Met l y ws rm Pc Qc XC mc ms free := by
  refine MetFree.of_bodyS (code := cc) (maxLocals := maxL) (ret := ret) hy ?_ ?_
  · intro args s m h hn
    obtain ⟨m9, meth, c, hn9, h1, h2, h3, h4, -, h5, h6, -⟩ := Cond.codeWith_spec (atoms_spec (ws := ws) h _ (by rw [hw]; exact List.mem_cons_self))
    cases hn.symm.trans hn9
    exact ⟨meth, c, h1, h2, h3, h4, h5, h6⟩
  · intro p e s m args below meth c s₁ B hml hP _
    have hh0 : s₁.heap = s.heap := by rw [B.state]; rfl
    obtain ⟨t, a1, o, b1, b2, b3⟩ := body p e s m args below meth c s₁ B hml hP s₁ hh0 (Stand.of_body B)
    exact ⟨t, o, a1, b1, b2, b3⟩
/-! ===== END ===== -/

def RX0 : String := "AbbeyLedgers$Books"
def TX0 : u_T := fun k => match k with
  | 0 => ("AbbeyLedgers$Books", "versions", "LAbbeyLedgers$Versions;", true)
  | 1 => ("AbbeyLedgers$Books", "ledgers", "[I", true)
  | 2 => ("AbbeyLedgers$Books", "year", "I", false)
  | 3 => ("AbbeyLedgers$Books", "writings", "I", false)
  | _ => ("AbbeyLedgers$Books", "graftings", "I", false)
def tyX0 : Nat → FieldType := fun k => match k with
  | 0 => .object "AbbeyLedgers$Versions"
  | 1 => .array .int
  | 2 => .int
  | 3 => .int
  | _ => .int
abbrev wsX00 : List Cond := u_ws RX0 TX0 5
theorem nmX0 : ∀ a, a < 5 → ∀ b, b < 5 → a ≠ b → (TX0 a).2.1 ≠ (TX0 b).2.1 := by decide +kernel
theorem tyX0_ok : ∀ k, k < 5 → parseFieldDescriptor (TX0 k).2.2.1 = some (tyX0 k) := by decide +kernel
abbrev cX0_init : ByteArray := prog_2_method_1_code
def yX0_init : MethodName := ⟨RX0, "<init>", "()V"⟩
abbrev cX0_copyFrom : ByteArray := prog_2_method_2_code
def yX0_copyFrom : MethodName := ⟨RX0, "copyFrom", "(LAbbeyLedgers$Books;)V"⟩
abbrev cX0_noteIn : ByteArray := prog_2_method_3_code
def yX0_noteIn : MethodName := ⟨RX0, "noteIn", "([II)V"⟩
abbrev cX0_returnTo : ByteArray := prog_2_method_4_code
def yX0_returnTo : MethodName := ⟨RX0, "returnTo", "([II)V"⟩
abbrev cX0_ledgerOf : ByteArray := prog_2_method_5_code
def yX0_ledgerOf : MethodName := ⟨RX0, "ledgerOf", "(I)I"⟩
abbrev cX0_giveLedger : ByteArray := prog_2_method_6_code
def yX0_giveLedger : MethodName := ⟨RX0, "giveLedger", "(II)V"⟩
abbrev cX0_housesWith : ByteArray := prog_2_method_7_code
def yX0_housesWith : MethodName := ⟨RX0, "housesWith", "(I)I"⟩
abbrev cX0_versionsOfHouses : ByteArray := prog_2_method_8_code
def yX0_versionsOfHouses : MethodName := ⟨RX0, "versionsOfHouses", "()I"⟩
def RX1 : String := "AbbeyLedgers$Clerk"
def TX1 : u_T := fun k => match k with
  | 0 => ("AbbeyLedgers$Clerk", "books", "LAbbeyLedgers$Books;", true)
  | 1 => ("AbbeyLedgers$Clerk", "refusal", "LAbbeyLedgers$Refusal;", true)
  | _ => ("AbbeyLedgers$Clerk", "versions", "LAbbeyLedgers$Versions;", true)
def tyX1 : Nat → FieldType := fun k => match k with
  | 0 => .object "AbbeyLedgers$Books"
  | 1 => .object "AbbeyLedgers$Refusal"
  | _ => .object "AbbeyLedgers$Versions"
abbrev wsX10 : List Cond := u_ws RX1 TX1 3
theorem nmX1 : ∀ a, a < 3 → ∀ b, b < 3 → a ≠ b → (TX1 a).2.1 ≠ (TX1 b).2.1 := by decide +kernel
theorem tyX1_ok : ∀ k, k < 3 → parseFieldDescriptor (TX1 k).2.2.1 = some (tyX1 k) := by decide +kernel
abbrev cX1_init : ByteArray := prog_3_method_1_code
def yX1_init : MethodName := ⟨RX1, "<init>", "()V"⟩
abbrev cX1_carryOut : ByteArray := prog_3_method_2_code
def yX1_carryOut : MethodName := ⟨RX1, "carryOut", "(LAbbeyLedgers$Draft;)I"⟩
abbrev cX1_enter : ByteArray := prog_3_method_3_code
def yX1_enter : MethodName := ⟨RX1, "enter", "(III)I"⟩
abbrev cX1_copyLines : ByteArray := prog_3_method_4_code
def yX1_copyLines : MethodName := ⟨RX1, "copyLines", "(IIII)I"⟩
abbrev cX1_takeOver : ByteArray := prog_3_method_5_code
def yX1_takeOver : MethodName := ⟨RX1, "takeOver", "(II)I"⟩
abbrev cX1_goBack : ByteArray := prog_3_method_6_code
def yX1_goBack : MethodName := ⟨RX1, "goBack", "(II)I"⟩
abbrev cX1_letGoBy : ByteArray := prog_3_method_7_code
def yX1_letGoBy : MethodName := ⟨RX1, "letGoBy", "(I)I"⟩
def RX2 : String := "AbbeyLedgers$Draft"
def TX2 : u_T := fun k => match k with
  | 0 => ("AbbeyLedgers$Draft", "signs", "[C", true)
  | 1 => ("AbbeyLedgers$Draft", "length", "I", false)
  | 2 => ("AbbeyLedgers$Draft", "position", "I", false)
  | 3 => ("AbbeyLedgers$Draft", "kind", "C", false)
  | _ => ("AbbeyLedgers$Draft", "numbers", "[I", true)
def tyX2 : Nat → FieldType := fun k => match k with
  | 0 => .array .char
  | 1 => .int
  | 2 => .int
  | 3 => .char
  | _ => .array .int
abbrev wsX20 : List Cond := u_ws RX2 TX2 5
theorem nmX2 : ∀ a, a < 5 → ∀ b, b < 5 → a ≠ b → (TX2 a).2.1 ≠ (TX2 b).2.1 := by decide +kernel
theorem tyX2_ok : ∀ k, k < 5 → parseFieldDescriptor (TX2 k).2.2.1 = some (tyX2 k) := by decide +kernel
abbrev cX2_init : ByteArray := prog_4_method_1_code
def yX2_init : MethodName := ⟨RX2, "<init>", "()V"⟩
abbrev cX2_size : ByteArray := prog_4_method_2_code
def yX2_size : MethodName := ⟨RX2, "size", "()I"⟩
abbrev cX2_isFull : ByteArray := prog_4_method_3_code
def yX2_isFull : MethodName := ⟨RX2, "isFull", "()Z"⟩
abbrev cX2_put : ByteArray := prog_4_method_4_code
def yX2_put : MethodName := ⟨RX2, "put", "(C)V"⟩
abbrev cX2_clear : ByteArray := prog_4_method_5_code
def yX2_clear : MethodName := ⟨RX2, "clear", "()V"⟩
abbrev cX2_rewind : ByteArray := prog_4_method_6_code
def yX2_rewind : MethodName := ⟨RX2, "rewind", "()V"⟩
abbrev cX2_kind : ByteArray := prog_4_method_7_code
def yX2_kind : MethodName := ⟨RX2, "kind", "()C"⟩
abbrev cX2_number : ByteArray := prog_4_method_8_code
def yX2_number : MethodName := ⟨RX2, "number", "(I)I"⟩
abbrev cX2_findFault : ByteArray := prog_4_method_9_code
def yX2_findFault : MethodName := ⟨RX2, "findFault", "()I"⟩
abbrev cX2_readCommand : ByteArray := prog_4_method_10_code
def yX2_readCommand : MethodName := ⟨RX2, "readCommand", "()Z"⟩
abbrev cX2_readSign : ByteArray := prog_4_method_11_code
def yX2_readSign : MethodName := ⟨RX2, "readSign", "(C)Z"⟩
abbrev cX2_readNumber : ByteArray := prog_4_method_12_code
def yX2_readNumber : MethodName := ⟨RX2, "readNumber", "(II)Z"⟩
abbrev cX2_signAhead : ByteArray := prog_4_method_13_code
def yX2_signAhead : MethodName := ⟨RX2, "signAhead", "()C"⟩
abbrev cX2_formOf : ByteArray := prog_4_method_14_code
def yX2_formOf : MethodName := ⟨RX2, "formOf", "(C)Ljava/lang/String;"⟩
def RX3 : String := "AbbeyLedgers$Past"
def TX3 : u_T := fun k => match k with
  | 0 => ("AbbeyLedgers$Past", "marks", "[I", true)
  | _ => ("AbbeyLedgers$Past", "kept", "I", false)
def tyX3 : Nat → FieldType := fun k => match k with
  | 0 => .array .int
  | _ => .int
abbrev wsX30 : List Cond := u_ws RX3 TX3 2
theorem nmX3 : ∀ a, a < 2 → ∀ b, b < 2 → a ≠ b → (TX3 a).2.1 ≠ (TX3 b).2.1 := by decide +kernel
theorem tyX3_ok : ∀ k, k < 2 → parseFieldDescriptor (TX3 k).2.2.1 = some (tyX3 k) := by decide +kernel
abbrev cX3_init : ByteArray := prog_5_method_1_code
def yX3_init : MethodName := ⟨RX3, "<init>", "()V"⟩
abbrev cX3_size : ByteArray := prog_5_method_2_code
def yX3_size : MethodName := ⟨RX3, "size", "()I"⟩
abbrev cX3_note : ByteArray := prog_5_method_3_code
def yX3_note : MethodName := ⟨RX3, "note", "(LAbbeyLedgers$Books;)V"⟩
abbrev cX3_takeBack : ByteArray := prog_5_method_4_code
def yX3_takeBack : MethodName := ⟨RX3, "takeBack", "(LAbbeyLedgers$Books;)V"⟩
abbrev cX3_keep : ByteArray := prog_5_method_5_code
def yX3_keep : MethodName := ⟨RX3, "keep", "()V"⟩
abbrev cX3_dropLatest : ByteArray := prog_5_method_6_code
def yX3_dropLatest : MethodName := ⟨RX3, "dropLatest", "()V"⟩
abbrev cX3_forget : ByteArray := prog_5_method_7_code
def yX3_forget : MethodName := ⟨RX3, "forget", "()V"⟩
def RX4 : String := "AbbeyLedgers$Refusal"
def TX4 : u_T := fun k => match k with
  | 0 => ("AbbeyLedgers$Refusal", "why", "I", false)
  | 1 => ("AbbeyLedgers$Refusal", "detail", "I", false)
  | _ => ("AbbeyLedgers$Refusal", "command", "I", false)
def tyX4 : Nat → FieldType := fun k => match k with
  | 0 => .int
  | 1 => .int
  | _ => .int
abbrev wsX40 : List Cond := u_ws RX4 TX4 3
theorem nmX4 : ∀ a, a < 3 → ∀ b, b < 3 → a ≠ b → (TX4 a).2.1 ≠ (TX4 b).2.1 := by decide +kernel
theorem tyX4_ok : ∀ k, k < 3 → parseFieldDescriptor (TX4 k).2.2.1 = some (tyX4 k) := by decide +kernel
abbrev cX4_init : ByteArray := prog_6_method_1_code
def yX4_init : MethodName := ⟨RX4, "<init>", "()V"⟩
abbrev cX4_refuse : ByteArray := prog_6_method_2_code
def yX4_refuse : MethodName := ⟨RX4, "refuse", "(II)I"⟩
def RX5 : String := "AbbeyLedgers$Script"
def TX5 : u_T := fun k => match k with
  | 0 => ("AbbeyLedgers$Script", "signs", "[C", true)
  | _ => ("AbbeyLedgers$Script", "length", "I", false)
def tyX5 : Nat → FieldType := fun k => match k with
  | 0 => .array .char
  | _ => .int
abbrev wsX50 : List Cond := u_ws RX5 TX5 2
theorem nmX5 : ∀ a, a < 2 → ∀ b, b < 2 → a ≠ b → (TX5 a).2.1 ≠ (TX5 b).2.1 := by decide +kernel
theorem tyX5_ok : ∀ k, k < 2 → parseFieldDescriptor (TX5 k).2.2.1 = some (tyX5 k) := by decide +kernel
abbrev cX5_init : ByteArray := prog_7_method_1_code
def yX5_init : MethodName := ⟨RX5, "<init>", "()V"⟩
abbrev cX5_size : ByteArray := prog_7_method_2_code
def yX5_size : MethodName := ⟨RX5, "size", "()I"⟩
abbrev cX5_signAt : ByteArray := prog_7_method_3_code
def yX5_signAt : MethodName := ⟨RX5, "signAt", "(I)C"⟩
abbrev cX5_clear : ByteArray := prog_7_method_4_code
def yX5_clear : MethodName := ⟨RX5, "clear", "()V"⟩
abbrev cX5_put : ByteArray := prog_7_method_5_code
def yX5_put : MethodName := ⟨RX5, "put", "(C)V"⟩
abbrev cX5_separate : ByteArray := prog_7_method_6_code
def yX5_separate : MethodName := ⟨RX5, "separate", "(C)V"⟩
abbrev cX5_putNumber : ByteArray := prog_7_method_7_code
def yX5_putNumber : MethodName := ⟨RX5, "putNumber", "(I)V"⟩
def RX6 : String := "AbbeyLedgers$Versions"
def TX6 : u_T := fun k => match k with
  | 0 => ("AbbeyLedgers$Versions", "count", "I", false)
  | 1 => ("AbbeyLedgers$Versions", "parents", "[I", true)
  | 2 => ("AbbeyLedgers$Versions", "years", "[I", true)
  | 3 => ("AbbeyLedgers$Versions", "makers", "[I", true)
  | _ => ("AbbeyLedgers$Versions", "totals", "[I", true)
def tyX6 : Nat → FieldType := fun k => match k with
  | 0 => .int
  | 1 => .array .int
  | 2 => .array .int
  | 3 => .array .int
  | _ => .array .int
abbrev wsX60 : List Cond := u_ws RX6 TX6 5
theorem nmX6 : ∀ a, a < 5 → ∀ b, b < 5 → a ≠ b → (TX6 a).2.1 ≠ (TX6 b).2.1 := by decide +kernel
theorem tyX6_ok : ∀ k, k < 5 → parseFieldDescriptor (TX6 k).2.2.1 = some (tyX6 k) := by decide +kernel
abbrev cX6_init : ByteArray := prog_8_method_1_code
def yX6_init : MethodName := ⟨RX6, "<init>", "()V"⟩
abbrev cX6_copyFrom : ByteArray := prog_8_method_2_code
def yX6_copyFrom : MethodName := ⟨RX6, "copyFrom", "(LAbbeyLedgers$Versions;)V"⟩
abbrev cX6_size : ByteArray := prog_8_method_3_code
def yX6_size : MethodName := ⟨RX6, "size", "()I"⟩
abbrev cX6_forgetFrom : ByteArray := prog_8_method_4_code
def yX6_forgetFrom : MethodName := ⟨RX6, "forgetFrom", "(I)V"⟩
abbrev cX6_has : ByteArray := prog_8_method_5_code
def yX6_has : MethodName := ⟨RX6, "has", "(I)Z"⟩
abbrev cX6_isFull : ByteArray := prog_8_method_6_code
def yX6_isFull : MethodName := ⟨RX6, "isFull", "()Z"⟩
abbrev cX6_parentOf : ByteArray := prog_8_method_7_code
def yX6_parentOf : MethodName := ⟨RX6, "parentOf", "(I)I"⟩
abbrev cX6_yearOf : ByteArray := prog_8_method_8_code
def yX6_yearOf : MethodName := ⟨RX6, "yearOf", "(I)I"⟩
abbrev cX6_makerOf : ByteArray := prog_8_method_9_code
def yX6_makerOf : MethodName := ⟨RX6, "makerOf", "(II)I"⟩
abbrev cX6_totalOf : ByteArray := prog_8_method_10_code
def yX6_totalOf : MethodName := ⟨RX6, "totalOf", "(II)I"⟩
abbrev cX6_amountOn : ByteArray := prog_8_method_11_code
def yX6_amountOn : MethodName := ⟨RX6, "amountOn", "(II)I"⟩
abbrev cX6_addWritten : ByteArray := prog_8_method_12_code
def yX6_addWritten : MethodName := ⟨RX6, "addWritten", "(IIII)I"⟩
abbrev cX6_addGrafted : ByteArray := prog_8_method_13_code
def yX6_addGrafted : MethodName := ⟨RX6, "addGrafted", "(IIIII)I"⟩
abbrev cX6_addChild : ByteArray := prog_8_method_14_code
def yX6_addChild : MethodName := ⟨RX6, "addChild", "(II)I"⟩
abbrev cX6_makePage : ByteArray := prog_8_method_15_code
def yX6_makePage : MethodName := ⟨RX6, "makePage", "(III)V"⟩
abbrev cX6_takePage : ByteArray := prog_8_method_16_code
def yX6_takePage : MethodName := ⟨RX6, "takePage", "(III)V"⟩
abbrev cX6_totalOfHalves : ByteArray := prog_8_method_17_code
def yX6_totalOfHalves : MethodName := ⟨RX6, "totalOfHalves", "(II)I"⟩
abbrev cX6_sumByPages : ByteArray := prog_8_method_18_code
def yX6_sumByPages : MethodName := ⟨RX6, "sumByPages", "(III)I"⟩
abbrev cX6_sumByLines : ByteArray := prog_8_method_19_code
def yX6_sumByLines : MethodName := ⟨RX6, "sumByLines", "(III)I"⟩
abbrev cX6_lineWithMost : ByteArray := prog_8_method_20_code
def yX6_lineWithMost : MethodName := ⟨RX6, "lineWithMost", "(III)I"⟩
abbrev cX6_lineReaching : ByteArray := prog_8_method_21_code
def yX6_lineReaching : MethodName := ⟨RX6, "lineReaching", "(II)I"⟩
abbrev cX6_earlier : ByteArray := prog_8_method_22_code
def yX6_earlier : MethodName := ⟨RX6, "earlier", "(II)I"⟩
abbrev cX6_ancestorsOf : ByteArray := prog_8_method_23_code
def yX6_ancestorsOf : MethodName := ⟨RX6, "ancestorsOf", "(I)I"⟩
abbrev cX6_childrenOf : ByteArray := prog_8_method_24_code
def yX6_childrenOf : MethodName := ⟨RX6, "childrenOf", "(I)I"⟩
abbrev cX6_withoutChildren : ByteArray := prog_8_method_25_code
def yX6_withoutChildren : MethodName := ⟨RX6, "withoutChildren", "()I"⟩
abbrev cX6_pagesMadeBy : ByteArray := prog_8_method_26_code
def yX6_pagesMadeBy : MethodName := ⟨RX6, "pagesMadeBy", "(I)I"⟩
abbrev cX6_pagesMade : ByteArray := prog_8_method_27_code
def yX6_pagesMade : MethodName := ⟨RX6, "pagesMade", "()I"⟩
abbrev cX6_linesNewIn : ByteArray := prog_8_method_28_code
def yX6_linesNewIn : MethodName := ⟨RX6, "linesNewIn", "(I)I"⟩
abbrev cX6_linesApart : ByteArray := prog_8_method_29_code
def yX6_linesApart : MethodName := ⟨RX6, "linesApart", "(IIII)I"⟩
abbrev cX6_othersAlike : ByteArray := prog_8_method_30_code
def yX6_othersAlike : MethodName := ⟨RX6, "othersAlike", "(I)I"⟩
abbrev cX6_latestByYear : ByteArray := prog_8_method_31_code
def yX6_latestByYear : MethodName := ⟨RX6, "latestByYear", "(II)I"⟩
abbrev cX6_earliestWithAmountOf : ByteArray := prog_8_method_32_code
def yX6_earliestWithAmountOf : MethodName := ⟨RX6, "earliestWithAmountOf", "(II)I"⟩
abbrev cX6_latestCommon : ByteArray := prog_8_method_33_code
def yX6_latestCommon : MethodName := ⟨RX6, "latestCommon", "(II)I"⟩
abbrev cX6_pagesInBoth : ByteArray := prog_8_method_34_code
def yX6_pagesInBoth : MethodName := ⟨RX6, "pagesInBoth", "(II)I"⟩
abbrev cX6_usersOf : ByteArray := prog_8_method_35_code
def yX6_usersOf : MethodName := ⟨RX6, "usersOf", "(II)I"⟩
abbrev cX6_atPlace : ByteArray := prog_8_method_36_code
def yX6_atPlace : MethodName := ⟨RX6, "atPlace", "(I)I"⟩
abbrev cX6_versionsAheadOf : ByteArray := prog_8_method_37_code
def yX6_versionsAheadOf : MethodName := ⟨RX6, "versionsAheadOf", "(I)I"⟩
abbrev cX6_withMostPagesOfOthers : ByteArray := prog_8_method_38_code
def yX6_withMostPagesOfOthers : MethodName := ⟨RX6, "withMostPagesOfOthers", "()I"⟩
abbrev cX6_pagesOfOthersMadeBy : ByteArray := prog_8_method_39_code
def yX6_pagesOfOthersMadeBy : MethodName := ⟨RX6, "pagesOfOthersMadeBy", "(I)I"⟩
def RX7 : String := "AbbeyLedgers"
def TX7 : u_T := fun k => match k with
  | 0 => ("AbbeyLedgers", "clerk", "LAbbeyLedgers$Clerk;", true)
  | 1 => ("AbbeyLedgers", "refusal", "LAbbeyLedgers$Refusal;", true)
  | 2 => ("AbbeyLedgers", "books", "LAbbeyLedgers$Books;", true)
  | 3 => ("AbbeyLedgers", "versions", "LAbbeyLedgers$Versions;", true)
  | 4 => ("AbbeyLedgers", "saved", "LAbbeyLedgers$Books;", true)
  | 5 => ("AbbeyLedgers", "hasSaved", "Z", false)
  | 6 => ("AbbeyLedgers", "past", "LAbbeyLedgers$Past;", true)
  | 7 => ("AbbeyLedgers", "draft", "LAbbeyLedgers$Draft;", true)
  | 8 => ("AbbeyLedgers", "faultOfDraft", "I", false)
  | _ => ("AbbeyLedgers", "script", "LAbbeyLedgers$Script;", true)
def tyX7 : Nat → FieldType := fun k => match k with
  | 0 => .object "AbbeyLedgers$Clerk"
  | 1 => .object "AbbeyLedgers$Refusal"
  | 2 => .object "AbbeyLedgers$Books"
  | 3 => .object "AbbeyLedgers$Versions"
  | 4 => .object "AbbeyLedgers$Books"
  | 5 => .boolean
  | 6 => .object "AbbeyLedgers$Past"
  | 7 => .object "AbbeyLedgers$Draft"
  | 8 => .int
  | _ => .object "AbbeyLedgers$Script"
abbrev wsX70 : List Cond := u_ws RX7 TX7 10
theorem nmX7 : ∀ a, a < 10 → ∀ b, b < 10 → a ≠ b → (TX7 a).2.1 ≠ (TX7 b).2.1 := by decide +kernel
theorem tyX7_ok : ∀ k, k < 10 → parseFieldDescriptor (TX7 k).2.2.1 = some (tyX7 k) := by decide +kernel
abbrev cX7_init : ByteArray := prog_1_method_1_code
def yX7_init : MethodName := ⟨RX7, "<init>", "()V"⟩
abbrev cX7_write : ByteArray := prog_1_method_2_code
def yX7_write : MethodName := ⟨RX7, "write", "(III)I"⟩
abbrev cX7_graft : ByteArray := prog_1_method_3_code
def yX7_graft : MethodName := ⟨RX7, "graft", "(IIII)I"⟩
abbrev cX7_fork : ByteArray := prog_1_method_4_code
def yX7_fork : MethodName := ⟨RX7, "fork", "(II)I"⟩
abbrev cX7_back : ByteArray := prog_1_method_5_code
def yX7_back : MethodName := ⟨RX7, "back", "(II)I"⟩
abbrev cX7_pass : ByteArray := prog_1_method_6_code
def yX7_pass : MethodName := ⟨RX7, "pass", "(I)I"⟩
abbrev cX7_ledger : ByteArray := prog_1_method_7_code
def yX7_ledger : MethodName := ⟨RX7, "ledger", "(I)I"⟩
abbrev cX7_amount : ByteArray := prog_1_method_8_code
def yX7_amount : MethodName := ⟨RX7, "amount", "(II)I"⟩
abbrev cX7_sum : ByteArray := prog_1_method_9_code
def yX7_sum : MethodName := ⟨RX7, "sum", "(III)I"⟩
abbrev cX7_sumAgain : ByteArray := prog_1_method_10_code
def yX7_sumAgain : MethodName := ⟨RX7, "sumAgain", "(III)I"⟩
abbrev cX7_most : ByteArray := prog_1_method_11_code
def yX7_most : MethodName := ⟨RX7, "most", "(III)I"⟩
abbrev cX7_reached : ByteArray := prog_1_method_12_code
def yX7_reached : MethodName := ⟨RX7, "reached", "(II)I"⟩
abbrev cX7_versionOf : ByteArray := prog_1_method_13_code
def yX7_versionOf : MethodName := ⟨RX7, "versionOf", "(II)I"⟩
abbrev cX7_maker : ByteArray := prog_1_method_14_code
def yX7_maker : MethodName := ⟨RX7, "maker", "(II)I"⟩
abbrev cX7_had : ByteArray := prog_1_method_15_code
def yX7_had : MethodName := ⟨RX7, "had", "(II)I"⟩
abbrev cX7_since : ByteArray := prog_1_method_16_code
def yX7_since : MethodName := ⟨RX7, "since", "(II)I"⟩
abbrev cX7_common : ByteArray := prog_1_method_17_code
def yX7_common : MethodName := ⟨RX7, "common", "(II)I"⟩
abbrev cX7_apart : ByteArray := prog_1_method_18_code
def yX7_apart : MethodName := ⟨RX7, "apart", "(II)I"⟩
abbrev cX7_shared : ByteArray := prog_1_method_19_code
def yX7_shared : MethodName := ⟨RX7, "shared", "(II)I"⟩
abbrev cX7_isOf : ByteArray := prog_1_method_20_code
def yX7_isOf : MethodName := ⟨RX7, "isOf", "(II)Z"⟩
abbrev cX7_users : ByteArray := prog_1_method_21_code
def yX7_users : MethodName := ⟨RX7, "users", "(II)I"⟩
abbrev cX7_wouldMake : ByteArray := prog_1_method_22_code
def yX7_wouldMake : MethodName := ⟨RX7, "wouldMake", "(II)I"⟩
abbrev cX7_alike : ByteArray := prog_1_method_23_code
def yX7_alike : MethodName := ⟨RX7, "alike", "(I)I"⟩
abbrev cX7_richest : ByteArray := prog_1_method_24_code
def yX7_richest : MethodName := ⟨RX7, "richest", "(I)I"⟩
abbrev cX7_busiest : ByteArray := prog_1_method_25_code
def yX7_busiest : MethodName := ⟨RX7, "busiest", "()I"⟩
abbrev cX7_append : ByteArray := prog_1_method_26_code
def yX7_append : MethodName := ⟨RX7, "append", "(C)I"⟩
abbrev cX7_commands : ByteArray := prog_1_method_27_code
def yX7_commands : MethodName := ⟨RX7, "commands", "()I"⟩
abbrev cX7_faultPosition : ByteArray := prog_1_method_28_code
def yX7_faultPosition : MethodName := ⟨RX7, "faultPosition", "()I"⟩
abbrev cX7_reason : ByteArray := prog_1_method_29_code
def yX7_reason : MethodName := ⟨RX7, "reason", "(I)I"⟩
abbrev cX7_line : ByteArray := prog_1_method_30_code
def yX7_line : MethodName := ⟨RX7, "line", "(I)I"⟩
abbrev cX7_lineage : ByteArray := prog_1_method_31_code
def yX7_lineage : MethodName := ⟨RX7, "lineage", "(I)I"⟩
abbrev cX7_character : ByteArray := prog_1_method_32_code
def yX7_character : MethodName := ⟨RX7, "character", "(I)C"⟩
abbrev cX7_mean : ByteArray := prog_1_method_33_code
def yX7_mean : MethodName := ⟨RX7, "mean", "(I)D"⟩
abbrev cX7_spared : ByteArray := prog_1_method_34_code
def yX7_spared : MethodName := ⟨RX7, "spared", "()F"⟩
abbrev cX7_account : ByteArray := prog_1_method_35_code
def yX7_account : MethodName := ⟨RX7, "account", "(I)I"⟩
abbrev cX7_undo : ByteArray := prog_1_method_36_code
def yX7_undo : MethodName := ⟨RX7, "undo", "()I"⟩
abbrev cX7_save : ByteArray := prog_1_method_37_code
def yX7_save : MethodName := ⟨RX7, "save", "()I"⟩
abbrev cX7_restore : ByteArray := prog_1_method_38_code
def yX7_restore : MethodName := ⟨RX7, "restore", "()I"⟩
abbrev cX7_settled : ByteArray := prog_1_method_39_code
def yX7_settled : MethodName := ⟨RX7, "settled", "(I)I"⟩
abbrev cX7_checkVersion : ByteArray := prog_1_method_40_code
def yX7_checkVersion : MethodName := ⟨RX7, "checkVersion", "(I)V"⟩
abbrev cX7_checkHouse : ByteArray := prog_1_method_41_code
def yX7_checkHouse : MethodName := ⟨RX7, "checkHouse", "(I)V"⟩
abbrev cX7_checkLines : ByteArray := prog_1_method_42_code
def yX7_checkLines : MethodName := ⟨RX7, "checkLines", "(II)V"⟩
abbrev cX7_checkSpan : ByteArray := prog_1_method_43_code
def yX7_checkSpan : MethodName := ⟨RX7, "checkSpan", "(I)V"⟩
abbrev cX7_isHouse : ByteArray := prog_1_method_44_code
def yX7_isHouse : MethodName := ⟨RX7, "isHouse", "(I)Z"⟩
abbrev cX7_isLine : ByteArray := prog_1_method_45_code
def yX7_isLine : MethodName := ⟨RX7, "isLine", "(I)Z"⟩
abbrev cX7_isSpan : ByteArray := prog_1_method_46_code
def yX7_isSpan : MethodName := ⟨RX7, "isSpan", "(I)Z"⟩
abbrev cX7_isInside : ByteArray := prog_1_method_47_code
def yX7_isInside : MethodName := ⟨RX7, "isInside", "(III)Z"⟩
abbrev cX7_isCut : ByteArray := prog_1_method_48_code
def yX7_isCut : MethodName := ⟨RX7, "isCut", "(III)Z"⟩
abbrev cX7_isDigit : ByteArray := prog_1_method_49_code
def yX7_isDigit : MethodName := ⟨RX7, "isDigit", "(C)Z"⟩
def RX8 : String := "AbbeyLedgersModel"
def TX8 : u_T := fun k => match k with
  | 0 => ("AbbeyLedgersModel", "g", "[I", true)
  | 1 => ("AbbeyLedgersModel", "kept", "[I", true)
  | 2 => ("AbbeyLedgersModel", "stored", "[I", true)
  | 3 => ("AbbeyLedgersModel", "before", "[I", true)
  | 4 => ("AbbeyLedgersModel", "isStored", "Z", false)
  | 5 => ("AbbeyLedgersModel", "changes", "I", false)
  | 6 => ("AbbeyLedgersModel", "isWithin", "Z", false)
  | 7 => ("AbbeyLedgersModel", "done", "I", false)
  | 8 => ("AbbeyLedgersModel", "code", "I", false)
  | 9 => ("AbbeyLedgersModel", "why", "I", false)
  | 10 => ("AbbeyLedgersModel", "detail", "I", false)
  | 11 => ("AbbeyLedgersModel", "index0", "I", false)
  | 12 => ("AbbeyLedgersModel", "input", "[I", true)
  | 13 => ("AbbeyLedgersModel", "length", "I", false)
  | 14 => ("AbbeyLedgersModel", "fault", "I", false)
  | 15 => ("AbbeyLedgersModel", "signs", "[C", true)
  | 16 => ("AbbeyLedgersModel", "signMany", "I", false)
  | 17 => ("AbbeyLedgersModel", "lows", "[I", true)
  | 18 => ("AbbeyLedgersModel", "highs", "[I", true)
  | 19 => ("AbbeyLedgersModel", "at", "I", false)
  | 20 => ("AbbeyLedgersModel", "told", "[I", true)
  | _ => ("AbbeyLedgersModel", "toldMany", "I", false)
def tyX8 : Nat → FieldType := fun k => match k with
  | 0 => .array .int
  | 1 => .array .int
  | 2 => .array .int
  | 3 => .array .int
  | 4 => .boolean
  | 5 => .int
  | 6 => .boolean
  | 7 => .int
  | 8 => .int
  | 9 => .int
  | 10 => .int
  | 11 => .int
  | 12 => .array .int
  | 13 => .int
  | 14 => .int
  | 15 => .array .char
  | 16 => .int
  | 17 => .array .int
  | 18 => .array .int
  | 19 => .int
  | 20 => .array .int
  | _ => .int
abbrev wsX80 : List Cond := u_ws RX8 TX8 22
theorem nmX8 : ∀ a, a < 22 → ∀ b, b < 22 → a ≠ b → (TX8 a).2.1 ≠ (TX8 b).2.1 := by decide +kernel
theorem tyX8_ok : ∀ k, k < 22 → parseFieldDescriptor (TX8 k).2.2.1 = some (tyX8 k) := by decide +kernel
abbrev cX8_init : ByteArray := prog_10_method_1_code
def yX8_init : MethodName := ⟨RX8, "<init>", "()V"⟩
abbrev cX8_thrown : ByteArray := prog_10_method_2_code
def yX8_thrown : MethodName := ⟨RX8, "thrown", "()I"⟩
abbrev cX8_fails : ByteArray := prog_10_method_3_code
def yX8_fails : MethodName := ⟨RX8, "fails", "(I)Z"⟩
abbrev cX8_refuses : ByteArray := prog_10_method_4_code
def yX8_refuses : MethodName := ⟨RX8, "refuses", "(II)I"⟩
abbrev cX8_in : ByteArray := prog_10_method_5_code
def yX8_in : MethodName := ⟨RX8, "in", "(III)Z"⟩
abbrev cX8_copies : ByteArray := prog_10_method_6_code
def yX8_copies : MethodName := ⟨RX8, "copies", "([II[II)V"⟩
abbrev cX8_keeps : ByteArray := prog_10_method_7_code
def yX8_keeps : MethodName := ⟨RX8, "keeps", "([I)V"⟩
abbrev cX8_of : ByteArray := prog_10_method_8_code
def yX8_of : MethodName := ⟨RX8, "of", "(II)I"⟩
abbrev cX8_lays : ByteArray := prog_10_method_9_code
def yX8_lays : MethodName := ⟨RX8, "lays", "(III)V"⟩
abbrev cX8_isVersion : ByteArray := prog_10_method_10_code
def yX8_isVersion : MethodName := ⟨RX8, "isVersion", "(I)Z"⟩
abbrev cX8_isHouse : ByteArray := prog_10_method_11_code
def yX8_isHouse : MethodName := ⟨RX8, "isHouse", "(I)Z"⟩
abbrev cX8_isLine : ByteArray := prog_10_method_12_code
def yX8_isLine : MethodName := ⟨RX8, "isLine", "(I)Z"⟩
abbrev cX8_amountOf : ByteArray := prog_10_method_13_code
def yX8_amountOf : MethodName := ⟨RX8, "amountOf", "(II)I"⟩
abbrev cX8_has : ByteArray := prog_10_method_14_code
def yX8_has : MethodName := ⟨RX8, "has", "(III)Z"⟩
abbrev cX8_isWithin0 : ByteArray := prog_10_method_15_code
def yX8_isWithin0 : MethodName := ⟨RX8, "isWithin0", "(III)Z"⟩
abbrev cX8_comes : ByteArray := prog_10_method_16_code
def yX8_comes : MethodName := ⟨RX8, "comes", "(I)I"⟩
abbrev cX8_write : ByteArray := prog_10_method_17_code
def yX8_write : MethodName := ⟨RX8, "write", "(III)I"⟩
abbrev cX8_areLike : ByteArray := prog_10_method_18_code
def yX8_areLike : MethodName := ⟨RX8, "areLike", "(IIII)Z"⟩
abbrev cX8_graft : ByteArray := prog_10_method_19_code
def yX8_graft : MethodName := ⟨RX8, "graft", "(IIII)I"⟩
abbrev cX8_fork : ByteArray := prog_10_method_20_code
def yX8_fork : MethodName := ⟨RX8, "fork", "(II)I"⟩
abbrev cX8_ancestors : ByteArray := prog_10_method_21_code
def yX8_ancestors : MethodName := ⟨RX8, "ancestors", "(I)I"⟩
abbrev cX8_back : ByteArray := prog_10_method_22_code
def yX8_back : MethodName := ⟨RX8, "back", "(II)I"⟩
abbrev cX8_pass : ByteArray := prog_10_method_23_code
def yX8_pass : MethodName := ⟨RX8, "pass", "(I)I"⟩
abbrev cX8_ledger : ByteArray := prog_10_method_24_code
def yX8_ledger : MethodName := ⟨RX8, "ledger", "(I)I"⟩
abbrev cX8_amount : ByteArray := prog_10_method_25_code
def yX8_amount : MethodName := ⟨RX8, "amount", "(II)I"⟩
abbrev cX8_sumOf : ByteArray := prog_10_method_26_code
def yX8_sumOf : MethodName := ⟨RX8, "sumOf", "(III)I"⟩
abbrev cX8_areLines : ByteArray := prog_10_method_27_code
def yX8_areLines : MethodName := ⟨RX8, "areLines", "(II)Z"⟩
abbrev cX8_sum : ByteArray := prog_10_method_28_code
def yX8_sum : MethodName := ⟨RX8, "sum", "(III)I"⟩
abbrev cX8_sumAgain : ByteArray := prog_10_method_29_code
def yX8_sumAgain : MethodName := ⟨RX8, "sumAgain", "(III)I"⟩
abbrev cX8_most : ByteArray := prog_10_method_30_code
def yX8_most : MethodName := ⟨RX8, "most", "(III)I"⟩
abbrev cX8_reached : ByteArray := prog_10_method_31_code
def yX8_reached : MethodName := ⟨RX8, "reached", "(II)I"⟩
abbrev cX8_children : ByteArray := prog_10_method_32_code
def yX8_children : MethodName := ⟨RX8, "children", "(I)I"⟩
abbrev cX8_made : ByteArray := prog_10_method_33_code
def yX8_made : MethodName := ⟨RX8, "made", "(I)I"⟩
abbrev cX8_apart0 : ByteArray := prog_10_method_34_code
def yX8_apart0 : MethodName := ⟨RX8, "apart0", "(II)I"⟩
abbrev cX8_houses : ByteArray := prog_10_method_35_code
def yX8_houses : MethodName := ⟨RX8, "houses", "(I)I"⟩
abbrev cX8_versionOf : ByteArray := prog_10_method_36_code
def yX8_versionOf : MethodName := ⟨RX8, "versionOf", "(II)I"⟩
abbrev cX8_maker : ByteArray := prog_10_method_37_code
def yX8_maker : MethodName := ⟨RX8, "maker", "(II)I"⟩
abbrev cX8_had : ByteArray := prog_10_method_38_code
def yX8_had : MethodName := ⟨RX8, "had", "(II)I"⟩
abbrev cX8_since : ByteArray := prog_10_method_39_code
def yX8_since : MethodName := ⟨RX8, "since", "(II)I"⟩
abbrev cX8_areVersions : ByteArray := prog_10_method_40_code
def yX8_areVersions : MethodName := ⟨RX8, "areVersions", "(II)Z"⟩
abbrev cX8_common : ByteArray := prog_10_method_41_code
def yX8_common : MethodName := ⟨RX8, "common", "(II)I"⟩
abbrev cX8_apart : ByteArray := prog_10_method_42_code
def yX8_apart : MethodName := ⟨RX8, "apart", "(II)I"⟩
abbrev cX8_shared : ByteArray := prog_10_method_43_code
def yX8_shared : MethodName := ⟨RX8, "shared", "(II)I"⟩
abbrev cX8_isOf : ByteArray := prog_10_method_44_code
def yX8_isOf : MethodName := ⟨RX8, "isOf", "(II)Z"⟩
abbrev cX8_usersOf : ByteArray := prog_10_method_45_code
def yX8_usersOf : MethodName := ⟨RX8, "usersOf", "(II)I"⟩
abbrev cX8_users : ByteArray := prog_10_method_46_code
def yX8_users : MethodName := ⟨RX8, "users", "(II)I"⟩
abbrev cX8_wouldMake : ByteArray := prog_10_method_47_code
def yX8_wouldMake : MethodName := ⟨RX8, "wouldMake", "(II)I"⟩
abbrev cX8_alike : ByteArray := prog_10_method_48_code
def yX8_alike : MethodName := ⟨RX8, "alike", "(I)I"⟩
abbrev cX8_richest : ByteArray := prog_10_method_49_code
def yX8_richest : MethodName := ⟨RX8, "richest", "(I)I"⟩
abbrev cX8_lent : ByteArray := prog_10_method_50_code
def yX8_lent : MethodName := ⟨RX8, "lent", "(I)I"⟩
abbrev cX8_busiest : ByteArray := prog_10_method_51_code
def yX8_busiest : MethodName := ⟨RX8, "busiest", "()I"⟩
abbrev cX8_append : ByteArray := prog_10_method_52_code
def yX8_append : MethodName := ⟨RX8, "append", "(C)I"⟩
abbrev cX8_here : ByteArray := prog_10_method_53_code
def yX8_here : MethodName := ⟨RX8, "here", "()I"⟩
abbrev cX8_skips : ByteArray := prog_10_method_54_code
def yX8_skips : MethodName := ⟨RX8, "skips", "(I)Z"⟩
abbrev cX8_figures : ByteArray := prog_10_method_55_code
def yX8_figures : MethodName := ⟨RX8, "figures", "(II)Z"⟩
abbrev cX8_commandHere : ByteArray := prog_10_method_56_code
def yX8_commandHere : MethodName := ⟨RX8, "commandHere", "()Z"⟩
abbrev cX8_isText : ByteArray := prog_10_method_57_code
def yX8_isText : MethodName := ⟨RX8, "isText", "()Z"⟩
abbrev cX8_carries : ByteArray := prog_10_method_58_code
def yX8_carries : MethodName := ⟨RX8, "carries", "(I)I"⟩
abbrev cX8_commands : ByteArray := prog_10_method_59_code
def yX8_commands : MethodName := ⟨RX8, "commands", "()I"⟩
abbrev cX8_faultPosition : ByteArray := prog_10_method_60_code
def yX8_faultPosition : MethodName := ⟨RX8, "faultPosition", "()I"⟩
abbrev cX8_reason : ByteArray := prog_10_method_61_code
def yX8_reason : MethodName := ⟨RX8, "reason", "(I)I"⟩
abbrev cX8_writes : ByteArray := prog_10_method_62_code
def yX8_writes : MethodName := ⟨RX8, "writes", "(I)V"⟩
abbrev cX8_writesNumber : ByteArray := prog_10_method_63_code
def yX8_writesNumber : MethodName := ⟨RX8, "writesNumber", "(I)V"⟩
abbrev cX8_line : ByteArray := prog_10_method_64_code
def yX8_line : MethodName := ⟨RX8, "line", "(I)I"⟩
abbrev cX8_lineage : ByteArray := prog_10_method_65_code
def yX8_lineage : MethodName := ⟨RX8, "lineage", "(I)I"⟩
abbrev cX8_character : ByteArray := prog_10_method_66_code
def yX8_character : MethodName := ⟨RX8, "character", "(I)C"⟩
abbrev cX8_mean : ByteArray := prog_10_method_67_code
def yX8_mean : MethodName := ⟨RX8, "mean", "(I)D"⟩
abbrev cX8_allMade : ByteArray := prog_10_method_68_code
def yX8_allMade : MethodName := ⟨RX8, "allMade", "()I"⟩
abbrev cX8_spared : ByteArray := prog_10_method_69_code
def yX8_spared : MethodName := ⟨RX8, "spared", "()F"⟩
abbrev cX8_versionsThat : ByteArray := prog_10_method_70_code
def yX8_versionsThat : MethodName := ⟨RX8, "versionsThat", "(Z)I"⟩
abbrev cX8_account : ByteArray := prog_10_method_71_code
def yX8_account : MethodName := ⟨RX8, "account", "(I)I"⟩
abbrev cX8_undo : ByteArray := prog_10_method_72_code
def yX8_undo : MethodName := ⟨RX8, "undo", "()I"⟩
abbrev cX8_save : ByteArray := prog_10_method_73_code
def yX8_save : MethodName := ⟨RX8, "save", "()I"⟩
abbrev cX8_restore : ByteArray := prog_10_method_74_code
def yX8_restore : MethodName := ⟨RX8, "restore", "()I"⟩
def RJ0 : String := "java/lang/String"
abbrev cJ0_length_8abf5 : ByteArray := prog_19_method_54_code
def yJ0_length_8abf5 : MethodName := ⟨RJ0, "length", "()I"⟩
abbrev cJ0_isEmpty_aae02 : ByteArray := prog_19_method_55_code
def yJ0_isEmpty_aae02 : MethodName := ⟨RJ0, "isEmpty", "()Z"⟩
abbrev cJ0_charAt_5068e : ByteArray := prog_19_method_56_code
def yJ0_charAt_5068e : MethodName := ⟨RJ0, "charAt", "(I)C"⟩
abbrev cJ0_coder_7d493 : ByteArray := prog_19_method_152_code
def yJ0_coder_7d493 : MethodName := ⟨RJ0, "coder", "()B"⟩
abbrev cJ0_isLatin1_aae02 : ByteArray := prog_19_method_154_code
def yJ0_isLatin1_aae02 : MethodName := ⟨RJ0, "isLatin1", "()Z"⟩
abbrev cJ0_checkIndex_df160 : ByteArray := prog_19_method_155_code
def yJ0_checkIndex_df160 : MethodName := ⟨RJ0, "checkIndex", "(II)V"⟩
def RJ1 : String := "java/lang/StringLatin1"
abbrev cJ1_charAt_3b067 : ByteArray := prog_20_method_2_code
def yJ1_charAt_3b067 : MethodName := ⟨RJ1, "charAt", "([BI)C"⟩
def RJ2 : String := "java/lang/StringUTF16"
abbrev cJ2_getChar_3b067 : ByteArray := prog_21_method_5_code
def yJ2_getChar_3b067 : MethodName := ⟨RJ2, "getChar", "([BI)C"⟩
abbrev cJ2_length_9d52b : ByteArray := prog_21_method_6_code
def yJ2_length_9d52b : MethodName := ⟨RJ2, "length", "([B)I"⟩
abbrev cJ2_charAt_3b067 : ByteArray := prog_21_method_83_code
def yJ2_charAt_3b067 : MethodName := ⟨RJ2, "charAt", "([BI)C"⟩
abbrev cJ2_checkIndex_2214a : ByteArray := prog_21_method_91_code
def yJ2_checkIndex_2214a : MethodName := ⟨RJ2, "checkIndex", "(I[B)V"⟩
def RJ10 : String := "java/lang/System"
def RJ3 : String := "jdk/internal/util/Preconditions"
abbrev cJ3_checkIndex_8e157 : ByteArray := prog_28_method_11_code
def yJ3_checkIndex_8e157 : MethodName := ⟨RJ3, "checkIndex", "(IILjava/util/function/BiFunction;)I"⟩
def RL : String := "AbbeyLedgersLaw"
abbrev cL_write : ByteArray := method_3_code
def yL_write : MethodName := ⟨RL, "write", "(LAbbeyLedgers;III[J)I"⟩
abbrev cL_graft : ByteArray := method_4_code
def yL_graft : MethodName := ⟨RL, "graft", "(LAbbeyLedgers;IIII[J)I"⟩
abbrev cL_fork : ByteArray := method_5_code
def yL_fork : MethodName := ⟨RL, "fork", "(LAbbeyLedgers;II[J)I"⟩
abbrev cL_back : ByteArray := method_6_code
def yL_back : MethodName := ⟨RL, "back", "(LAbbeyLedgers;II[J)I"⟩
abbrev cL_pass : ByteArray := method_7_code
def yL_pass : MethodName := ⟨RL, "pass", "(LAbbeyLedgers;I[J)I"⟩
abbrev cL_ledger : ByteArray := method_8_code
def yL_ledger : MethodName := ⟨RL, "ledger", "(LAbbeyLedgers;I[J)I"⟩
abbrev cL_amount : ByteArray := method_9_code
def yL_amount : MethodName := ⟨RL, "amount", "(LAbbeyLedgers;II[J)I"⟩
abbrev cL_sum : ByteArray := method_10_code
def yL_sum : MethodName := ⟨RL, "sum", "(LAbbeyLedgers;III[J)I"⟩
abbrev cL_sumAgain : ByteArray := method_11_code
def yL_sumAgain : MethodName := ⟨RL, "sumAgain", "(LAbbeyLedgers;III[J)I"⟩
abbrev cL_most : ByteArray := method_12_code
def yL_most : MethodName := ⟨RL, "most", "(LAbbeyLedgers;III[J)I"⟩
abbrev cL_reached : ByteArray := method_13_code
def yL_reached : MethodName := ⟨RL, "reached", "(LAbbeyLedgers;II[J)I"⟩
abbrev cL_versionOf : ByteArray := method_14_code
def yL_versionOf : MethodName := ⟨RL, "versionOf", "(LAbbeyLedgers;II[J)I"⟩
abbrev cL_maker : ByteArray := method_15_code
def yL_maker : MethodName := ⟨RL, "maker", "(LAbbeyLedgers;II[J)I"⟩
abbrev cL_had : ByteArray := method_16_code
def yL_had : MethodName := ⟨RL, "had", "(LAbbeyLedgers;II[J)I"⟩
abbrev cL_since : ByteArray := method_17_code
def yL_since : MethodName := ⟨RL, "since", "(LAbbeyLedgers;II[J)I"⟩
abbrev cL_common : ByteArray := method_18_code
def yL_common : MethodName := ⟨RL, "common", "(LAbbeyLedgers;II[J)I"⟩
abbrev cL_apart : ByteArray := method_19_code
def yL_apart : MethodName := ⟨RL, "apart", "(LAbbeyLedgers;II[J)I"⟩
abbrev cL_shared : ByteArray := method_20_code
def yL_shared : MethodName := ⟨RL, "shared", "(LAbbeyLedgers;II[J)I"⟩
abbrev cL_isOf : ByteArray := method_21_code
def yL_isOf : MethodName := ⟨RL, "isOf", "(LAbbeyLedgers;II[J)I"⟩
abbrev cL_users : ByteArray := method_22_code
def yL_users : MethodName := ⟨RL, "users", "(LAbbeyLedgers;II[J)I"⟩
abbrev cL_wouldMake : ByteArray := method_23_code
def yL_wouldMake : MethodName := ⟨RL, "wouldMake", "(LAbbeyLedgers;II[J)I"⟩
abbrev cL_alike : ByteArray := method_24_code
def yL_alike : MethodName := ⟨RL, "alike", "(LAbbeyLedgers;I[J)I"⟩
abbrev cL_richest : ByteArray := method_25_code
def yL_richest : MethodName := ⟨RL, "richest", "(LAbbeyLedgers;I[J)I"⟩
abbrev cL_busiest : ByteArray := method_26_code
def yL_busiest : MethodName := ⟨RL, "busiest", "(LAbbeyLedgers;[J)I"⟩
abbrev cL_append : ByteArray := method_27_code
def yL_append : MethodName := ⟨RL, "append", "(LAbbeyLedgers;C[J)I"⟩
abbrev cL_commands : ByteArray := method_28_code
def yL_commands : MethodName := ⟨RL, "commands", "(LAbbeyLedgers;[J)I"⟩
abbrev cL_reason : ByteArray := method_29_code
def yL_reason : MethodName := ⟨RL, "reason", "(LAbbeyLedgers;I[J)I"⟩
abbrev cL_line : ByteArray := method_30_code
def yL_line : MethodName := ⟨RL, "line", "(LAbbeyLedgers;I[J)I"⟩
abbrev cL_lineage : ByteArray := method_31_code
def yL_lineage : MethodName := ⟨RL, "lineage", "(LAbbeyLedgers;I[J)I"⟩
abbrev cL_character : ByteArray := method_32_code
def yL_character : MethodName := ⟨RL, "character", "(LAbbeyLedgers;I[J)I"⟩
abbrev cL_mean : ByteArray := method_33_code
def yL_mean : MethodName := ⟨RL, "mean", "(LAbbeyLedgers;I[D)I"⟩
abbrev cL_account : ByteArray := method_34_code
def yL_account : MethodName := ⟨RL, "account", "(LAbbeyLedgers;I[J)I"⟩
abbrev cL_undo : ByteArray := method_35_code
def yL_undo : MethodName := ⟨RL, "undo", "(LAbbeyLedgers;[J)I"⟩
abbrev cL_restore : ByteArray := method_36_code
def yL_restore : MethodName := ⟨RL, "restore", "(LAbbeyLedgers;[J)I"⟩
abbrev cL_law : ByteArray := code
def yL_law : MethodName := ⟨RL, "law", "([I)Z"⟩
abbrev vwCl : List vw_C := [(RX0, TX0, 5), (RX1, TX1, 3), (RX2, TX2, 5), (RX3, TX3, 2), (RX4, TX4, 3), (RX5, TX5, 2), (RX6, TX6, 5), (RX7, TX7, 10), (RX8, TX8, 22)]
end
section
/-! THE SMALL MACHINE: values by tags, cells by their numbers, ints as Int; 'Ev' says of a method's body, from a place on, what comes of it -/
/-- a value: (0,x) an int; (1,c) the cell c of ours; (2,i) the text constant i; (3,j) the old array j; (4,x) a long; (5,b) a double's bits; (6,b) a float's bits; (7,i) the bytes of the text i; (8,_) the JDK's formatter; (9,_) nothing known -/
abbrev zSV : Type := Nat × Int
/-- the shape (kind, size or class), references, ints, longs, doubles -/
abbrev zHp : Type := List (Nat × Nat) × (Nat → Nat → Option Nat) × (Nat → Int → Int) × (Nat → Int → Int) × (Nat → Int → Int)
/-- an outcome: what is returned, or the class that is thrown; the heap then; how many cells and slots were made -/
abbrev zO : Type := (Option zSV ⊕ String) × zHp × Nat × Nat
/-- a method: its name, bytes, locals, return type, handlers, frames and locals that its calls need -/
abbrev zM : Type := MethodName × ByteArray × Nat × Option FieldType × List (Nat × Nat × Nat × Nat) × Nat × Nat
/-- class numbers; the array classes; the text constants and their byte arrays; the old arrays; what these hold -/
abbrev zG : Type := va_G × (Nat → ClassId) × (Nat → Nat) × (Nat → Nat) × (Nat → Nat) × (Nat → Nat × (Int → Int)) × Option Nat
def zT : List Cond := lw_tbl.filter goodWord
def zNwOk : Cond → Bool
  | .fieldLinkNest .. => true
  | .methodLinkNest .. => true
  | .castable .. => true
  | .declares .. => true
  | _ => false
def zNw : List Cond := lw_tbl.filter zNwOk
theorem zT_good {w : Cond} (h : w ∈ zT) : goodWord w = true := (List.mem_filter.mp h).2
theorem zT_in {w : Cond} (i : Nat) (h : lw_tbl[i]? = some w) (hg : goodWord w = true) : w ∈ zT := List.mem_filter.mpr ⟨List.mem_of_getElem? h, hg⟩
theorem zNw_in {w : Cond} (i : Nat) (h : lw_tbl[i]? = some w) (hg : zNwOk w = true) : w ∈ zNw := List.mem_filter.mpr ⟨List.mem_of_getElem? h, hg⟩
def zf (M : zM) (pc : Nat) : Option (Instr × Nat × Nat) := match decode M.2.1 pc with
  | .ok (i, n) => some (i, n, pc + n)
  | .error _ => none
theorem zf_ok {M : zM} {pc n pc' : Nat} {i : Instr} (h : zf M pc = some (i, n, pc')) : decode M.2.1 pc = .ok (i, n) ∧ pc' = pc + n := by
  unfold zf at h
  split at h
  · rename_i i' n' h1
    cases h
    exact ⟨h1, rfl⟩
  · cases h
def zc (G : zG) (ad : Nat → Nat) (v : zSV) : Value := match v with
  | (0, x) => .int (Int32.ofInt x)
  | (1, k) => .ref (ad k.toNat)
  | (2, k) => .ref (G.2.2.1 k.toNat)
  | (3, k) => .ref (G.2.2.2.2.1 k.toNat)
  | (4, x) => .long (Int64.ofInt x)
  | (5, x) => .double (UInt64.ofNat x.toNat)
  | (6, x) => .float (UInt32.ofNat x.toNat)
  | (7, k) => .ref (G.2.2.2.1 k.toNat)
  | (8, _) => va_rf G.2.2.2.2.2.2
  | _ => .null
def zcat (v : zSV) : Nat := if v.1 = 4 ∨ v.1 = 5 then 2 else 1
theorem zcat_eq (G : zG) (ad : Nat → Nat) (v : zSV) : (zc G ad v).category = zcat v := by
  obtain ⟨t, x⟩ := v
  match t with
  | 0 => rfl
  | 1 => rfl
  | 2 => rfl
  | 3 => rfl
  | 4 => rfl
  | 5 => rfl
  | 6 => rfl
  | 7 => rfl
  | 8 =>
    show (va_rf G.2.2.2.2.2.2).category = 1
    cases G.2.2.2.2.2.2 <;> rfl
  | t + 9 => simp [zc, zcat, Value.category]
theorem zcats (G : zG) (ad : Nat → Nat) (st : List zSV) : ((st.map (zc G ad)).map fun v => v.category) = st.map zcat := by
  rw [List.map_map]
  exact List.map_congr_left fun v _ => zcat_eq G ad v
/-- the known locals -/
def zL (G : zG) (ad : Nat → Nat) (ls : List zSV) : List (Nat × Value) := (ls.mapIdx fun i v => (i, v)).filterMap fun q => if q.2.1 = 9 then none else some (q.1, zc G ad q.2)
theorem zL_mem {G : zG} {ad : Nat → Nat} {ls : List zSV} {q : Nat × Value} : q ∈ zL G ad ls ↔ ∃ w, ls[q.1]? = some w ∧ w.1 ≠ 9 ∧ q.2 = zc G ad w := by
  unfold zL
  rw [List.mem_filterMap]
  constructor
  · rintro ⟨⟨i, w⟩, h1, h2⟩
    obtain ⟨k, hk⟩ := List.getElem?_of_mem h1
    rw [List.getElem?_mapIdx] at hk
    cases hw : ls[k]? with
    | none => rw [hw] at hk; cases hk
    | some w' =>
      rw [hw] at hk
      cases hk
      by_cases h9 : w.1 = 9
      · simp [h9] at h2
      · simp [h9] at h2
        subst h2
        exact ⟨w, hw, h9, rfl⟩
  · rintro ⟨w, h1, h2, h3⟩
    refine ⟨(q.1, w), ?_, by simp [h2, ← h3]⟩
    refine List.mem_of_getElem? (i := q.1) ?_
    rw [List.getElem?_mapIdx, h1]
    rfl
theorem zL_at {G : zG} {ad : Nat → Nat} {ls : List zSV} {la : Array Slot} {n i : Nat} {w : zSV} (h : lv_has la n (zL G ad ls)) (hi : ls[i]? = some w) (hw : w.1 ≠ 9) : la[i]? = some (.val (zc G ad w)) := h.2.2 (i, zc G ad w) (zL_mem.mpr ⟨w, hi, hw, rfl⟩)
theorem lv_less {la : Array Slot} {n : Nat} {l l' : List (Nat × Value)} (h : lv_has la n l) (hs : ∀ q ∈ l', q ∈ l) : lv_has la n l' := ⟨h.1, h.2.1, fun q hq => h.2.2 q (hs q hq)⟩
/-- no long or double right below -/
def zb (ls : List zSV) : Nat → Bool
  | 0 => true
  | i + 1 => match ls[i]? with
    | some (4, _) => false
    | some (5, _) => false
    | _ => true
theorem zb_ok {G : zG} {ad : Nat → Nat} {ls : List zSV} {i j : Nat} {w : zSV} (h : zb ls i = true) (hj : ls[j]? = some w) (e : j + 1 = i) : ¬ (zc G ad w).category = 2 := by
  subst e
  rw [zcat_eq]
  unfold zcat
  intro h2
  have h3 : w.1 = 4 ∨ w.1 = 5 := by
    by_cases h4 : w.1 = 4 ∨ w.1 = 5
    · exact h4
    · rw [if_neg h4] at h2; cases h2
  obtain ⟨t, x⟩ := w
  simp only [zb, hj] at h
  rcases h3 with h3 | h3 <;> (simp only at h3; subst h3; simp at h)
theorem zL_set {G : zG} {ad : Nat → Nat} {ls : List zSV} {la : Array Slot} {n i : Nat} {w : zSV} (hb : zb ls i = true) (h : lv_has la n ((i, zc G ad w) :: (zL G ad ls).filter (fun q => !(q.1 == i) && !(q.1 + 1 == i && q.2.category == 2)))) : lv_has la n (zL G ad (ls.set i w)) := by
  refine lv_less h fun q hq => ?_
  obtain ⟨w', h1, h2, h3⟩ := zL_mem.mp hq
  by_cases hqi : q.1 = i
  · have hlt : i < ls.length := by
      have := (List.getElem?_eq_some_iff.mp h1).1
      rw [List.length_set] at this
      omega
    rw [hqi, List.getElem?_set_self hlt] at h1
    cases h1
    refine List.mem_cons.mpr (Or.inl ?_)
    rw [← hqi, ← h3]
  · rw [List.getElem?_set_ne (Ne.symm hqi)] at h1
    refine List.mem_cons.mpr (Or.inr (List.mem_filter.mpr ⟨zL_mem.mpr ⟨w', h1, h2, h3⟩, ?_⟩))
    have h5 : q.1 + 1 = i → ¬ q.2.category = 2 := fun e => by rw [h3]; exact zb_ok hb h1 e
    by_cases e : q.1 + 1 = i
    · simp [hqi, h5 e]
    · simp [hqi, e]
/-- fields: how many, and which are references -/
def zN (ci : Nat) : Nat := match ci with
  | 0 => 5
  | 1 => 3
  | 2 => 5
  | 3 => 2
  | 4 => 3
  | 5 => 2
  | 6 => 5
  | 7 => 10
  | _ => 22
def zR (ci k : Nat) : Bool := match ci with
  | 0 => k ∈ [0, 1]
  | 1 => k ∈ [0, 1, 2]
  | 2 => k ∈ [0, 4]
  | 3 => k ∈ [0]
  | 4 => false
  | 5 => k ∈ [0]
  | 6 => k ∈ [1, 2, 3, 4]
  | 7 => k ∈ [0, 1, 2, 3, 4, 6, 7, 9]
  | _ => k ∈ [0, 1, 2, 3, 12, 15, 17, 18, 20]
def zF (ad : Nat → Nat) (h : zHp) (c ci : Nat) : List Value := (List.range (zN ci)).map fun k => if zR ci k then va_rf ((h.2.1 c k).map ad) else .int (Int32.ofInt (h.2.2.1 c (k : Int)))
def zE (G : zG) (ad : Nat → Nat) (h : zHp) (c : Nat) (kn : Nat × Nat) : va_E := match kn with
  | (0, ci) => .inr (ci, zF ad h c ci)
  | (1, n) => .inl (G.2.1 0, n, .inl fun j => Int32.ofInt (h.2.2.1 c (j : Int)))
  | (2, n) => .inl (G.2.1 1, n, .inl fun j => Int32.ofInt (h.2.2.1 c (j : Int)))
  | (3, n) => .inl (G.2.1 2, n, .inr (.inl fun j => Int64.ofInt (h.2.2.2.1 c (j : Int))))
  | (_, n) => .inl (G.2.1 3, n, .inr (.inr (.inr (.inl fun j => UInt64.ofNat (h.2.2.2.2 c (j : Int)).toNat))))
def zW (G : zG) (ad : Nat → Nat) (h : zHp) : va_W := h.1.mapIdx fun c kn => (ad c, zE G ad h c kn)
theorem zW_at {G : zG} {ad : Nat → Nat} {h : zHp} {c : Nat} {kn : Nat × Nat} (hc : h.1[c]? = some kn) : (zW G ad h)[c]? = some (ad c, zE G ad h c kn) := by
  unfold zW
  rw [List.getElem?_mapIdx, hc]
  rfl
theorem zW_set {G : zG} {ad : Nat → Nat} {h h' : zHp} {c : Nat} {e : va_E} (hs : h'.1 = h.1) (ho : ∀ j kn, j ≠ c → zE G ad h' j kn = zE G ad h j kn) (hc : ∀ kn, h.1[c]? = some kn → zE G ad h' c kn = e) : (zW G ad h).set c (ad c, e) = zW G ad h' := by
  apply List.ext_getElem?
  intro j
  unfold zW
  rw [hs]
  by_cases hj : j = c
  · subst hj
    cases hk : h.1[j]? with
    | none =>
      have h1 : h.1.length ≤ j := List.getElem?_eq_none_iff.mp hk
      rw [List.getElem?_mapIdx, hk]
      apply List.getElem?_eq_none
      rw [List.length_set, List.length_mapIdx]
      exact h1
    | some kn =>
      have h1 : j < (h.1.mapIdx fun c kn => (ad c, zE G ad h c kn)).length := by rw [List.length_mapIdx]; exact (List.getElem?_eq_some_iff.mp hk).1
      rw [List.getElem?_set_self h1, List.getElem?_mapIdx, hk]
      show some (ad j, e) = some (ad j, zE G ad h' j kn)
      rw [hc kn hk]
  · rw [List.getElem?_set_ne (Ne.symm hj), List.getElem?_mapIdx, List.getElem?_mapIdx]
    cases hk : h.1[j]? with
    | none => rfl
    | some kn =>
      show some (ad j, zE G ad h j kn) = some (ad j, zE G ad h' j kn)
      rw [ho j kn hj]
/-- a number written at a place -/
def zu (f : Nat → Int → Int) (c : Nat) (i x : Int) : Nat → Int → Int := fun c' i' => if c' = c ∧ i' = i then x else f c' i'
def zur (f : Nat → Nat → Option Nat) (c k : Nat) (x : Option Nat) : Nat → Nat → Option Nat := fun c' k' => if c' = c ∧ k' = k then x else f c' k'
def zTys (G : zG) : List (ClassId × FieldType) := [(G.2.1 0, .int), (G.2.1 1, .char), (G.2.1 2, .long), (G.2.1 3, .double)]
def zNc : List (String × String) := [("java/lang/IllegalArgumentException", "java/lang/IndexOutOfBoundsException"), ("java/util/NoSuchElementException", "java/lang/IndexOutOfBoundsException"), ("java/lang/UnsupportedOperationException", "java/lang/IllegalArgumentException"), ("java/util/NoSuchElementException", "java/lang/IllegalArgumentException")]
end
section
/-! THE ENVIRONMENT, THE JUDGEMENT AND ITS RULES (printed by wip/whole/gen/sim2.py) -/
/-- the text constants: class, place, text -/
def zSK : List (String × Nat × String) := [("AbbeyLedgers", 316, "refused"), ("AbbeyLedgers", 331, "no such house"), ("AbbeyLedgers", 326, "no such version"), ("AbbeyLedgers", 336, "no such lines"), ("AbbeyLedgers", 125, "the sum is not reached"), ("AbbeyLedgers", 153, "no such number of a version"), ("AbbeyLedgers", 341, "no such span"), ("AbbeyLedgers", 162, "no such year"), ("AbbeyLedgers", 192, "no such place"), ("AbbeyLedgers", 198, "there is only the version 0"), ("AbbeyLedgers", 209, "the buffer is full"), ("AbbeyLedgers$Draft", 71, "1/2=3"), ("AbbeyLedgers$Draft", 73, "1/2:2-2"), ("AbbeyLedgers$Draft", 75, "1<1"), ("AbbeyLedgers$Draft", 77, "1*2"), ("AbbeyLedgers$Draft", 79, "2"), ("AbbeyLedgers$Draft", 81, ""), ("AbbeyLedgers", 223, "the text has a fault"), ("AbbeyLedgers", 244, "no such number of a reason"), ("AbbeyLedgers", 249, "nothing was refused"), ("AbbeyLedgers", 265, "no such index"), ("AbbeyLedgers", 296, "no such account"), ("AbbeyLedgers", 298, "there is nothing to undo"), ("AbbeyLedgers", 309, "there is no snapshot")]
def zSl : List Nat := [7, 13, 15, 13, 22, 27, 12, 12, 13, 27, 18, 5, 7, 3, 3, 1, 0, 20, 26, 19, 13, 15, 24, 20]
def zSb : List (List Int32) := [[114, 101, 102, 117, 115, 101, 100], [110, 111, 32, 115, 117, 99, 104, 32, 104, 111, 117, 115, 101], [110, 111, 32, 115, 117, 99, 104, 32, 118, 101, 114, 115, 105, 111, 110], [110, 111, 32, 115, 117, 99, 104, 32, 108, 105, 110, 101, 115], [116, 104, 101, 32, 115, 117, 109, 32, 105, 115, 32, 110, 111, 116, 32, 114, 101, 97, 99, 104, 101, 100], [110, 111, 32, 115, 117, 99, 104, 32, 110, 117, 109, 98, 101, 114, 32, 111, 102, 32, 97, 32, 118, 101, 114, 115, 105, 111, 110], [110, 111, 32, 115, 117, 99, 104, 32, 115, 112, 97, 110], [110, 111, 32, 115, 117, 99, 104, 32, 121, 101, 97, 114], [110, 111, 32, 115, 117, 99, 104, 32, 112, 108, 97, 99, 101], [116, 104, 101, 114, 101, 32, 105, 115, 32, 111, 110, 108, 121, 32, 116, 104, 101, 32, 118, 101, 114, 115, 105, 111, 110, 32, 48], [116, 104, 101, 32, 98, 117, 102, 102, 101, 114, 32, 105, 115, 32, 102, 117, 108, 108], [49, 47, 50, 61, 51], [49, 47, 50, 58, 50, 45, 50], [49, 60, 49], [49, 42, 50], [50], [], [116, 104, 101, 32, 116, 101, 120, 116, 32, 104, 97, 115, 32, 97, 32, 102, 97, 117, 108, 116], [110, 111, 32, 115, 117, 99, 104, 32, 110, 117, 109, 98, 101, 114, 32, 111, 102, 32, 97, 32, 114, 101, 97, 115, 111, 110], [110, 111, 116, 104, 105, 110, 103, 32, 119, 97, 115, 32, 114, 101, 102, 117, 115, 101, 100], [110, 111, 32, 115, 117, 99, 104, 32, 105, 110, 100, 101, 120], [110, 111, 32, 115, 117, 99, 104, 32, 97, 99, 99, 111, 117, 110, 116], [116, 104, 101, 114, 101, 32, 105, 115, 32, 110, 111, 116, 104, 105, 110, 103, 32, 116, 111, 32, 117, 110, 100, 111], [116, 104, 101, 114, 101, 32, 105, 115, 32, 110, 111, 32, 115, 110, 97, 112, 115, 104, 111, 116]]
/-- what holds of the cells that are not ours -/
def zEnv (G : zG) (A : Nat → Prop) (U : State) (H : Heap) : Prop :=
  (∀ w ∈ zNw, va_Nw w U) ∧ (∀ q ∈ zNc, va_Nc q.1 q.2 U) ∧ (∀ (i : Nat) (q : String × Nat × String), zSK[i]? = some q → vk_R q.1 q.2.1 q.2.2 (G.2.2.1 i) U) ∧
  vx_Zq Bundle.tN "UNASSIGNED_STACK" Bundle.steD A U H ∧ vx_Zq Bundle.tN "SUPPRESSED_SENTINEL" Bundle.listD A U H ∧
  vk_S 24 zSl zSb G.2.2.1 G.2.2.2.1 A U H ∧ va_Z "java/lang/String" "COMPACT_STRINGS" "Z" (.int 1) A U H ∧ va_Z "jdk/internal/util/Preconditions" "SIOOBE_FORMATTER" "Ljava/util/function/BiFunction;" (va_rf G.2.2.2.2.2.2) A U H ∧
  va_Z RX7 "LOWEST_LINE_OF_SPAN" "[I" (.ref (G.2.2.2.2.1 0)) A U H ∧ va_Z RX7 "HIGHEST_LINE_OF_SPAN" "[I" (.ref (G.2.2.2.2.1 1)) A U H ∧
  ∀ j, j < 3 → va_T .int (G.2.2.2.2.1 j) (G.2.2.2.2.2.1 j).1 (fun i => .int (Int32.ofInt ((G.2.2.2.2.2.1 j).2 (i : Int)))) A U H
theorem zNw_warm {s U : State} (hW : s.WarmedH U.vm) {w : Cond} (hw : zNwOk w = true) (h : va_Nw w s) : va_Nw w U := by
  cases w <;> first | exact va_Nw.warmF hW h | exact va_Nw.warmM hW h | exact va_Nw.warmC hW h | exact va_Nw.warmD hW h | (cases hw)
theorem zEnv.go {G : zG} {A B : Nat → Prop} {s U : State} {H : Heap} (h : zEnv G A s s.heap) (hq : ∀ a : Nat, a < s.heap.size → ¬ A a → H[a]? = s.heap[a]?) (hAB : ∀ q, B q → A q) (hU : U.heap = H) (hW : s.WarmedH U.vm) : zEnv G B U U.heap := by
  obtain ⟨h1, h2, h3, h4, h5, h6, h7, h8, h9, h10, h11⟩ := h
  have hv := hW.alike
  subst hU
  exact ⟨fun w hw => zNw_warm hW (List.mem_filter.mp hw).2 (h1 w hw), fun q hq => (h2 q hq).moved hv, fun i q hi => vk_R.warm hW (h3 i q hi),
    ((h4.moved hv).kept hq).narrow hAB, ((h5.moved hv).kept hq).narrow hAB, ((h6.moved hv).kept hq).narrow hAB, ((h7.moved hv).kept hq).narrow hAB, ((h8.moved hv).kept hq).narrow hAB, ((h9.moved hv).kept hq).narrow hAB, ((h10.moved hv).kept hq).narrow hAB,
    fun j hj => (((h11 j hj).moved hv).kept hq).narrow hAB⟩
/-- the world behind a method -/
def zWd (G : zG) (A : Nat → Prop) (ad0 : Nat → Nat) (n0 : Nat) (h : zHp) (ad : Nat → Nat) (t : State) : Prop := va_P G.1 vwCl (zW G ad h) t.heap ∧ va_D A (zW G ad h) ∧ ∀ c, c < n0 → ad c = ad0 c
def zQ (G : zG) (A : Nat → Prop) (ad0 : Nat → Nat) (n0 : Nat) (O : zO) : Array Value → State → Outcome → State → Prop := fun _ st oc t =>
  (∃ (v : Option zSV) (ad : Nat → Nat), O.1 = .inl v ∧ oc = .returned (v.map (zc G ad)) ∧ zWd G A ad0 n0 O.2.1 ad t) ∧ va_F A st t
def zX (G : zG) (A : Nat → Prop) (ad0 : Nat → Nat) (n0 : Nat) (O : zO) : String → State → State → Prop := fun E st t =>
  (∃ ad : Nat → Nat, O.1 = .inr E ∧ zWd G A ad0 n0 O.2.1 ad t) ∧ va_F A st t
def zCtx (M : zM) (p : Program) (l : Launch) (R : Room) (s : State) (m : MethodId) (args : Array Value) (meth : Method) (c : Code) : Prop :=
  p.tables.exec = Jvm.exec ∧ c.code = M.2.1 ∧ c.maxLocals = M.2.2.1 ∧ meth.sig.returnType = M.2.2.2.1 ∧ s.vm.findClass M.1.cls = some m.cls ∧ meth.locks = false ∧ (∀ w ∈ zT, w.before args s = true) ∧ c.exceptionTable.toList = tableOf M.2.2.2.2.1 ∧ l.stackTraces = false ∧ M.2.2.2.2.2.1 ≤ R.frames ∧ M.2.2.2.2.2.2 ≤ R.locals ∧ meth.name = M.1.name
/-- from the place pc of the body of M, with these locals, this stack and this heap: the outcome is O -/
def Ev (G : zG) (M : zM) (pc : Nat) (ls st : List zSV) (h : zHp) (O : zO) : Prop :=
  ∀ (p : Program) (l : Launch) (e : Env) (R : Room) (s : State) (m : MethodId) (args : Array Value) (below : List Frame) (meth : Method) (c : Code), zCtx M p l R s m args meth c → ∀ A : Nat → Prop, (∀ q, s.heap.size ≤ q → A q) → zEnv G A s s.heap → va_K G.1 vwCl (zTys G) s →
    ∀ (ad0 : Nat → Nat) (n0 : Nat) (ad : Nat → Nat) (H : Heap) (locs : List Loc) (cells slots : Nat) (la : Array Slot), (∀ c, c < n0 → ad c = ad0 c) → n0 ≤ h.1.length → va_P G.1 vwCl (zW G ad h) H → va_D A (zW G ad h) → va_S A s.heap H locs → lv_has la M.2.2.1 (zL G ad ls) → cells + O.2.2.1 ≤ R.cells → slots + O.2.2.2 ≤ R.slots →
      W p l e R s m args below meth c H locs cells slots (vx_MQ below (zQ G A ad0 n0 O) (zX G A ad0 n0 O) args s R.cells R.slots A) (F0 m pc la (st.map (zc G ad)))
theorem z_toInt {x : Int} (h : -2147483648 ≤ x ∧ x ≤ 2147483647) : (Int32.ofInt x).toInt = x := Int32.toInt_ofInt_of_le (by omega) (by omega)
theorem z_lt {x y : Int} (hx : -2147483648 ≤ x ∧ x ≤ 2147483647) (hy : -2147483648 ≤ y ∧ y ≤ 2147483647) : Int32.ofInt x < Int32.ofInt y ↔ x < y := by rw [Int32.lt_iff_toInt_lt, z_toInt hx, z_toInt hy]
theorem z_le {x y : Int} (hx : -2147483648 ≤ x ∧ x ≤ 2147483647) (hy : -2147483648 ≤ y ∧ y ≤ 2147483647) : Int32.ofInt x ≤ Int32.ofInt y ↔ x ≤ y := by rw [Int32.le_iff_toInt_le, z_toInt hx, z_toInt hy]
theorem z_eq {x y : Int} (hx : -2147483648 ≤ x ∧ x ≤ 2147483647) (hy : -2147483648 ≤ y ∧ y ≤ 2147483647) : Int32.ofInt x = Int32.ofInt y ↔ x = y := by rw [← Int32.toInt_inj, z_toInt hx, z_toInt hy]
theorem z_0 : (0 : Int32) = Int32.ofInt 0 := rfl
theorem z_r0 : -2147483648 ≤ (0 : Int) ∧ (0 : Int) ≤ 2147483647 := by decide
theorem z_clamp {x : Int} (h : 0 ≤ x ∧ x ≤ 2147483647) : (Int32.ofInt x).toNatClampNeg = x.toNat := Int32.toNatClampNeg_ofInt_of_le (by omega) (by omega)
theorem z_in {x : Int} {n : Nat} (h : 0 ≤ x ∧ x < (n : Int)) (hn : n ≤ 2147483647) : vp_in (Int32.ofInt x) n := by
  intro hz
  rcases hz with hz | hz
  · rw [z_0, z_lt ⟨by omega, by omega⟩ z_r0] at hz
    omega
  · rw [z_clamp ⟨h.1, by omega⟩] at hz
    omega
theorem z_shr0 (x : Int32) : x >>> (Int32.ofInt 0 &&& 31) = x := by
  rw [show Int32.ofInt 0 &&& 31 = (0 : Int32) from rfl]
  apply Int32.toBitVec_inj.mp
  rw [Int32.toBitVec_shiftRight]
  simp
theorem Ev.iconst {G : zG} {M : zM} {pc pc9 : Nat} {ls st : List zSV} {h : zHp} {O : zO} {n : Int}
    (hf : zf M pc = some (.iconst n, 1, pc9)) (k : Ev G M pc9 ls ((0, n) :: st) h O) : Ev G M pc ls st h O := by
  intro p l e R s m args below meth cd C A hA hE hK ad0 n0 ad H locs cells slots la ha hn hP hD hS hl hcs hss
  obtain ⟨hd, rfl⟩ := zf_ok hf
  refine lv_iconst (v := Int32.ofInt n) C.1 C.2.1 hd rfl ?_
  exact k p l e R s m args below meth cd C A hA hE hK ad0 n0 ad H locs cells slots la ha hn hP hD hS hl hcs hss
theorem Ev.bipush {G : zG} {M : zM} {pc pc9 : Nat} {ls st : List zSV} {h : zHp} {O : zO} {n : Int}
    (hf : zf M pc = some (.bipush n, 2, pc9)) (hn8 : (Int8.ofInt n).toInt32 = Int32.ofInt n) (k : Ev G M pc9 ls ((0, n) :: st) h O) : Ev G M pc ls st h O := by
  intro p l e R s m args below meth cd C A hA hE hK ad0 n0 ad H locs cells slots la ha hn hP hD hS hl hcs hss
  obtain ⟨hd, rfl⟩ := zf_ok hf
  refine lv_bipush (v := Int32.ofInt n) C.1 C.2.1 hd hn8 ?_
  exact k p l e R s m args below meth cd C A hA hE hK ad0 n0 ad H locs cells slots la ha hn hP hD hS hl hcs hss
theorem Ev.sipush {G : zG} {M : zM} {pc pc9 : Nat} {ls st : List zSV} {h : zHp} {O : zO} {n : Int}
    (hf : zf M pc = some (.sipush n, 3, pc9)) (hn8 : (Int16.ofInt n).toInt32 = Int32.ofInt n) (k : Ev G M pc9 ls ((0, n) :: st) h O) : Ev G M pc ls st h O := by
  intro p l e R s m args below meth cd C A hA hE hK ad0 n0 ad H locs cells slots la ha hn hP hD hS hl hcs hss
  obtain ⟨hd, rfl⟩ := zf_ok hf
  refine lv_sipush (v := Int32.ofInt n) C.1 C.2.1 hd hn8 ?_
  exact k p l e R s m args below meth cd C A hA hE hK ad0 n0 ad H locs cells slots la ha hn hP hD hS hl hcs hss
theorem Ev.iload {G : zG} {M : zM} {pc pc9 : Nat} {ls st : List zSV} {h : zHp} {O : zO} {i : Nat} {x : Int}
    (hf : zf M pc = some (.iload i, 2, pc9)) (hi : ls[i]? = some (0, x)) (k : Ev G M pc9 ls ((0, x) :: st) h O) : Ev G M pc ls st h O := by
  intro p l e R s m args below meth cd C A hA hE hK ad0 n0 ad H locs cells slots la ha hn hP hD hS hl hcs hss
  obtain ⟨hd, rfl⟩ := zf_ok hf
  refine lv_iload C.1 C.2.1 hd (zL_at hl hi (by simp)) ?_
  exact k p l e R s m args below meth cd C A hA hE hK ad0 n0 ad H locs cells slots la ha hn hP hD hS hl hcs hss
theorem Ev.iload_n {G : zG} {M : zM} {pc pc9 : Nat} {ls st : List zSV} {h : zHp} {O : zO} {i : Fin 4} {x : Int}
    (hf : zf M pc = some (.iload_n i, 1, pc9)) (hi : ls[i.val]? = some (0, x)) (k : Ev G M pc9 ls ((0, x) :: st) h O) : Ev G M pc ls st h O := by
  intro p l e R s m args below meth cd C A hA hE hK ad0 n0 ad H locs cells slots la ha hn hP hD hS hl hcs hss
  obtain ⟨hd, rfl⟩ := zf_ok hf
  refine lv_iload_n C.1 C.2.1 hd rfl (zL_at hl hi (by simp)) ?_
  exact k p l e R s m args below meth cd C A hA hE hK ad0 n0 ad H locs cells slots la ha hn hP hD hS hl hcs hss
theorem Ev.aload_1 {G : zG} {M : zM} {pc pc9 : Nat} {ls st : List zSV} {h : zHp} {O : zO} {i : Nat} {x : Int}
    (hf : zf M pc = some (.aload i, 2, pc9)) (hi : ls[i]? = some (1, x)) (k : Ev G M pc9 ls ((1, x) :: st) h O) : Ev G M pc ls st h O := by
  intro p l e R s m args below meth cd C A hA hE hK ad0 n0 ad H locs cells slots la ha hn hP hD hS hl hcs hss
  obtain ⟨hd, rfl⟩ := zf_ok hf
  refine lv_aload C.1 C.2.1 hd (zL_at hl hi (by simp)) ?_
  exact k p l e R s m args below meth cd C A hA hE hK ad0 n0 ad H locs cells slots la ha hn hP hD hS hl hcs hss
theorem Ev.aload_n_1 {G : zG} {M : zM} {pc pc9 : Nat} {ls st : List zSV} {h : zHp} {O : zO} {i : Fin 4} {x : Int}
    (hf : zf M pc = some (.aload_n i, 1, pc9)) (hi : ls[i.val]? = some (1, x)) (k : Ev G M pc9 ls ((1, x) :: st) h O) : Ev G M pc ls st h O := by
  intro p l e R s m args below meth cd C A hA hE hK ad0 n0 ad H locs cells slots la ha hn hP hD hS hl hcs hss
  obtain ⟨hd, rfl⟩ := zf_ok hf
  refine lv_aload_n C.1 C.2.1 hd rfl (zL_at hl hi (by simp)) ?_
  exact k p l e R s m args below meth cd C A hA hE hK ad0 n0 ad H locs cells slots la ha hn hP hD hS hl hcs hss
theorem Ev.astore_1 {G : zG} {M : zM} {pc pc9 : Nat} {ls st : List zSV} {h : zHp} {O : zO} {i : Nat} {x : Int}
    (hf : zf M pc = some (.astore i, 2, pc9)) (hm : Nat.ble (i + 1) M.2.2.1 = true) (hb : zb ls i = true) (k : Ev G M pc9 (ls.set i (1, x)) st h O) : Ev G M pc ls ((1, x) :: st) h O := by
  intro p l e R s m args below meth cd C A hA hE hK ad0 n0 ad H locs cells slots la ha hn hP hD hS hl hcs hss
  obtain ⟨hd, rfl⟩ := zf_ok hf
  refine lv_astore C.1 C.2.1 hd hl (Nat.le_of_ble_eq_true hm) rfl (fun la hl => ?_)
  exact k p l e R s m args below meth cd C A hA hE hK ad0 n0 ad H locs cells slots la ha hn hP hD hS (zL_set (w := (1, x)) hb hl) hcs hss
theorem Ev.astore_n_1 {G : zG} {M : zM} {pc pc9 : Nat} {ls st : List zSV} {h : zHp} {O : zO} {i : Fin 4} {x : Int}
    (hf : zf M pc = some (.astore_n i, 1, pc9)) (hm : Nat.ble (i.val + 1) M.2.2.1 = true) (hb : zb ls i.val = true) (k : Ev G M pc9 (ls.set i.val (1, x)) st h O) : Ev G M pc ls ((1, x) :: st) h O := by
  intro p l e R s m args below meth cd C A hA hE hK ad0 n0 ad H locs cells slots la ha hn hP hD hS hl hcs hss
  obtain ⟨hd, rfl⟩ := zf_ok hf
  refine lv_astore_n C.1 C.2.1 hd rfl hl (Nat.le_of_ble_eq_true hm) rfl (fun la hl => ?_)
  exact k p l e R s m args below meth cd C A hA hE hK ad0 n0 ad H locs cells slots la ha hn hP hD hS (zL_set (w := (1, x)) hb hl) hcs hss
theorem Ev.aload_2 {G : zG} {M : zM} {pc pc9 : Nat} {ls st : List zSV} {h : zHp} {O : zO} {i : Nat} {x : Int}
    (hf : zf M pc = some (.aload i, 2, pc9)) (hi : ls[i]? = some (2, x)) (k : Ev G M pc9 ls ((2, x) :: st) h O) : Ev G M pc ls st h O := by
  intro p l e R s m args below meth cd C A hA hE hK ad0 n0 ad H locs cells slots la ha hn hP hD hS hl hcs hss
  obtain ⟨hd, rfl⟩ := zf_ok hf
  refine lv_aload C.1 C.2.1 hd (zL_at hl hi (by simp)) ?_
  exact k p l e R s m args below meth cd C A hA hE hK ad0 n0 ad H locs cells slots la ha hn hP hD hS hl hcs hss
theorem Ev.aload_n_2 {G : zG} {M : zM} {pc pc9 : Nat} {ls st : List zSV} {h : zHp} {O : zO} {i : Fin 4} {x : Int}
    (hf : zf M pc = some (.aload_n i, 1, pc9)) (hi : ls[i.val]? = some (2, x)) (k : Ev G M pc9 ls ((2, x) :: st) h O) : Ev G M pc ls st h O := by
  intro p l e R s m args below meth cd C A hA hE hK ad0 n0 ad H locs cells slots la ha hn hP hD hS hl hcs hss
  obtain ⟨hd, rfl⟩ := zf_ok hf
  refine lv_aload_n C.1 C.2.1 hd rfl (zL_at hl hi (by simp)) ?_
  exact k p l e R s m args below meth cd C A hA hE hK ad0 n0 ad H locs cells slots la ha hn hP hD hS hl hcs hss
theorem Ev.astore_2 {G : zG} {M : zM} {pc pc9 : Nat} {ls st : List zSV} {h : zHp} {O : zO} {i : Nat} {x : Int}
    (hf : zf M pc = some (.astore i, 2, pc9)) (hm : Nat.ble (i + 1) M.2.2.1 = true) (hb : zb ls i = true) (k : Ev G M pc9 (ls.set i (2, x)) st h O) : Ev G M pc ls ((2, x) :: st) h O := by
  intro p l e R s m args below meth cd C A hA hE hK ad0 n0 ad H locs cells slots la ha hn hP hD hS hl hcs hss
  obtain ⟨hd, rfl⟩ := zf_ok hf
  refine lv_astore C.1 C.2.1 hd hl (Nat.le_of_ble_eq_true hm) rfl (fun la hl => ?_)
  exact k p l e R s m args below meth cd C A hA hE hK ad0 n0 ad H locs cells slots la ha hn hP hD hS (zL_set (w := (2, x)) hb hl) hcs hss
theorem Ev.astore_n_2 {G : zG} {M : zM} {pc pc9 : Nat} {ls st : List zSV} {h : zHp} {O : zO} {i : Fin 4} {x : Int}
    (hf : zf M pc = some (.astore_n i, 1, pc9)) (hm : Nat.ble (i.val + 1) M.2.2.1 = true) (hb : zb ls i.val = true) (k : Ev G M pc9 (ls.set i.val (2, x)) st h O) : Ev G M pc ls ((2, x) :: st) h O := by
  intro p l e R s m args below meth cd C A hA hE hK ad0 n0 ad H locs cells slots la ha hn hP hD hS hl hcs hss
  obtain ⟨hd, rfl⟩ := zf_ok hf
  refine lv_astore_n C.1 C.2.1 hd rfl hl (Nat.le_of_ble_eq_true hm) rfl (fun la hl => ?_)
  exact k p l e R s m args below meth cd C A hA hE hK ad0 n0 ad H locs cells slots la ha hn hP hD hS (zL_set (w := (2, x)) hb hl) hcs hss
theorem Ev.aload_3 {G : zG} {M : zM} {pc pc9 : Nat} {ls st : List zSV} {h : zHp} {O : zO} {i : Nat} {x : Int}
    (hf : zf M pc = some (.aload i, 2, pc9)) (hi : ls[i]? = some (3, x)) (k : Ev G M pc9 ls ((3, x) :: st) h O) : Ev G M pc ls st h O := by
  intro p l e R s m args below meth cd C A hA hE hK ad0 n0 ad H locs cells slots la ha hn hP hD hS hl hcs hss
  obtain ⟨hd, rfl⟩ := zf_ok hf
  refine lv_aload C.1 C.2.1 hd (zL_at hl hi (by simp)) ?_
  exact k p l e R s m args below meth cd C A hA hE hK ad0 n0 ad H locs cells slots la ha hn hP hD hS hl hcs hss
theorem Ev.aload_n_3 {G : zG} {M : zM} {pc pc9 : Nat} {ls st : List zSV} {h : zHp} {O : zO} {i : Fin 4} {x : Int}
    (hf : zf M pc = some (.aload_n i, 1, pc9)) (hi : ls[i.val]? = some (3, x)) (k : Ev G M pc9 ls ((3, x) :: st) h O) : Ev G M pc ls st h O := by
  intro p l e R s m args below meth cd C A hA hE hK ad0 n0 ad H locs cells slots la ha hn hP hD hS hl hcs hss
  obtain ⟨hd, rfl⟩ := zf_ok hf
  refine lv_aload_n C.1 C.2.1 hd rfl (zL_at hl hi (by simp)) ?_
  exact k p l e R s m args below meth cd C A hA hE hK ad0 n0 ad H locs cells slots la ha hn hP hD hS hl hcs hss
theorem Ev.astore_3 {G : zG} {M : zM} {pc pc9 : Nat} {ls st : List zSV} {h : zHp} {O : zO} {i : Nat} {x : Int}
    (hf : zf M pc = some (.astore i, 2, pc9)) (hm : Nat.ble (i + 1) M.2.2.1 = true) (hb : zb ls i = true) (k : Ev G M pc9 (ls.set i (3, x)) st h O) : Ev G M pc ls ((3, x) :: st) h O := by
  intro p l e R s m args below meth cd C A hA hE hK ad0 n0 ad H locs cells slots la ha hn hP hD hS hl hcs hss
  obtain ⟨hd, rfl⟩ := zf_ok hf
  refine lv_astore C.1 C.2.1 hd hl (Nat.le_of_ble_eq_true hm) rfl (fun la hl => ?_)
  exact k p l e R s m args below meth cd C A hA hE hK ad0 n0 ad H locs cells slots la ha hn hP hD hS (zL_set (w := (3, x)) hb hl) hcs hss
theorem Ev.astore_n_3 {G : zG} {M : zM} {pc pc9 : Nat} {ls st : List zSV} {h : zHp} {O : zO} {i : Fin 4} {x : Int}
    (hf : zf M pc = some (.astore_n i, 1, pc9)) (hm : Nat.ble (i.val + 1) M.2.2.1 = true) (hb : zb ls i.val = true) (k : Ev G M pc9 (ls.set i.val (3, x)) st h O) : Ev G M pc ls ((3, x) :: st) h O := by
  intro p l e R s m args below meth cd C A hA hE hK ad0 n0 ad H locs cells slots la ha hn hP hD hS hl hcs hss
  obtain ⟨hd, rfl⟩ := zf_ok hf
  refine lv_astore_n C.1 C.2.1 hd rfl hl (Nat.le_of_ble_eq_true hm) rfl (fun la hl => ?_)
  exact k p l e R s m args below meth cd C A hA hE hK ad0 n0 ad H locs cells slots la ha hn hP hD hS (zL_set (w := (3, x)) hb hl) hcs hss
theorem Ev.aload_7 {G : zG} {M : zM} {pc pc9 : Nat} {ls st : List zSV} {h : zHp} {O : zO} {i : Nat} {x : Int}
    (hf : zf M pc = some (.aload i, 2, pc9)) (hi : ls[i]? = some (7, x)) (k : Ev G M pc9 ls ((7, x) :: st) h O) : Ev G M pc ls st h O := by
  intro p l e R s m args below meth cd C A hA hE hK ad0 n0 ad H locs cells slots la ha hn hP hD hS hl hcs hss
  obtain ⟨hd, rfl⟩ := zf_ok hf
  refine lv_aload C.1 C.2.1 hd (zL_at hl hi (by simp)) ?_
  exact k p l e R s m args below meth cd C A hA hE hK ad0 n0 ad H locs cells slots la ha hn hP hD hS hl hcs hss
theorem Ev.aload_n_7 {G : zG} {M : zM} {pc pc9 : Nat} {ls st : List zSV} {h : zHp} {O : zO} {i : Fin 4} {x : Int}
    (hf : zf M pc = some (.aload_n i, 1, pc9)) (hi : ls[i.val]? = some (7, x)) (k : Ev G M pc9 ls ((7, x) :: st) h O) : Ev G M pc ls st h O := by
  intro p l e R s m args below meth cd C A hA hE hK ad0 n0 ad H locs cells slots la ha hn hP hD hS hl hcs hss
  obtain ⟨hd, rfl⟩ := zf_ok hf
  refine lv_aload_n C.1 C.2.1 hd rfl (zL_at hl hi (by simp)) ?_
  exact k p l e R s m args below meth cd C A hA hE hK ad0 n0 ad H locs cells slots la ha hn hP hD hS hl hcs hss
theorem Ev.astore_7 {G : zG} {M : zM} {pc pc9 : Nat} {ls st : List zSV} {h : zHp} {O : zO} {i : Nat} {x : Int}
    (hf : zf M pc = some (.astore i, 2, pc9)) (hm : Nat.ble (i + 1) M.2.2.1 = true) (hb : zb ls i = true) (k : Ev G M pc9 (ls.set i (7, x)) st h O) : Ev G M pc ls ((7, x) :: st) h O := by
  intro p l e R s m args below meth cd C A hA hE hK ad0 n0 ad H locs cells slots la ha hn hP hD hS hl hcs hss
  obtain ⟨hd, rfl⟩ := zf_ok hf
  refine lv_astore C.1 C.2.1 hd hl (Nat.le_of_ble_eq_true hm) rfl (fun la hl => ?_)
  exact k p l e R s m args below meth cd C A hA hE hK ad0 n0 ad H locs cells slots la ha hn hP hD hS (zL_set (w := (7, x)) hb hl) hcs hss
theorem Ev.astore_n_7 {G : zG} {M : zM} {pc pc9 : Nat} {ls st : List zSV} {h : zHp} {O : zO} {i : Fin 4} {x : Int}
    (hf : zf M pc = some (.astore_n i, 1, pc9)) (hm : Nat.ble (i.val + 1) M.2.2.1 = true) (hb : zb ls i.val = true) (k : Ev G M pc9 (ls.set i.val (7, x)) st h O) : Ev G M pc ls ((7, x) :: st) h O := by
  intro p l e R s m args below meth cd C A hA hE hK ad0 n0 ad H locs cells slots la ha hn hP hD hS hl hcs hss
  obtain ⟨hd, rfl⟩ := zf_ok hf
  refine lv_astore_n C.1 C.2.1 hd rfl hl (Nat.le_of_ble_eq_true hm) rfl (fun la hl => ?_)
  exact k p l e R s m args below meth cd C A hA hE hK ad0 n0 ad H locs cells slots la ha hn hP hD hS (zL_set (w := (7, x)) hb hl) hcs hss
theorem Ev.dload {G : zG} {M : zM} {pc pc9 : Nat} {ls st : List zSV} {h : zHp} {O : zO} {i : Nat} {x : Int}
    (hf : zf M pc = some (.dload i, 2, pc9)) (hi : ls[i]? = some (5, x)) (k : Ev G M pc9 ls ((5, x) :: st) h O) : Ev G M pc ls st h O := by
  intro p l e R s m args below meth cd C A hA hE hK ad0 n0 ad H locs cells slots la ha hn hP hD hS hl hcs hss
  obtain ⟨hd, rfl⟩ := zf_ok hf
  refine lv_dload C.1 C.2.1 hd (zL_at hl hi (by simp)) ?_
  exact k p l e R s m args below meth cd C A hA hE hK ad0 n0 ad H locs cells slots la ha hn hP hD hS hl hcs hss
theorem Ev.istore {G : zG} {M : zM} {pc pc9 : Nat} {ls st : List zSV} {h : zHp} {O : zO} {i : Nat} {x : Int}
    (hf : zf M pc = some (.istore i, 2, pc9)) (hm : Nat.ble (i + 1) M.2.2.1 = true) (hb : zb ls i = true) (k : Ev G M pc9 (ls.set i (0, x)) st h O) : Ev G M pc ls ((0, x) :: st) h O := by
  intro p l e R s m args below meth cd C A hA hE hK ad0 n0 ad H locs cells slots la ha hn hP hD hS hl hcs hss
  obtain ⟨hd, rfl⟩ := zf_ok hf
  refine lv_istore C.1 C.2.1 hd hl (Nat.le_of_ble_eq_true hm) rfl (fun la hl => ?_)
  exact k p l e R s m args below meth cd C A hA hE hK ad0 n0 ad H locs cells slots la ha hn hP hD hS (zL_set (w := (0, x)) hb hl) hcs hss
theorem Ev.istore_n {G : zG} {M : zM} {pc pc9 : Nat} {ls st : List zSV} {h : zHp} {O : zO} {i : Fin 4} {x : Int}
    (hf : zf M pc = some (.istore_n i, 1, pc9)) (hm : Nat.ble (i.val + 1) M.2.2.1 = true) (hb : zb ls i.val = true) (k : Ev G M pc9 (ls.set i.val (0, x)) st h O) : Ev G M pc ls ((0, x) :: st) h O := by
  intro p l e R s m args below meth cd C A hA hE hK ad0 n0 ad H locs cells slots la ha hn hP hD hS hl hcs hss
  obtain ⟨hd, rfl⟩ := zf_ok hf
  refine lv_istore_n C.1 C.2.1 hd rfl hl (Nat.le_of_ble_eq_true hm) rfl (fun la hl => ?_)
  exact k p l e R s m args below meth cd C A hA hE hK ad0 n0 ad H locs cells slots la ha hn hP hD hS (zL_set (w := (0, x)) hb hl) hcs hss
theorem Ev.dstore {G : zG} {M : zM} {pc pc9 : Nat} {ls st : List zSV} {h : zHp} {O : zO} {i : Nat} {x : Int}
    (hf : zf M pc = some (.dstore i, 2, pc9)) (hm : Nat.ble (i + 2) M.2.2.1 = true) (hb : zb ls i = true) (k : Ev G M pc9 ((ls.set i (5, x)).set (i + 1) (9, 0)) st h O) : Ev G M pc ls ((5, x) :: st) h O := by
  intro p l e R s m args below meth cd C A hA hE hK ad0 n0 ad H locs cells slots la ha hn hP hD hS hl hcs hss
  obtain ⟨hd, rfl⟩ := zf_ok hf
  refine lv_dstore C.1 C.2.1 hd hl (Nat.le_of_ble_eq_true hm) rfl (fun la hl => ?_)
  refine k p l e R s m args below meth cd C A hA hE hK ad0 n0 ad H locs cells slots la ha hn hP hD hS ?_ hcs hss
  refine lv_less hl fun q hq => ?_
  obtain ⟨w', h1, h2, h3⟩ := zL_mem.mp hq
  by_cases hqj : q.1 = i + 1
  · have hlt : i + 1 < ls.length := by
      have := (List.getElem?_eq_some_iff.mp h1).1
      rw [List.length_set, List.length_set] at this
      omega
    rw [hqj, List.getElem?_set_self (by rw [List.length_set]; exact hlt)] at h1
    cases h1
    exact absurd rfl h2
  · rw [List.getElem?_set_ne (Ne.symm hqj)] at h1
    by_cases hqi : q.1 = i
    · have hlt : i < ls.length := by
        have := (List.getElem?_eq_some_iff.mp h1).1
        rw [List.length_set] at this
        omega
      rw [hqi, List.getElem?_set_self hlt] at h1
      cases h1
      refine List.mem_cons.mpr (Or.inl ?_)
      rw [← hqi, show Value.double (UInt64.ofNat x.toNat) = zc G ad (5, x) from rfl, ← h3]
    · rw [List.getElem?_set_ne (Ne.symm hqi)] at h1
      refine List.mem_cons.mpr (Or.inr (List.mem_filter.mpr ⟨zL_mem.mpr ⟨w', h1, h2, h3⟩, ?_⟩))
      have h5 : q.1 + 1 = i → ¬ q.2.category = 2 := fun e => by rw [h3]; exact zb_ok hb h1 e
      by_cases e9 : q.1 + 1 = i
      · simp [hqi, hqj, h5 e9]
      · simp [hqi, hqj, e9]
theorem Ev.iinc {G : zG} {M : zM} {pc pc9 : Nat} {ls st : List zSV} {h : zHp} {O : zO} {i : Nat} {x n : Int}
    (hf : zf M pc = some (.iinc i n, 3, pc9)) (hi : ls[i]? = some (0, x)) (hm : Nat.ble (i + 1) M.2.2.1 = true) (hb : zb ls i = true) (k : Ev G M pc9 (ls.set i (0, x + n)) st h O) : Ev G M pc ls st h O := by
  intro p l e R s m args below meth cd C A hA hE hK ad0 n0 ad H locs cells slots la ha hn hP hD hS hl hcs hss
  obtain ⟨hd, rfl⟩ := zf_ok hf
  obtain ⟨j, hj⟩ := List.getElem?_of_mem (zL_mem (G := G) (ad := ad) (q := (i, zc G ad (0, x))) |>.mpr ⟨(0, x), hi, by simp, rfl⟩)
  refine lv_iinc (k := j) (x := Int32.ofInt x) (v := Int32.ofInt (x + n)) C.1 C.2.1 hd hl hj (Int32.ofInt_add x n).symm (Nat.le_of_ble_eq_true hm) rfl (fun la hl => ?_)
  exact k p l e R s m args below meth cd C A hA hE hK ad0 n0 ad H locs cells slots la ha hn hP hD hS (zL_set (w := (0, x + n)) hb hl) hcs hss
theorem Ev.iadd {G : zG} {M : zM} {pc pc9 : Nat} {ls st : List zSV} {h : zHp} {O : zO} {x y : Int}
    (hf : zf M pc = some (.iadd, 1, pc9)) (k : Ev G M pc9 ls ((0, x + y) :: st) h O) : Ev G M pc ls ((0, y) :: (0, x) :: st) h O := by
  intro p l e R s m args below meth cd C A hA hE hK ad0 n0 ad H locs cells slots la ha hn hP hD hS hl hcs hss
  obtain ⟨hd, rfl⟩ := zf_ok hf
  refine lv_iadd (x := Int32.ofInt x) (y := Int32.ofInt y) C.1 C.2.1 hd ?_
  rw [← Int32.ofInt_add]
  exact k p l e R s m args below meth cd C A hA hE hK ad0 n0 ad H locs cells slots la ha hn hP hD hS hl hcs hss
theorem Ev.isub {G : zG} {M : zM} {pc pc9 : Nat} {ls st : List zSV} {h : zHp} {O : zO} {x y : Int}
    (hf : zf M pc = some (.isub, 1, pc9)) (k : Ev G M pc9 ls ((0, x - y) :: st) h O) : Ev G M pc ls ((0, y) :: (0, x) :: st) h O := by
  intro p l e R s m args below meth cd C A hA hE hK ad0 n0 ad H locs cells slots la ha hn hP hD hS hl hcs hss
  obtain ⟨hd, rfl⟩ := zf_ok hf
  refine lv_isub (x := Int32.ofInt x) (y := Int32.ofInt y) C.1 C.2.1 hd ?_
  rw [← Int32.ofInt_sub]
  exact k p l e R s m args below meth cd C A hA hE hK ad0 n0 ad H locs cells slots la ha hn hP hD hS hl hcs hss
theorem Ev.imul {G : zG} {M : zM} {pc pc9 : Nat} {ls st : List zSV} {h : zHp} {O : zO} {x y : Int}
    (hf : zf M pc = some (.imul, 1, pc9)) (k : Ev G M pc9 ls ((0, x * y) :: st) h O) : Ev G M pc ls ((0, y) :: (0, x) :: st) h O := by
  intro p l e R s m args below meth cd C A hA hE hK ad0 n0 ad H locs cells slots la ha hn hP hD hS hl hcs hss
  obtain ⟨hd, rfl⟩ := zf_ok hf
  refine lv_imul (x := Int32.ofInt x) (y := Int32.ofInt y) C.1 C.2.1 hd ?_
  rw [← Int32.ofInt_mul]
  exact k p l e R s m args below meth cd C A hA hE hK ad0 n0 ad H locs cells slots la ha hn hP hD hS hl hcs hss
theorem z_div {x y : Int} (hx : 0 ≤ x ∧ x ≤ 2147483647) (hy : 0 < y ∧ y ≤ 2147483647) : Int32.ofInt x / Int32.ofInt y = Int32.ofInt (x / y) := by
  have hmn : Int32.minValue.toInt = -2147483648 := rfl
  have hmx : Int32.maxValue.toInt = 2147483647 := rfl
  rw [← Int32.ofInt_tdiv (a := x) (b := y) (by omega) (by omega) (by omega) (by omega), show x.tdiv y = x / y from Int.tdiv_eq_ediv_of_nonneg hx.1]
theorem z_ne0 {y : Int} (hy : 0 < y ∧ y ≤ 2147483647) : ¬ Int32.ofInt y = 0 := by
  rw [z_0, z_eq ⟨by omega, by omega⟩ z_r0]
  omega
theorem z_rem {x y : Int} (hx : 0 ≤ x ∧ x ≤ 2147483647) (hy : 0 < y ∧ y ≤ 2147483647) : Int32.ofInt x - Int32.ofInt x / Int32.ofInt y * Int32.ofInt y = Int32.ofInt (x % y) := by
  rw [z_div hx hy, ← Int32.ofInt_mul, ← Int32.ofInt_sub, Int.emod_def, Int.mul_comm y]
theorem Ev.idiv {G : zG} {M : zM} {pc pc9 : Nat} {ls st : List zSV} {h : zHp} {O : zO} {x y : Int}
    (hf : zf M pc = some (.idiv, 1, pc9)) (hx : 0 ≤ x ∧ x ≤ 2147483647) (hy : 0 < y ∧ y ≤ 2147483647) (k : Ev G M pc9 ls ((0, x / y) :: st) h O) : Ev G M pc ls ((0, y) :: (0, x) :: st) h O := by
  intro p l e R s m args below meth cd C A hA hE hK ad0 n0 ad H locs cells slots la ha hn hP hD hS hl hcs hss
  obtain ⟨hd, rfl⟩ := zf_ok hf
  refine lv_idiv (x := Int32.ofInt x) (y := Int32.ofInt y) C.1 C.2.1 hd (z_ne0 hy) ?_
  rw [z_div hx hy]
  exact k p l e R s m args below meth cd C A hA hE hK ad0 n0 ad H locs cells slots la ha hn hP hD hS hl hcs hss
theorem Ev.irem {G : zG} {M : zM} {pc pc9 : Nat} {ls st : List zSV} {h : zHp} {O : zO} {x y : Int}
    (hf : zf M pc = some (.irem, 1, pc9)) (hx : 0 ≤ x ∧ x ≤ 2147483647) (hy : 0 < y ∧ y ≤ 2147483647) (k : Ev G M pc9 ls ((0, x % y) :: st) h O) : Ev G M pc ls ((0, y) :: (0, x) :: st) h O := by
  intro p l e R s m args below meth cd C A hA hE hK ad0 n0 ad H locs cells slots la ha hn hP hD hS hl hcs hss
  obtain ⟨hd, rfl⟩ := zf_ok hf
  refine lv_irem (x := Int32.ofInt x) (y := Int32.ofInt y) C.1 C.2.1 hd (z_ne0 hy) ?_
  rw [z_rem hx hy]
  exact k p l e R s m args below meth cd C A hA hE hK ad0 n0 ad H locs cells slots la ha hn hP hD hS hl hcs hss
theorem Ev.icmp_eq {G : zG} {M : zM} {pc pc9 : Nat} {ls st : List zSV} {h : zHp} {O : zO} {off x y : Int} {tgt : Nat}
    (hf : zf M pc = some (.if_icmp .eq off, 3, pc9)) (ht : (pc : Int) + off = (tgt : Int)) (hx : -2147483648 ≤ x ∧ x ≤ 2147483647) (hy : -2147483648 ≤ y ∧ y ≤ 2147483647) (kt : x = y → Ev G M tgt ls st h O) (kf : ¬ x = y → Ev G M pc9 ls st h O) : Ev G M pc ls ((0, y) :: (0, x) :: st) h O := by
  intro p l e R s m args below meth cd C A hA hE hK ad0 n0 ad H locs cells slots la ha hn hP hD hS hl hcs hss
  obtain ⟨hd, rfl⟩ := zf_ok hf
  refine lv_icmp_eq (x := Int32.ofInt x) (y := Int32.ofInt y) C.1 C.2.1 hd ht (fun z => ?_) (fun z => ?_)
  · exact (kt ((z_eq hx hy).mp z)) p l e R s m args below meth cd C A hA hE hK ad0 n0 ad H locs cells slots la ha hn hP hD hS hl hcs hss
  · exact (kf (fun q => z ((z_eq hx hy).mpr q))) p l e R s m args below meth cd C A hA hE hK ad0 n0 ad H locs cells slots la ha hn hP hD hS hl hcs hss
theorem Ev.icmp_ne {G : zG} {M : zM} {pc pc9 : Nat} {ls st : List zSV} {h : zHp} {O : zO} {off x y : Int} {tgt : Nat}
    (hf : zf M pc = some (.if_icmp .ne off, 3, pc9)) (ht : (pc : Int) + off = (tgt : Int)) (hx : -2147483648 ≤ x ∧ x ≤ 2147483647) (hy : -2147483648 ≤ y ∧ y ≤ 2147483647) (kt : ¬ x = y → Ev G M tgt ls st h O) (kf : x = y → Ev G M pc9 ls st h O) : Ev G M pc ls ((0, y) :: (0, x) :: st) h O := by
  intro p l e R s m args below meth cd C A hA hE hK ad0 n0 ad H locs cells slots la ha hn hP hD hS hl hcs hss
  obtain ⟨hd, rfl⟩ := zf_ok hf
  refine lv_icmp_ne (x := Int32.ofInt x) (y := Int32.ofInt y) C.1 C.2.1 hd ht (fun z => ?_) (fun z => ?_)
  · exact (kt (fun q => z ((z_eq hx hy).mpr q))) p l e R s m args below meth cd C A hA hE hK ad0 n0 ad H locs cells slots la ha hn hP hD hS hl hcs hss
  · exact (kf ((z_eq hx hy).mp z)) p l e R s m args below meth cd C A hA hE hK ad0 n0 ad H locs cells slots la ha hn hP hD hS hl hcs hss
theorem Ev.icmp_lt {G : zG} {M : zM} {pc pc9 : Nat} {ls st : List zSV} {h : zHp} {O : zO} {off x y : Int} {tgt : Nat}
    (hf : zf M pc = some (.if_icmp .lt off, 3, pc9)) (ht : (pc : Int) + off = (tgt : Int)) (hx : -2147483648 ≤ x ∧ x ≤ 2147483647) (hy : -2147483648 ≤ y ∧ y ≤ 2147483647) (kt : x < y → Ev G M tgt ls st h O) (kf : ¬ x < y → Ev G M pc9 ls st h O) : Ev G M pc ls ((0, y) :: (0, x) :: st) h O := by
  intro p l e R s m args below meth cd C A hA hE hK ad0 n0 ad H locs cells slots la ha hn hP hD hS hl hcs hss
  obtain ⟨hd, rfl⟩ := zf_ok hf
  refine lv_icmp_lt (x := Int32.ofInt x) (y := Int32.ofInt y) C.1 C.2.1 hd ht (fun z => ?_) (fun z => ?_)
  · exact (kt ((z_lt hx hy).mp z)) p l e R s m args below meth cd C A hA hE hK ad0 n0 ad H locs cells slots la ha hn hP hD hS hl hcs hss
  · exact (kf (fun q => z ((z_lt hx hy).mpr q))) p l e R s m args below meth cd C A hA hE hK ad0 n0 ad H locs cells slots la ha hn hP hD hS hl hcs hss
theorem Ev.icmp_ge {G : zG} {M : zM} {pc pc9 : Nat} {ls st : List zSV} {h : zHp} {O : zO} {off x y : Int} {tgt : Nat}
    (hf : zf M pc = some (.if_icmp .ge off, 3, pc9)) (ht : (pc : Int) + off = (tgt : Int)) (hx : -2147483648 ≤ x ∧ x ≤ 2147483647) (hy : -2147483648 ≤ y ∧ y ≤ 2147483647) (kt : y ≤ x → Ev G M tgt ls st h O) (kf : ¬ y ≤ x → Ev G M pc9 ls st h O) : Ev G M pc ls ((0, y) :: (0, x) :: st) h O := by
  intro p l e R s m args below meth cd C A hA hE hK ad0 n0 ad H locs cells slots la ha hn hP hD hS hl hcs hss
  obtain ⟨hd, rfl⟩ := zf_ok hf
  refine lv_icmp_ge (x := Int32.ofInt x) (y := Int32.ofInt y) C.1 C.2.1 hd ht (fun z => ?_) (fun z => ?_)
  · exact (kt ((z_le hy hx).mp z)) p l e R s m args below meth cd C A hA hE hK ad0 n0 ad H locs cells slots la ha hn hP hD hS hl hcs hss
  · exact (kf (fun q => z ((z_le hy hx).mpr q))) p l e R s m args below meth cd C A hA hE hK ad0 n0 ad H locs cells slots la ha hn hP hD hS hl hcs hss
theorem Ev.icmp_gt {G : zG} {M : zM} {pc pc9 : Nat} {ls st : List zSV} {h : zHp} {O : zO} {off x y : Int} {tgt : Nat}
    (hf : zf M pc = some (.if_icmp .gt off, 3, pc9)) (ht : (pc : Int) + off = (tgt : Int)) (hx : -2147483648 ≤ x ∧ x ≤ 2147483647) (hy : -2147483648 ≤ y ∧ y ≤ 2147483647) (kt : y < x → Ev G M tgt ls st h O) (kf : ¬ y < x → Ev G M pc9 ls st h O) : Ev G M pc ls ((0, y) :: (0, x) :: st) h O := by
  intro p l e R s m args below meth cd C A hA hE hK ad0 n0 ad H locs cells slots la ha hn hP hD hS hl hcs hss
  obtain ⟨hd, rfl⟩ := zf_ok hf
  refine lv_icmp_gt (x := Int32.ofInt x) (y := Int32.ofInt y) C.1 C.2.1 hd ht (fun z => ?_) (fun z => ?_)
  · exact (kt ((z_lt hy hx).mp z)) p l e R s m args below meth cd C A hA hE hK ad0 n0 ad H locs cells slots la ha hn hP hD hS hl hcs hss
  · exact (kf (fun q => z ((z_lt hy hx).mpr q))) p l e R s m args below meth cd C A hA hE hK ad0 n0 ad H locs cells slots la ha hn hP hD hS hl hcs hss
theorem Ev.icmp_le {G : zG} {M : zM} {pc pc9 : Nat} {ls st : List zSV} {h : zHp} {O : zO} {off x y : Int} {tgt : Nat}
    (hf : zf M pc = some (.if_icmp .le off, 3, pc9)) (ht : (pc : Int) + off = (tgt : Int)) (hx : -2147483648 ≤ x ∧ x ≤ 2147483647) (hy : -2147483648 ≤ y ∧ y ≤ 2147483647) (kt : x ≤ y → Ev G M tgt ls st h O) (kf : ¬ x ≤ y → Ev G M pc9 ls st h O) : Ev G M pc ls ((0, y) :: (0, x) :: st) h O := by
  intro p l e R s m args below meth cd C A hA hE hK ad0 n0 ad H locs cells slots la ha hn hP hD hS hl hcs hss
  obtain ⟨hd, rfl⟩ := zf_ok hf
  refine lv_icmp_le (x := Int32.ofInt x) (y := Int32.ofInt y) C.1 C.2.1 hd ht (fun z => ?_) (fun z => ?_)
  · exact (kt ((z_le hx hy).mp z)) p l e R s m args below meth cd C A hA hE hK ad0 n0 ad H locs cells slots la ha hn hP hD hS hl hcs hss
  · exact (kf (fun q => z ((z_le hx hy).mpr q))) p l e R s m args below meth cd C A hA hE hK ad0 n0 ad H locs cells slots la ha hn hP hD hS hl hcs hss
theorem Ev.if_eq {G : zG} {M : zM} {pc pc9 : Nat} {ls st : List zSV} {h : zHp} {O : zO} {off x : Int} {tgt : Nat}
    (hf : zf M pc = some (.ifCond .eq off, 3, pc9)) (ht : (pc : Int) + off = (tgt : Int)) (hx : -2147483648 ≤ x ∧ x ≤ 2147483647) (kt : x = 0 → Ev G M tgt ls st h O) (kf : ¬ x = 0 → Ev G M pc9 ls st h O) : Ev G M pc ls ((0, x) :: st) h O := by
  intro p l e R s m args below meth cd C A hA hE hK ad0 n0 ad H locs cells slots la ha hn hP hD hS hl hcs hss
  obtain ⟨hd, rfl⟩ := zf_ok hf
  refine lv_if_eq (x := Int32.ofInt x) C.1 C.2.1 hd ht (fun z => ?_) (fun z => ?_)
  · exact (kt ((z_eq hx z_r0).mp z)) p l e R s m args below meth cd C A hA hE hK ad0 n0 ad H locs cells slots la ha hn hP hD hS hl hcs hss
  · exact (kf (fun q => z ((z_eq hx z_r0).mpr q))) p l e R s m args below meth cd C A hA hE hK ad0 n0 ad H locs cells slots la ha hn hP hD hS hl hcs hss
theorem Ev.if_ne {G : zG} {M : zM} {pc pc9 : Nat} {ls st : List zSV} {h : zHp} {O : zO} {off x : Int} {tgt : Nat}
    (hf : zf M pc = some (.ifCond .ne off, 3, pc9)) (ht : (pc : Int) + off = (tgt : Int)) (hx : -2147483648 ≤ x ∧ x ≤ 2147483647) (kt : ¬ x = 0 → Ev G M tgt ls st h O) (kf : x = 0 → Ev G M pc9 ls st h O) : Ev G M pc ls ((0, x) :: st) h O := by
  intro p l e R s m args below meth cd C A hA hE hK ad0 n0 ad H locs cells slots la ha hn hP hD hS hl hcs hss
  obtain ⟨hd, rfl⟩ := zf_ok hf
  refine lv_if_ne (x := Int32.ofInt x) C.1 C.2.1 hd ht (fun z => ?_) (fun z => ?_)
  · exact (kt (fun q => z ((z_eq hx z_r0).mpr q))) p l e R s m args below meth cd C A hA hE hK ad0 n0 ad H locs cells slots la ha hn hP hD hS hl hcs hss
  · exact (kf ((z_eq hx z_r0).mp z)) p l e R s m args below meth cd C A hA hE hK ad0 n0 ad H locs cells slots la ha hn hP hD hS hl hcs hss
theorem Ev.if_lt {G : zG} {M : zM} {pc pc9 : Nat} {ls st : List zSV} {h : zHp} {O : zO} {off x : Int} {tgt : Nat}
    (hf : zf M pc = some (.ifCond .lt off, 3, pc9)) (ht : (pc : Int) + off = (tgt : Int)) (hx : -2147483648 ≤ x ∧ x ≤ 2147483647) (kt : x < 0 → Ev G M tgt ls st h O) (kf : ¬ x < 0 → Ev G M pc9 ls st h O) : Ev G M pc ls ((0, x) :: st) h O := by
  intro p l e R s m args below meth cd C A hA hE hK ad0 n0 ad H locs cells slots la ha hn hP hD hS hl hcs hss
  obtain ⟨hd, rfl⟩ := zf_ok hf
  refine lv_if_lt (x := Int32.ofInt x) C.1 C.2.1 hd ht (fun z => ?_) (fun z => ?_)
  · exact (kt ((z_lt hx z_r0).mp z)) p l e R s m args below meth cd C A hA hE hK ad0 n0 ad H locs cells slots la ha hn hP hD hS hl hcs hss
  · exact (kf (fun q => z ((z_lt hx z_r0).mpr q))) p l e R s m args below meth cd C A hA hE hK ad0 n0 ad H locs cells slots la ha hn hP hD hS hl hcs hss
theorem Ev.if_ge {G : zG} {M : zM} {pc pc9 : Nat} {ls st : List zSV} {h : zHp} {O : zO} {off x : Int} {tgt : Nat}
    (hf : zf M pc = some (.ifCond .ge off, 3, pc9)) (ht : (pc : Int) + off = (tgt : Int)) (hx : -2147483648 ≤ x ∧ x ≤ 2147483647) (kt : 0 ≤ x → Ev G M tgt ls st h O) (kf : ¬ 0 ≤ x → Ev G M pc9 ls st h O) : Ev G M pc ls ((0, x) :: st) h O := by
  intro p l e R s m args below meth cd C A hA hE hK ad0 n0 ad H locs cells slots la ha hn hP hD hS hl hcs hss
  obtain ⟨hd, rfl⟩ := zf_ok hf
  refine lv_if_ge (x := Int32.ofInt x) C.1 C.2.1 hd ht (fun z => ?_) (fun z => ?_)
  · exact (kt ((z_le z_r0 hx).mp z)) p l e R s m args below meth cd C A hA hE hK ad0 n0 ad H locs cells slots la ha hn hP hD hS hl hcs hss
  · exact (kf (fun q => z ((z_le z_r0 hx).mpr q))) p l e R s m args below meth cd C A hA hE hK ad0 n0 ad H locs cells slots la ha hn hP hD hS hl hcs hss
theorem Ev.if_gt {G : zG} {M : zM} {pc pc9 : Nat} {ls st : List zSV} {h : zHp} {O : zO} {off x : Int} {tgt : Nat}
    (hf : zf M pc = some (.ifCond .gt off, 3, pc9)) (ht : (pc : Int) + off = (tgt : Int)) (hx : -2147483648 ≤ x ∧ x ≤ 2147483647) (kt : 0 < x → Ev G M tgt ls st h O) (kf : ¬ 0 < x → Ev G M pc9 ls st h O) : Ev G M pc ls ((0, x) :: st) h O := by
  intro p l e R s m args below meth cd C A hA hE hK ad0 n0 ad H locs cells slots la ha hn hP hD hS hl hcs hss
  obtain ⟨hd, rfl⟩ := zf_ok hf
  refine lv_if_gt (x := Int32.ofInt x) C.1 C.2.1 hd ht (fun z => ?_) (fun z => ?_)
  · exact (kt ((z_lt z_r0 hx).mp z)) p l e R s m args below meth cd C A hA hE hK ad0 n0 ad H locs cells slots la ha hn hP hD hS hl hcs hss
  · exact (kf (fun q => z ((z_lt z_r0 hx).mpr q))) p l e R s m args below meth cd C A hA hE hK ad0 n0 ad H locs cells slots la ha hn hP hD hS hl hcs hss
theorem Ev.if_le {G : zG} {M : zM} {pc pc9 : Nat} {ls st : List zSV} {h : zHp} {O : zO} {off x : Int} {tgt : Nat}
    (hf : zf M pc = some (.ifCond .le off, 3, pc9)) (ht : (pc : Int) + off = (tgt : Int)) (hx : -2147483648 ≤ x ∧ x ≤ 2147483647) (kt : x ≤ 0 → Ev G M tgt ls st h O) (kf : ¬ x ≤ 0 → Ev G M pc9 ls st h O) : Ev G M pc ls ((0, x) :: st) h O := by
  intro p l e R s m args below meth cd C A hA hE hK ad0 n0 ad H locs cells slots la ha hn hP hD hS hl hcs hss
  obtain ⟨hd, rfl⟩ := zf_ok hf
  refine lv_if_le (x := Int32.ofInt x) C.1 C.2.1 hd ht (fun z => ?_) (fun z => ?_)
  · exact (kt ((z_le hx z_r0).mp z)) p l e R s m args below meth cd C A hA hE hK ad0 n0 ad H locs cells slots la ha hn hP hD hS hl hcs hss
  · exact (kf (fun q => z ((z_le hx z_r0).mpr q))) p l e R s m args below meth cd C A hA hE hK ad0 n0 ad H locs cells slots la ha hn hP hD hS hl hcs hss
theorem Ev.goto {G : zG} {M : zM} {pc pc9 : Nat} {ls st : List zSV} {h : zHp} {O : zO} {off : Int} {tgt : Nat}
    (hf : zf M pc = some (.goto off, 3, pc9)) (ht : (pc : Int) + off = (tgt : Int)) (k : Ev G M tgt ls st h O) : Ev G M pc ls st h O := by
  intro p l e R s m args below meth cd C A hA hE hK ad0 n0 ad H locs cells slots la ha hn hP hD hS hl hcs hss
  obtain ⟨hd, rfl⟩ := zf_ok hf
  refine lv_goto C.1 C.2.1 hd ht ?_
  exact k p l e R s m args below meth cd C A hA hE hK ad0 n0 ad H locs cells slots la ha hn hP hD hS hl hcs hss
theorem Ev.tableIn {G : zG} {M : zM} {pc pc9 : Nat} {ls st : List zSV} {h : zHp} {O : zO} {dflt lo hi off x : Int} {offs : Array Int} {len tgt : Nat}
    (hf : zf M pc = some (.tableswitch dflt lo hi offs, len, pc9)) (hx : -2147483648 ≤ x ∧ x ≤ 2147483647) (h1 : lo ≤ x ∧ x ≤ hi) (ho : offs[(x - lo).toNat]? = some off) (ht : (pc : Int) + off = (tgt : Int)) (k : Ev G M tgt ls st h O) : Ev G M pc ls ((0, x) :: st) h O := by
  intro p l e R s m args below meth cd C A hA hE hK ad0 n0 ad H locs cells slots la ha hn hP hD hS hl hcs hss
  obtain ⟨hd, rfl⟩ := zf_ok hf
  refine lv_tableIn (x := Int32.ofInt x) C.1 C.2.1 hd (by rw [z_toInt hx]; omega) (by rw [z_toInt hx]; omega) (by rw [z_toInt hx]; exact ho) ht ?_
  exact k p l e R s m args below meth cd C A hA hE hK ad0 n0 ad H locs cells slots la ha hn hP hD hS hl hcs hss
theorem Ev.tableOut {G : zG} {M : zM} {pc pc9 : Nat} {ls st : List zSV} {h : zHp} {O : zO} {dflt lo hi x : Int} {offs : Array Int} {len tgt : Nat}
    (hf : zf M pc = some (.tableswitch dflt lo hi offs, len, pc9)) (hx : -2147483648 ≤ x ∧ x ≤ 2147483647) (h1 : x < lo ∨ hi < x) (ht : (pc : Int) + dflt = (tgt : Int)) (k : Ev G M tgt ls st h O) : Ev G M pc ls ((0, x) :: st) h O := by
  intro p l e R s m args below meth cd C A hA hE hK ad0 n0 ad H locs cells slots la ha hn hP hD hS hl hcs hss
  obtain ⟨hd, rfl⟩ := zf_ok hf
  refine lv_tableOut (x := Int32.ofInt x) C.1 C.2.1 hd (by rw [z_toInt hx]; exact h1) ht ?_
  exact k p l e R s m args below meth cd C A hA hE hK ad0 n0 ad H locs cells slots la ha hn hP hD hS hl hcs hss
theorem Ev.lookup {G : zG} {M : zM} {pc pc9 : Nat} {ls st : List zSV} {h : zHp} {O : zO} {dflt off x : Int} {ps : Array (Int × Int)} {len tgt : Nat}
    (hf : zf M pc = some (.lookupswitch dflt ps, len, pc9)) (hx : -2147483648 ≤ x ∧ x ≤ 2147483647) (hp : (ps.toList.zip (ps.toList.drop 1)).all (fun (a, next) => a.1 < next.1) = true) (ho : Op.lookupswitch.offset ps.toList dflt x = off) (ht : (pc : Int) + off = (tgt : Int)) (k : Ev G M tgt ls st h O) : Ev G M pc ls ((0, x) :: st) h O := by
  intro p l e R s m args below meth cd C A hA hE hK ad0 n0 ad H locs cells slots la ha hn hP hD hS hl hcs hss
  obtain ⟨hd, rfl⟩ := zf_ok hf
  refine lv_lookup (x := Int32.ofInt x) C.1 C.2.1 hd hp (by rw [z_toInt hx]; exact ho) ht ?_
  exact k p l e R s m args below meth cd C A hA hE hK ad0 n0 ad H locs cells slots la ha hn hP hD hS hl hcs hss
theorem Ev.dup {G : zG} {M : zM} {pc pc9 : Nat} {ls st : List zSV} {h : zHp} {O : zO} {v : zSV}
    (hf : zf M pc = some (.dup, 1, pc9)) (hv : zcat v = 1) (k : Ev G M pc9 ls (v :: v :: st) h O) : Ev G M pc ls (v :: st) h O := by
  intro p l e R s m args below meth cd C A hA hE hK ad0 n0 ad H locs cells slots la ha hn hP hD hS hl hcs hss
  obtain ⟨hd, rfl⟩ := zf_ok hf
  refine lv_dup C.1 C.2.1 hd (by rw [zcat_eq]; exact hv) ?_
  exact k p l e R s m args below meth cd C A hA hE hK ad0 n0 ad H locs cells slots la ha hn hP hD hS hl hcs hss
theorem Ev.dup2 {G : zG} {M : zM} {pc pc9 : Nat} {ls st : List zSV} {h : zHp} {O : zO} {v u : zSV}
    (hf : zf M pc = some (.dup2, 1, pc9)) (hv : zcat v = 1) (hv2 : zcat u = 1) (k : Ev G M pc9 ls (v :: u :: v :: u :: st) h O) : Ev G M pc ls (v :: u :: st) h O := by
  intro p l e R s m args below meth cd C A hA hE hK ad0 n0 ad H locs cells slots la ha hn hP hD hS hl hcs hss
  obtain ⟨hd, rfl⟩ := zf_ok hf
  refine lv_dup2_11 C.1 C.2.1 hd (by rw [zcat_eq]; exact hv) (by rw [zcat_eq]; exact hv2) ?_
  exact k p l e R s m args below meth cd C A hA hE hK ad0 n0 ad H locs cells slots la ha hn hP hD hS hl hcs hss
theorem Ev.pop {G : zG} {M : zM} {pc pc9 : Nat} {ls st : List zSV} {h : zHp} {O : zO} {v : zSV}
    (hf : zf M pc = some (.pop, 1, pc9)) (hv : zcat v = 1) (k : Ev G M pc9 ls st h O) : Ev G M pc ls (v :: st) h O := by
  intro p l e R s m args below meth cd C A hA hE hK ad0 n0 ad H locs cells slots la ha hn hP hD hS hl hcs hss
  obtain ⟨hd, rfl⟩ := zf_ok hf
  refine lv_pop C.1 C.2.1 hd (by rw [zcat_eq]; exact hv) ?_
  exact k p l e R s m args below meth cd C A hA hE hK ad0 n0 ad H locs cells slots la ha hn hP hD hS hl hcs hss
theorem Ev.i2l {G : zG} {M : zM} {pc pc9 : Nat} {ls st : List zSV} {h : zHp} {O : zO} {x : Int}
    (hf : zf M pc = some (.i2l, 1, pc9)) (hx : -2147483648 ≤ x ∧ x ≤ 2147483647) (k : Ev G M pc9 ls ((4, x) :: st) h O) : Ev G M pc ls ((0, x) :: st) h O := by
  intro p l e R s m args below meth cd C A hA hE hK ad0 n0 ad H locs cells slots la ha hn hP hD hS hl hcs hss
  obtain ⟨hd, rfl⟩ := zf_ok hf
  refine lv_i2l (x := Int32.ofInt x) (v := Int64.ofInt x) C.1 C.2.1 hd (Int32.toInt64_ofInt (by have : Int32.minValue.toInt = -2147483648 := rfl; omega) (by have : Int32.maxValue.toInt = 2147483647 := rfl; omega)) ?_
  exact k p l e R s m args below meth cd C A hA hE hK ad0 n0 ad H locs cells slots la ha hn hP hD hS hl hcs hss
theorem z_i2c {x : Int} : ((Int32.ofInt x).toUInt32 % 65536).toInt32 = Int32.ofInt (x % 65536) := by
  apply Int32.toInt_inj.mp
  rw [z_toInt ⟨by omega, by omega⟩]
  have h1 : ((Int32.ofInt x).toUInt32 % 65536).toNat = (x % 65536).toNat := by
    rw [UInt32.toNat_mod]
    have h2 : (Int32.ofInt x).toUInt32.toNat = (x % 4294967296).toNat := by
      show (BitVec.ofInt 32 x).toNat = _
      rw [BitVec.toNat_ofInt]
      rfl
    rw [h2]
    show (x % 4294967296).toNat % 65536 = _
    omega
  show (((Int32.ofInt x).toUInt32 % 65536).toBitVec).toInt = _
  rw [BitVec.toInt_eq_toNat_of_lt]
  · show ((((Int32.ofInt x).toUInt32 % 65536).toNat : Nat) : Int) = _
    rw [h1]
    omega
  · show 2 * ((Int32.ofInt x).toUInt32 % 65536).toNat < 2 ^ 32
    rw [h1]
    omega
theorem z_mask {x : Int} {k : Nat} (hk : k ≤ 16) : Int32.ofInt x &&& Int32.ofInt (2 ^ k - 1 : Int) = Int32.ofInt (x % (2 ^ k : Int)) := by
  apply Int32.toBitVec_inj.mp
  show BitVec.ofInt 32 x &&& BitVec.ofInt 32 (2 ^ k - 1 : Int) = BitVec.ofInt 32 (x % (2 ^ k : Int))
  apply BitVec.eq_of_toNat_eq
  rw [BitVec.toNat_and, BitVec.toNat_ofInt, BitVec.toNat_ofInt, BitVec.toNat_ofInt]
  have hp : (2 : Nat) ^ k ≤ 2 ^ 16 := Nat.pow_le_pow_right (by decide) hk
  have hp0 : 0 < (2 : Nat) ^ k := Nat.pow_pos (by decide)
  have e1 : ((2 ^ k - 1 : Int) % ((2 ^ 32 : Nat) : Int)).toNat = 2 ^ k - 1 := by
    have : (2 : Int) ^ k = ((2 ^ k : Nat) : Int) := by simp
    rw [this]
    omega
  rw [e1, Nat.and_two_pow_sub_one_eq_mod]
  have hd : (2 ^ 32 : Nat) = 2 ^ k * 2 ^ (32 - k) := by rw [← Nat.pow_add]; congr 1; omega
  have h3 : (x % (2 ^ k : Int)) % ((2 ^ 32 : Nat) : Int) = x % (2 ^ k : Int) := by
    have : (2 : Int) ^ k = ((2 ^ k : Nat) : Int) := by simp
    rw [this]
    have g1 := Int.emod_nonneg x (show ((2 ^ k : Nat) : Int) ≠ 0 by omega)
    have g2 := Int.emod_lt_of_pos x (show (0 : Int) < ((2 ^ k : Nat) : Int) by omega)
    exact Int.emod_eq_of_lt g1 (by omega)
  rw [h3]
  have g1 := Int.emod_nonneg x (show ((2 ^ 32 : Nat) : Int) ≠ 0 by decide)
  have h4 : (((x % ((2 ^ 32 : Nat) : Int)).toNat % 2 ^ k : Nat) : Int) = x % (2 ^ k : Int) := by
    rw [Int.natCast_emod, Int.toNat_of_nonneg g1]
    have : (2 : Int) ^ k = ((2 ^ k : Nat) : Int) := by simp
    rw [this]
    exact Int.emod_emod_of_dvd x (by rw [hd]; exact_mod_cast Nat.dvd_mul_right _ _)
  omega
theorem Ev.iand {G : zG} {M : zM} {pc pc9 : Nat} {ls st : List zSV} {h : zHp} {O : zO} {x y : Int}
    (k9 : Nat) (hk : k9 ≤ 16) (hf : zf M pc = some (.iand, 1, pc9)) (hy : y = 2 ^ k9 - 1) (k : Ev G M pc9 ls ((0, x % 2 ^ k9) :: st) h O) : Ev G M pc ls ((0, y) :: (0, x) :: st) h O := by
  intro p l e R s m args below meth cd C A hA hE hK ad0 n0 ad H locs cells slots la ha hn hP hD hS hl hcs hss
  obtain ⟨hd, rfl⟩ := zf_ok hf
  subst hy
  refine lv_iand (x := Int32.ofInt x) (y := Int32.ofInt (2 ^ k9 - 1)) C.1 C.2.1 hd ?_
  rw [z_mask hk]
  exact k p l e R s m args below meth cd C A hA hE hK ad0 n0 ad H locs cells slots la ha hn hP hD hS hl hcs hss
theorem Ev.ishr0 {G : zG} {M : zM} {pc pc9 : Nat} {ls st : List zSV} {h : zHp} {O : zO} {x : Int}
    (hf : zf M pc = some (.ishr, 1, pc9)) (k : Ev G M pc9 ls ((0, x) :: st) h O) : Ev G M pc ls ((0, 0) :: (0, x) :: st) h O := by
  intro p l e R s m args below meth cd C A hA hE hK ad0 n0 ad H locs cells slots la ha hn hP hD hS hl hcs hss
  obtain ⟨hd, rfl⟩ := zf_ok hf
  refine lv_ishr (x := Int32.ofInt x) (y := Int32.ofInt 0) C.1 C.2.1 hd ?_
  rw [show Int32.ofInt x >>> (Int32.ofInt 0 &&& 31) = Int32.ofInt x from z_shr0 _]
  exact k p l e R s m args below meth cd C A hA hE hK ad0 n0 ad H locs cells slots la ha hn hP hD hS hl hcs hss
theorem Ev.i2c {G : zG} {M : zM} {pc pc9 : Nat} {ls st : List zSV} {h : zHp} {O : zO} {x : Int}
    (hf : zf M pc = some (.i2c, 1, pc9)) (k : Ev G M pc9 ls ((0, x % 65536) :: st) h O) : Ev G M pc ls ((0, x) :: st) h O := by
  intro p l e R s m args below meth cd C A hA hE hK ad0 n0 ad H locs cells slots la ha hn hP hD hS hl hcs hss
  obtain ⟨hd, rfl⟩ := zf_ok hf
  refine lv_i2c (x := Int32.ofInt x) C.1 C.2.1 hd z_i2c ?_
  exact k p l e R s m args below meth cd C A hA hE hK ad0 n0 ad H locs cells slots la ha hn hP hD hS hl hcs hss
theorem Ev.lconst {G : zG} {M : zM} {pc pc9 : Nat} {ls st : List zSV} {h : zHp} {O : zO} {n : Fin 2}
    (hf : zf M pc = some (.lconst n, 1, pc9)) (k : Ev G M pc9 ls ((4, (n.val : Int)) :: st) h O) : Ev G M pc ls st h O := by
  intro p l e R s m args below meth cd C A hA hE hK ad0 n0 ad H locs cells slots la ha hn hP hD hS hl hcs hss
  obtain ⟨hd, rfl⟩ := zf_ok hf
  refine lv_lconst (v := Int64.ofInt (n.val : Int)) C.1 C.2.1 hd Int64.ofInt_eq_ofNat.symm ?_
  exact k p l e R s m args below meth cd C A hA hE hK ad0 n0 ad H locs cells slots la ha hn hP hD hS hl hcs hss
theorem z_lcmp {x y : Int} (hx : -2147483648 ≤ x ∧ x ≤ 2147483647) (hy : -2147483648 ≤ y ∧ y ≤ 2147483647) : lg_cmp (Int64.ofInt x) (Int64.ofInt y) = Int32.ofInt (if x < y then -1 else if x = y then 0 else 1) := by
  have ex : (Int64.ofInt x).toInt = x := Int64.toInt_ofInt_of_le (by omega) (by omega)
  have ey : (Int64.ofInt y).toInt = y := Int64.toInt_ofInt_of_le (by omega) (by omega)
  have e1 : Int64.ofInt x < Int64.ofInt y ↔ x < y := by rw [Int64.lt_iff_toInt_lt, ex, ey]
  have e2 : Int64.ofInt x = Int64.ofInt y ↔ x = y := by rw [← Int64.toInt_inj, ex, ey]
  have e3 : Int64.ofInt y < Int64.ofInt x ↔ y < x := by rw [Int64.lt_iff_toInt_lt, ex, ey]
  unfold lg_cmp
  by_cases h1 : x < y
  · have h2 : ¬ y < x := by omega
    have h3 : ¬ x = y := by omega
    simp [e1, e2, e3, h1, h2, h3]
  · by_cases h2 : x = y
    · have h3 : ¬ y < x := by omega
      simp [h2]
    · have h3 : y < x := by omega
      simp [e1, e2, e3, h1, h2, h3]
theorem Ev.lcmp {G : zG} {M : zM} {pc pc9 : Nat} {ls st : List zSV} {h : zHp} {O : zO} {x y : Int}
    (hf : zf M pc = some (.lcmp, 1, pc9)) (hx : -2147483648 ≤ x ∧ x ≤ 2147483647) (hy : -2147483648 ≤ y ∧ y ≤ 2147483647) (k : Ev G M pc9 ls ((0, if x < y then -1 else if x = y then 0 else 1) :: st) h O) : Ev G M pc ls ((4, y) :: (4, x) :: st) h O := by
  intro p l e R s m args below meth cd C A hA hE hK ad0 n0 ad H locs cells slots la ha hn hP hD hS hl hcs hss
  obtain ⟨hd, rfl⟩ := zf_ok hf
  refine W.lcmp (x := Int64.ofInt x) (y := Int64.ofInt y) C.1 C.2.1 hd ?_
  rw [z_lcmp hx hy]
  exact k p l e R s m args below meth cd C A hA hE hK ad0 n0 ad H locs cells slots la ha hn hP hD hS hl hcs hss
end
section
/-! READING AND WRITING CELLS, RETURNS (printed by wip/whole/gen/sim3.py) -/
theorem z_char (x : Int) : vp_nar .char (Int32.ofInt x) = Int32.ofInt (x % 65536) := by
  rw [vp_nar_char]
  apply Int32.toInt_inj.mp
  rw [z_toInt ⟨by omega, by omega⟩]
  have h2 : (Int32.ofInt x).toUInt32.toNat = (x % 4294967296).toNat := by
    show (BitVec.ofInt 32 x).toNat = _
    rw [BitVec.toNat_ofInt]
    rfl
  have h1 : ((Int32.ofInt x).toUInt32.toUInt16.toUInt32).toNat = (x % 65536).toNat := by
    rw [UInt16.toNat_toUInt32, UInt32.toNat_toUInt16, h2]
    omega
  show (((Int32.ofInt x).toUInt32.toUInt16.toUInt32).toBitVec).toInt = _
  rw [BitVec.toInt_eq_toNat_of_lt]
  · show ((((Int32.ofInt x).toUInt32.toUInt16.toUInt32).toNat : Nat) : Int) = _
    rw [h1]
    omega
  · show 2 * ((Int32.ofInt x).toUInt32.toUInt16.toUInt32).toNat < 2 ^ 32
    rw [h1]
    omega
/-- what a field or a return of this type keeps as it is -/
def zNar (ty : FieldType) (x : Int) : Prop := match ty with
  | .int => True
  | .boolean => x = 0 ∨ x = 1
  | .char => 0 ≤ x ∧ x ≤ 65535
  | _ => False
theorem zNar_ok {ty : FieldType} {x : Int} (h : zNar ty x) : narrow ty (.int (Int32.ofInt x)) = .int (Int32.ofInt x) ∧ fits ty (.int (Int32.ofInt x)) = true := by
  unfold zNar at h
  split at h
  · exact ⟨rfl, rfl⟩
  · rcases h with rfl | rfl <;> exact ⟨rfl, rfl⟩
  · constructor
    · have h1 := z_char x
      rw [vp_nar_char] at h1
      show Value.int _ = _
      rw [h1, show x % 65536 = x by omega]
    · show (decide (0 ≤ Int32.ofInt x) && decide (Int32.ofInt x ≤ 65535)) = true
      rw [Bool.and_eq_true, decide_eq_true_eq, decide_eq_true_eq, z_0, show (65535 : Int32) = Int32.ofInt 65535 from rfl, z_le ⟨by omega, by omega⟩ ⟨by omega, by omega⟩, z_le ⟨by omega, by omega⟩ ⟨by omega, by omega⟩]
      exact h
  · exact h.elim
def zClOk (ci : Nat) (C : String) (T : u_T) (ty : Nat → FieldType) : Prop := vwCl[ci]? = some (C, T, zN ci) ∧ (∀ w ∈ u_ws C T (zN ci), w ∈ zT) ∧ (∀ k, k < zN ci → parseFieldDescriptor (T k).2.2.1 = some (ty k)) ∧ (∀ a, a < zN ci → ∀ b, b < zN ci → a ≠ b → (T a).2.1 ≠ (T b).2.1) ∧ (∀ k, k < zN ci → (T k).1 = C) ∧ (∀ k, k < zN ci → defaultValue (ty k) = if zR ci k then .null else .int 0)
/-- what a field's link in the code of M says: class, place, type, whether it is final -/
def zFl (M : zM) (idx ci k : Nat) (t : FieldType) (fin : Bool) : Prop := ∃ (C : String) (T : u_T) (ty : Nat → FieldType), zClOk ci C T ty ∧ k < zN ci ∧ ty k = t ∧ (T k).2.2.2 = fin ∧ (Cond.fieldLink M.1.cls idx C (T k).2.1 (T k).2.2.1 ∈ zT ∨ ∃ host, Cond.fieldLinkNest M.1.cls idx C (T k).2.1 (T k).2.2.1 host ∈ zNw)
theorem zF_at {ad : Nat → Nat} {h : zHp} {c ci k : Nat} (hk : k < zN ci) : (zF ad h c ci)[k]? = some (if zR ci k then va_rf ((h.2.1 c k).map ad) else .int (Int32.ofInt (h.2.2.1 c (k : Int)))) := by
  unfold zF
  rw [List.getElem?_map, List.getElem?_range hk]
  rfl
theorem zF_I {ad : Nat → Nat} {sh : List (Nat × Nat)} {rf : Nat → Nat → Option Nat} {ia : Nat → Int → Int} {w : (Nat → Int → Int) × (Nat → Int → Int)} {c ci k : Nat} (hk : k < zN ci) (hr : zR ci k = false) : (zF ad (sh, rf, ia, w) c ci)[k]? = some (.int (Int32.ofInt (ia c (k : Int)))) := by
  rw [zF_at hk, hr]
  rfl
theorem zF_R {ad : Nat → Nat} {sh : List (Nat × Nat)} {rf : Nat → Nat → Option Nat} {ia : Nat → Int → Int} {w : (Nat → Int → Int) × (Nat → Int → Int)} {c ci k q : Nat} (hk : k < zN ci) (hr : zR ci k = true) (hq : rf c k = some q) : (zF ad (sh, rf, ia, w) c ci)[k]? = some (.ref (ad q)) := by
  rw [zF_at hk, hr]
  show some (va_rf ((rf c k).map ad)) = some (.ref (ad q))
  rw [hq]
  rfl
theorem zF_len {ad : Nat → Nat} {h : zHp} {c ci : Nat} : (zF ad h c ci).length = zN ci := by
  unfold zF
  rw [List.length_map, List.length_range]
theorem zu_ne {ia : Nat → Int → Int} {c j : Nat} {i x : Int} (h : j ≠ c) : zu ia c i x j = ia j := by
  funext k
  unfold zu
  rw [if_neg (fun e => h e.1)]
theorem zur_ne {rf : Nat → Nat → Option Nat} {c j k : Nat} {x : Option Nat} (h : j ≠ c) : zur rf c k x j = rf j := by
  funext i
  unfold zur
  rw [if_neg (fun e => h e.1)]
theorem zE_off {G : zG} {ad : Nat → Nat} {sh sh' : List (Nat × Nat)} {rf rf' : Nat → Nat → Option Nat} {ia ia' la la' da da' : Nat → Int → Int} {j : Nat} {kn : Nat × Nat} (h1 : rf' j = rf j) (h2 : ia' j = ia j) (h3 : la' j = la j) (h4 : da' j = da j) : zE G ad (sh', rf', ia', la', da') j kn = zE G ad (sh, rf, ia, la, da) j kn := by
  unfold zE zF
  dsimp only
  rw [h1, h2, h3, h4]
theorem zF_set {ad : Nat → Nat} {sh : List (Nat × Nat)} {rf : Nat → Nat → Option Nat} {ia : Nat → Int → Int} {w : (Nat → Int → Int) × (Nat → Int → Int)} {c ci k : Nat} {x : Int} (hk : k < zN ci) (hr : zR ci k = false) : (zF ad (sh, rf, ia, w) c ci).set k (.int (Int32.ofInt x)) = zF ad (sh, rf, zu ia c (k : Int) x, w) c ci := by
  apply List.ext_getElem?
  intro j
  by_cases hj : j < zN ci
  · rw [zF_at hj]
    by_cases e : j = k
    · subst e
      rw [List.getElem?_set_self (by rw [zF_len]; exact hj)]
      simp [hr, zu]
    · rw [List.getElem?_set_ne (Ne.symm e), zF_at hj]
      have e2 : ¬ ((j : Int) = (k : Int)) := by omega
      simp [zu, e2]
  · rw [List.getElem?_eq_none (by rw [List.length_set, zF_len]; omega), List.getElem?_eq_none (by rw [zF_len]; omega)]
theorem zF_setR {ad : Nat → Nat} {sh : List (Nat × Nat)} {rf : Nat → Nat → Option Nat} {ia : Nat → Int → Int} {w : (Nat → Int → Int) × (Nat → Int → Int)} {c ci k q : Nat} (hk : k < zN ci) (hr : zR ci k = true) : (zF ad (sh, rf, ia, w) c ci).set k (.ref (ad q)) = zF ad (sh, zur rf c k (some q), ia, w) c ci := by
  apply List.ext_getElem?
  intro j
  by_cases hj : j < zN ci
  · rw [zF_at hj]
    by_cases e : j = k
    · subst e
      rw [List.getElem?_set_self (by rw [zF_len]; exact hj)]
      simp [hr, zur, va_rf]
    · rw [List.getElem?_set_ne (Ne.symm e), zF_at hj]
      simp [zur, e]
  · rw [List.getElem?_eq_none (by rw [List.length_set, zF_len]; omega), List.getElem?_eq_none (by rw [zF_len]; omega)]
theorem zW_obj {G : zG} {ad : Nat → Nat} {sh : List (Nat × Nat)} {rf : Nat → Nat → Option Nat} {ia : Nat → Int → Int} {w : (Nat → Int → Int) × (Nat → Int → Int)} {c ci : Nat} (hc : sh[c]? = some (0, ci)) : (zW G ad (sh, rf, ia, w))[c]? = some (ad c, .inr (ci, zF ad (sh, rf, ia, w) c ci)) := zW_at (h := (sh, rf, ia, w)) hc
theorem zW_putI {G : zG} {ad : Nat → Nat} {sh : List (Nat × Nat)} {rf : Nat → Nat → Option Nat} {ia : Nat → Int → Int} {w : (Nat → Int → Int) × (Nat → Int → Int)} {c ci k : Nat} {x : Int} (hc : sh[c]? = some (0, ci)) (hk : k < zN ci) (hr : zR ci k = false) : (zW G ad (sh, rf, ia, w)).set c (ad c, .inr (ci, (zF ad (sh, rf, ia, w) c ci).set k (.int (Int32.ofInt x)))) = zW G ad (sh, rf, zu ia c (k : Int) x, w) := by
  refine zW_set rfl (fun j kn hj => zE_off rfl (zu_ne hj) rfl rfl) (fun kn h => ?_)
  cases hc.symm.trans h
  rw [zF_set hk hr]
  rfl
theorem zW_putR {G : zG} {ad : Nat → Nat} {sh : List (Nat × Nat)} {rf : Nat → Nat → Option Nat} {ia : Nat → Int → Int} {w : (Nat → Int → Int) × (Nat → Int → Int)} {c ci k q : Nat} (hc : sh[c]? = some (0, ci)) (hk : k < zN ci) (hr : zR ci k = true) : (zW G ad (sh, rf, ia, w)).set c (ad c, .inr (ci, (zF ad (sh, rf, ia, w) c ci).set k (.ref (ad q)))) = zW G ad (sh, zur rf c k (some q), ia, w) := by
  refine zW_set rfl (fun j kn hj => zE_off (zur_ne hj) rfl rfl rfl) (fun kn h => ?_)
  cases hc.symm.trans h
  rw [zF_setR hk hr]
  rfl
theorem z_upd {f : Int → Int} {i x : Int} (hi : 0 ≤ i) : upd (fun j : Nat => Int32.ofInt (f (j : Int))) i.toNat (Int32.ofInt x) = fun j : Nat => Int32.ofInt (if (j : Int) = i then x else f (j : Int)) := by
  funext j
  unfold upd
  by_cases e : j = i.toNat
  · have e2 : (j : Int) = i := by omega
    rw [if_pos e, if_pos e2]
  · have e2 : ¬ (j : Int) = i := by omega
    rw [if_neg e, if_neg e2]
theorem zW_arr {G : zG} {ad : Nat → Nat} {sh : List (Nat × Nat)} {rf : Nat → Nat → Option Nat} {ia : Nat → Int → Int} {w : (Nat → Int → Int) × (Nat → Int → Int)} {c k n : Nat} {i x : Int} (hk : k = 1 ∨ k = 2) (hc : sh[c]? = some (k, n)) (hi : 0 ≤ i) : (zW G ad (sh, rf, ia, w)).set c (ad c, .inl (G.2.1 (k - 1), n, .inl (upd (fun j : Nat => Int32.ofInt (ia c (j : Int))) i.toNat (Int32.ofInt x)))) = zW G ad (sh, rf, zu ia c i x, w) := by
  refine zW_set rfl (fun j kn hj => zE_off rfl (zu_ne hj) rfl rfl) (fun kn h => ?_)
  cases hc.symm.trans h
  rw [z_upd hi]
  rcases hk with rfl | rfl <;> (unfold zE zu; simp)
theorem zE_arr {G : zG} {ad : Nat → Nat} {sh : List (Nat × Nat)} {rf : Nat → Nat → Option Nat} {ia : Nat → Int → Int} {w : (Nat → Int → Int) × (Nat → Int → Int)} {c k n : Nat} (hk : k = 1 ∨ k = 2) (hc : sh[c]? = some (k, n)) : (zW G ad (sh, rf, ia, w))[c]? = some (ad c, .inl (G.2.1 (k - 1), n, .inl fun j : Nat => Int32.ofInt (ia c (j : Int)))) := by
  rw [zW_at (h := (sh, rf, ia, w)) hc]
  rcases hk with rfl | rfl <;> rfl
theorem zE_off2 : True := trivial
theorem Ev.getI {G : zG} {M : zM} {pc pc9 : Nat} {ls st : List zSV} {sh : List (Nat × Nat)} {rf : Nat → Nat → Option Nat} {ia : Nat → Int → Int} {w : (Nat → Int → Int) × (Nat → Int → Int)} {O : zO} {idx ci : Nat} {t : FieldType} {fin : Bool}
    (c k : Nat) (hf : zf M pc = some (.getfield idx, 3, pc9)) (hl9 : zFl M idx ci k t fin) (hc : sh[c]? = some (0, ci)) (hr : zR ci k = false) (kk : Ev G M pc9 ls ((0, ia c (k : Int)) :: st) (sh, rf, ia, w) O) : Ev G M pc ls ((1, (c : Int)) :: st) (sh, rf, ia, w) O := by
  intro p l e R s m args below meth cd C A hA hE hK ad0 n0 ad H locs cells slots la ha hn hP hD hS hl hcs hss
  obtain ⟨hd, rfl⟩ := zf_ok hf
  obtain ⟨C0, T0, ty0, hcl, hk, hty, hfin, hlk⟩ := hl9
  have hC : (T0 k).1 = C0 := hcl.2.2.2.2.1 k hk
  rcases hlk with hlk | ⟨host, hlk⟩
  · refine va_get (D := G.1) (ci := ci) (C := C0) (T := T0) (N := zN ci) C.1 C.2.1 C.2.2.2.2.2.2.1 hcl.2.1 C.2.2.2.2.1 hK hP c (zW_obj hc) hcl.1 k hk (C.2.2.2.2.2.2.1 _ hlk) (fun _ h9 => by rw [← hC]; exact h9) (zF_I hk hr) hd ?_
    exact kk p l e R s m args below meth cd C A hA hE hK ad0 n0 ad H locs cells slots la ha hn hP hD hS hl hcs hss
  · refine va_getN (D := G.1) (ci := ci) (C := C0) (T := T0) (N := zN ci) C.1 C.2.1 C.2.2.2.2.2.2.1 hcl.2.1 C.2.2.2.2.1 hK hP c (zW_obj hc) hcl.1 k hk (va_Nw.use rfl (hE.1 _ hlk)) (fun _ h9 => by rw [← hC]; exact h9) (zF_I hk hr) hd ?_
    exact kk p l e R s m args below meth cd C A hA hE hK ad0 n0 ad H locs cells slots la ha hn hP hD hS hl hcs hss
theorem Ev.getR {G : zG} {M : zM} {pc pc9 : Nat} {ls st : List zSV} {sh : List (Nat × Nat)} {rf : Nat → Nat → Option Nat} {ia : Nat → Int → Int} {w : (Nat → Int → Int) × (Nat → Int → Int)} {O : zO} {idx ci : Nat} {t : FieldType} {fin : Bool}
    (c k q : Nat) (hf : zf M pc = some (.getfield idx, 3, pc9)) (hl9 : zFl M idx ci k t fin) (hc : sh[c]? = some (0, ci)) (hr : zR ci k = true) (hq : rf c k = some q) (kk : Ev G M pc9 ls ((1, (q : Int)) :: st) (sh, rf, ia, w) O) : Ev G M pc ls ((1, (c : Int)) :: st) (sh, rf, ia, w) O := by
  intro p l e R s m args below meth cd C A hA hE hK ad0 n0 ad H locs cells slots la ha hn hP hD hS hl hcs hss
  obtain ⟨hd, rfl⟩ := zf_ok hf
  obtain ⟨C0, T0, ty0, hcl, hk, hty, hfin, hlk⟩ := hl9
  have hC : (T0 k).1 = C0 := hcl.2.2.2.2.1 k hk
  rcases hlk with hlk | ⟨host, hlk⟩
  · refine va_get (D := G.1) (ci := ci) (C := C0) (T := T0) (N := zN ci) C.1 C.2.1 C.2.2.2.2.2.2.1 hcl.2.1 C.2.2.2.2.1 hK hP c (zW_obj hc) hcl.1 k hk (C.2.2.2.2.2.2.1 _ hlk) (fun _ h9 => by rw [← hC]; exact h9) (zF_R hk hr hq) hd ?_
    exact kk p l e R s m args below meth cd C A hA hE hK ad0 n0 ad H locs cells slots la ha hn hP hD hS hl hcs hss
  · refine va_getN (D := G.1) (ci := ci) (C := C0) (T := T0) (N := zN ci) C.1 C.2.1 C.2.2.2.2.2.2.1 hcl.2.1 C.2.2.2.2.1 hK hP c (zW_obj hc) hcl.1 k hk (va_Nw.use rfl (hE.1 _ hlk)) (fun _ h9 => by rw [← hC]; exact h9) (zF_R hk hr hq) hd ?_
    exact kk p l e R s m args below meth cd C A hA hE hK ad0 n0 ad H locs cells slots la ha hn hP hD hS hl hcs hss
theorem Ev.putI {G : zG} {M : zM} {pc pc9 : Nat} {ls st : List zSV} {sh : List (Nat × Nat)} {rf : Nat → Nat → Option Nat} {ia : Nat → Int → Int} {w : (Nat → Int → Int) × (Nat → Int → Int)} {O : zO} {idx ci : Nat} {t : FieldType} {x : Int}
    (c k : Nat) (hf : zf M pc = some (.putfield idx, 3, pc9)) (hl9 : zFl M idx ci k t false) (hc : sh[c]? = some (0, ci)) (hr : zR ci k = false) (hx : zNar t x) (kk : Ev G M pc9 ls st (sh, rf, zu ia c (k : Int) x, w) O) : Ev G M pc ls ((0, x) :: (1, (c : Int)) :: st) (sh, rf, ia, w) O := by
  intro p l e R s m args below meth cd C A hA hE hK ad0 n0 ad H locs cells slots la ha hn hP hD hS hl hcs hss
  obtain ⟨hd, rfl⟩ := zf_ok hf
  obtain ⟨C0, T0, ty0, hcl, hk, hty, hfin, hlk⟩ := hl9
  subst hty
  have hC : (T0 k).1 = C0 := hcl.2.2.2.2.1 k hk
  rcases hlk with hlk | ⟨host, hlk⟩
  · refine va_put (D := G.1) (ci := ci) (C := C0) (T := T0) (N := zN ci) (v := .int (Int32.ofInt x)) C.1 C.2.1 C.2.2.2.2.2.2.1 hcl.2.1 ty0 hcl.2.2.1 hcl.2.2.2.1 C.2.2.2.2.1 hK hP hD hS c (zW_obj hc) hcl.1 k hk (C.2.2.2.2.2.2.1 _ hlk) (fun _ h9 => by rw [← hC]; exact h9) hfin (hcl.2.2.1 k hk) (zNar_ok hx).1 (zNar_ok hx).2 (by rw [zF_len]; exact hk) hd (fun H locs hP hD hS => ?_)
    rw [zW_putI hc hk hr] at hP hD
    exact kk p l e R s m args below meth cd C A hA hE hK ad0 n0 ad H locs cells slots la ha hn hP hD hS hl hcs hss
  · refine va_putN (D := G.1) (ci := ci) (C := C0) (T := T0) (N := zN ci) (v := .int (Int32.ofInt x)) C.1 C.2.1 C.2.2.2.2.2.2.1 hcl.2.1 ty0 hcl.2.2.1 hcl.2.2.2.1 C.2.2.2.2.1 hK hP hD hS c (zW_obj hc) hcl.1 k hk (va_Nw.use rfl (hE.1 _ hlk)) (fun _ h9 => by rw [← hC]; exact h9) hfin (hcl.2.2.1 k hk) (zNar_ok hx).1 (zNar_ok hx).2 (by rw [zF_len]; exact hk) hd (fun H locs hP hD hS => ?_)
    rw [zW_putI hc hk hr] at hP hD
    exact kk p l e R s m args below meth cd C A hA hE hK ad0 n0 ad H locs cells slots la ha hn hP hD hS hl hcs hss
theorem vwCl_own {ci : Nat} {C D : String} {T : u_T} {ty : Nat → FieldType} (h : zClOk ci C T ty) (hD : (vwCl[ci]?).map (fun q => q.1) = some D) : C = D := by
  rw [h.1] at hD
  exact Option.some.inj hD
/-- a final field's link in its class's own constructor -/
def zFf (M : zM) (idx ci k : Nat) : Prop := ∃ (C : String) (T : u_T) (ty : Nat → FieldType), zClOk ci C T ty ∧ k < zN ci ∧ ((∃ n, ty k = .object n) ∨ ∃ n, ty k = .array n) ∧ (T k).2.2.2 = true ∧ Cond.fieldLink M.1.cls idx C (T k).2.1 (T k).2.2.1 ∈ zT ∧ M.1.name = "<init>" ∧ C = M.1.cls
theorem Ev.putF {G : zG} {M : zM} {pc pc9 : Nat} {ls st : List zSV} {sh : List (Nat × Nat)} {rf : Nat → Nat → Option Nat} {ia : Nat → Int → Int} {w : (Nat → Int → Int) × (Nat → Int → Int)} {O : zO} {idx ci : Nat}
    (c k q : Nat) (hf : zf M pc = some (.putfield idx, 3, pc9)) (hl9 : zFf M idx ci k) (hc : sh[c]? = some (0, ci)) (hr : zR ci k = true) (kk : Ev G M pc9 ls st (sh, zur rf c k (some q), ia, w) O) : Ev G M pc ls ((1, (q : Int)) :: (1, (c : Int)) :: st) (sh, rf, ia, w) O := by
  intro p l e R s m args below meth cd C A hA hE hK ad0 n0 ad H locs cells slots la ha hn hP hD hS hl hcs hss
  obtain ⟨hd, rfl⟩ := zf_ok hf
  obtain ⟨C0, T0, ty0, hcl, hk, ht, hfin, hlk, hin, hown⟩ := hl9
  have hC : (T0 k).1 = C0 := hcl.2.2.2.2.1 k hk
  refine va_putF (D := G.1) (ci := ci) (C := C0) (T := T0) (N := zN ci) (v := .ref (ad q)) C.1 C.2.1 C.2.2.2.2.2.2.1 hcl.2.1 ty0 hcl.2.2.1 hcl.2.2.2.1 C.2.2.2.2.1 hK hP hD hS c (zW_obj hc) hcl.1 k hk (C.2.2.2.2.2.2.1 _ hlk) (fun _ h9 => by rw [← hC]; exact h9) hfin (C.2.2.2.2.2.2.2.2.2.2.2.trans hin) (hC.trans hown) (hcl.2.2.1 k hk) (by rcases ht with ⟨n9, e9⟩ | ⟨n9, e9⟩ <;> (rw [e9]; rfl)) (by rcases ht with ⟨n9, e9⟩ | ⟨n9, e9⟩ <;> (rw [e9]; rfl)) (by rw [zF_len]; exact hk) hd (fun H locs hP hD hS => ?_)
  rw [zW_putR hc hk hr] at hP hD
  exact kk p l e R s m args below meth cd C A hA hE hK ad0 n0 ad H locs cells slots la ha hn hP hD hS hl hcs hss
theorem Ev.iaload {G : zG} {M : zM} {pc pc9 : Nat} {ls st : List zSV} {sh : List (Nat × Nat)} {rf : Nat → Nat → Option Nat} {ia : Nat → Int → Int} {w : (Nat → Int → Int) × (Nat → Int → Int)} {O : zO} {i : Int}
    (c n : Nat) (hf : zf M pc = some (.iaload, 1, pc9)) (hc : sh[c]? = some (1, n)) (hn2 : n ≤ 2147483647) (hi : 0 ≤ i ∧ i < (n : Int)) (kk : Ev G M pc9 ls ((0, ia c i) :: st) (sh, rf, ia, w) O) : Ev G M pc ls ((0, i) :: (1, (c : Int)) :: st) (sh, rf, ia, w) O := by
  intro p l e R s m args below meth cd C A hA hE hK ad0 n0 ad H locs cells slots la ha hn hP hD hS hl hcs hss
  obtain ⟨hd, rfl⟩ := zf_ok hf
  refine va_iald (D := G.1) C.1 C.2.1 hK hP c 0 (zE_arr (k := 1) (by simp) hc) rfl (i := Int32.ofInt i) (z_in hi hn2) hd ?_
  rw [z_clamp ⟨hi.1, by omega⟩, Int.toNat_of_nonneg hi.1]
  exact kk p l e R s m args below meth cd C A hA hE hK ad0 n0 ad H locs cells slots la ha hn hP hD hS hl hcs hss
theorem Ev.caload {G : zG} {M : zM} {pc pc9 : Nat} {ls st : List zSV} {sh : List (Nat × Nat)} {rf : Nat → Nat → Option Nat} {ia : Nat → Int → Int} {w : (Nat → Int → Int) × (Nat → Int → Int)} {O : zO} {i : Int}
    (c n : Nat) (hf : zf M pc = some (.caload, 1, pc9)) (hc : sh[c]? = some (2, n)) (hn2 : n ≤ 2147483647) (hi : 0 ≤ i ∧ i < (n : Int)) (kk : Ev G M pc9 ls ((0, ia c i) :: st) (sh, rf, ia, w) O) : Ev G M pc ls ((0, i) :: (1, (c : Int)) :: st) (sh, rf, ia, w) O := by
  intro p l e R s m args below meth cd C A hA hE hK ad0 n0 ad H locs cells slots la ha hn hP hD hS hl hcs hss
  obtain ⟨hd, rfl⟩ := zf_ok hf
  refine va_cald (D := G.1) C.1 C.2.1 hK hP c 1 (zE_arr (k := 2) (by simp) hc) rfl (i := Int32.ofInt i) (z_in hi hn2) hd ?_
  rw [z_clamp ⟨hi.1, by omega⟩, Int.toNat_of_nonneg hi.1]
  exact kk p l e R s m args below meth cd C A hA hE hK ad0 n0 ad H locs cells slots la ha hn hP hD hS hl hcs hss
theorem Ev.iastore {G : zG} {M : zM} {pc pc9 : Nat} {ls st : List zSV} {sh : List (Nat × Nat)} {rf : Nat → Nat → Option Nat} {ia : Nat → Int → Int} {w : (Nat → Int → Int) × (Nat → Int → Int)} {O : zO} {i x : Int}
    (c n : Nat) (hf : zf M pc = some (.iastore, 1, pc9)) (hc : sh[c]? = some (1, n)) (hn2 : n ≤ 2147483647) (hi : 0 ≤ i ∧ i < (n : Int)) (kk : Ev G M pc9 ls st (sh, rf, zu ia c i x, w) O) : Ev G M pc ls ((0, x) :: (0, i) :: (1, (c : Int)) :: st) (sh, rf, ia, w) O := by
  intro p l e R s m args below meth cd C A hA hE hK ad0 n0 ad H locs cells slots la ha hn hP hD hS hl hcs hss
  obtain ⟨hd, rfl⟩ := zf_ok hf
  refine va_iast (D := G.1) C.1 C.2.1 hK hP hD hS c 0 (zE_arr (k := 1) (by simp) hc) rfl (i := Int32.ofInt i) (x := Int32.ofInt x) (z_in hi hn2) hd (fun H locs hP hD hS => ?_)
  rw [z_clamp ⟨hi.1, by omega⟩, zW_arr (k := 1) (by simp) hc hi.1] at hP hD
  exact kk p l e R s m args below meth cd C A hA hE hK ad0 n0 ad H locs cells slots la ha hn hP hD hS hl hcs hss
theorem Ev.castore {G : zG} {M : zM} {pc pc9 : Nat} {ls st : List zSV} {sh : List (Nat × Nat)} {rf : Nat → Nat → Option Nat} {ia : Nat → Int → Int} {w : (Nat → Int → Int) × (Nat → Int → Int)} {O : zO} {i x : Int}
    (c n : Nat) (hf : zf M pc = some (.castore, 1, pc9)) (hc : sh[c]? = some (2, n)) (hn2 : n ≤ 2147483647) (hi : 0 ≤ i ∧ i < (n : Int)) (hx : 0 ≤ x ∧ x ≤ 65535) (kk : Ev G M pc9 ls st (sh, rf, zu ia c i x, w) O) : Ev G M pc ls ((0, x) :: (0, i) :: (1, (c : Int)) :: st) (sh, rf, ia, w) O := by
  intro p l e R s m args below meth cd C A hA hE hK ad0 n0 ad H locs cells slots la ha hn hP hD hS hl hcs hss
  obtain ⟨hd, rfl⟩ := zf_ok hf
  refine va_cast (D := G.1) C.1 C.2.1 hK hP hD hS c 1 (zE_arr (k := 2) (by simp) hc) rfl (i := Int32.ofInt i) (x := Int32.ofInt x) (z_in hi hn2) hd (fun H locs hP hD hS => ?_)
  rw [z_clamp ⟨hi.1, by omega⟩, z_char, show x % 65536 = x by omega, zW_arr (k := 2) (by simp) hc hi.1] at hP hD
  exact kk p l e R s m args below meth cd C A hA hE hK ad0 n0 ad H locs cells slots la ha hn hP hD hS hl hcs hss
theorem z_updL {f : Int → Int} {i x : Int} (hi : 0 ≤ i) : vp_updL (fun j : Nat => Int64.ofInt (f (j : Int))) i.toNat (Int64.ofInt x) = fun j : Nat => Int64.ofInt (if (j : Int) = i then x else f (j : Int)) := by
  funext j
  unfold vp_updL
  by_cases e : j = i.toNat
  · have e2 : (j : Int) = i := by omega
    rw [if_pos e, if_pos e2]
  · have e2 : ¬ (j : Int) = i := by omega
    rw [if_neg e, if_neg e2]
theorem z_updD {f : Int → Int} {i x : Int} (hi : 0 ≤ i) : (fun j : Nat => if j = i.toNat then UInt64.ofNat x.toNat else UInt64.ofNat (f (j : Int)).toNat) = fun j : Nat => UInt64.ofNat (if (j : Int) = i then x else f (j : Int)).toNat := by
  funext j
  by_cases e : j = i.toNat
  · have e2 : (j : Int) = i := by omega
    rw [if_pos e, if_pos e2]
  · have e2 : ¬ (j : Int) = i := by omega
    rw [if_neg e, if_neg e2]
theorem zW_arrL {G : zG} {ad : Nat → Nat} {sh : List (Nat × Nat)} {rf : Nat → Nat → Option Nat} {ia lo da : Nat → Int → Int} {c n : Nat} {i x : Int} (hc : sh[c]? = some (3, n)) (hi : 0 ≤ i) : (zW G ad (sh, rf, ia, lo, da)).set c (ad c, .inl (G.2.1 2, n, .inr (.inl (vp_updL (fun j : Nat => Int64.ofInt (lo c (j : Int))) i.toNat (Int64.ofInt x))))) = zW G ad (sh, rf, ia, zu lo c i x, da) := by
  refine zW_set rfl (fun j kn hj => zE_off rfl rfl (zu_ne hj) rfl) (fun kn h => ?_)
  cases hc.symm.trans h
  rw [z_updL hi]
  unfold zE zu
  simp
theorem zW_arrD {G : zG} {ad : Nat → Nat} {sh : List (Nat × Nat)} {rf : Nat → Nat → Option Nat} {ia lo da : Nat → Int → Int} {c n : Nat} {i x : Int} (hc : sh[c]? = some (4, n)) (hi : 0 ≤ i) : (zW G ad (sh, rf, ia, lo, da)).set c (ad c, .inl (G.2.1 3, n, .inr (.inr (.inr (.inl (fun j : Nat => if j = i.toNat then UInt64.ofNat x.toNat else UInt64.ofNat (da c (j : Int)).toNat)))))) = zW G ad (sh, rf, ia, lo, zu da c i x) := by
  refine zW_set rfl (fun j kn hj => zE_off rfl rfl rfl (zu_ne hj)) (fun kn h => ?_)
  cases hc.symm.trans h
  rw [z_updD hi]
  unfold zE zu
  simp
theorem Ev.laload {G : zG} {M : zM} {pc pc9 : Nat} {ls st : List zSV} {sh : List (Nat × Nat)} {rf : Nat → Nat → Option Nat} {ia : Nat → Int → Int} {lo da : Nat → Int → Int} {O : zO} {i : Int}
    (c n : Nat) (hf : zf M pc = some (.laload, 1, pc9)) (hc : sh[c]? = some (3, n)) (hn2 : n ≤ 2147483647) (hi : 0 ≤ i ∧ i < (n : Int)) (kk : Ev G M pc9 ls ((4, lo c i) :: st) (sh, rf, ia, lo, da) O) : Ev G M pc ls ((0, i) :: (1, (c : Int)) :: st) (sh, rf, ia, lo, da) O := by
  intro p l e R s m args below meth cd C A hA hE hK ad0 n0 ad H locs cells slots la ha hn hP hD hS hl hcs hss
  obtain ⟨hd, rfl⟩ := zf_ok hf
  refine va_lald (D := G.1) C.1 C.2.1 hK hP c 2 (zW_at (h := (sh, rf, ia, lo, da)) hc) rfl (i := Int32.ofInt i) (z_in hi hn2) hd ?_
  rw [z_clamp ⟨hi.1, by omega⟩, Int.toNat_of_nonneg hi.1]
  exact kk p l e R s m args below meth cd C A hA hE hK ad0 n0 ad H locs cells slots la ha hn hP hD hS hl hcs hss
theorem Ev.daload {G : zG} {M : zM} {pc pc9 : Nat} {ls st : List zSV} {sh : List (Nat × Nat)} {rf : Nat → Nat → Option Nat} {ia : Nat → Int → Int} {lo da : Nat → Int → Int} {O : zO} {i : Int}
    (c n : Nat) (hf : zf M pc = some (.daload, 1, pc9)) (hc : sh[c]? = some (4, n)) (hn2 : n ≤ 2147483647) (hi : 0 ≤ i ∧ i < (n : Int)) (kk : Ev G M pc9 ls ((5, da c i) :: st) (sh, rf, ia, lo, da) O) : Ev G M pc ls ((0, i) :: (1, (c : Int)) :: st) (sh, rf, ia, lo, da) O := by
  intro p l e R s m args below meth cd C A hA hE hK ad0 n0 ad H locs cells slots la ha hn hP hD hS hl hcs hss
  obtain ⟨hd, rfl⟩ := zf_ok hf
  refine va_dald (D := G.1) C.1 C.2.1 hK hP c 3 (zW_at (h := (sh, rf, ia, lo, da)) hc) rfl (i := Int32.ofInt i) (z_in hi hn2) hd ?_
  rw [z_clamp ⟨hi.1, by omega⟩, Int.toNat_of_nonneg hi.1]
  exact kk p l e R s m args below meth cd C A hA hE hK ad0 n0 ad H locs cells slots la ha hn hP hD hS hl hcs hss
theorem Ev.lastore {G : zG} {M : zM} {pc pc9 : Nat} {ls st : List zSV} {sh : List (Nat × Nat)} {rf : Nat → Nat → Option Nat} {ia : Nat → Int → Int} {lo da : Nat → Int → Int} {O : zO} {i x : Int}
    (c n : Nat) (hf : zf M pc = some (.lastore, 1, pc9)) (hc : sh[c]? = some (3, n)) (hn2 : n ≤ 2147483647) (hi : 0 ≤ i ∧ i < (n : Int)) (kk : Ev G M pc9 ls st (sh, rf, ia, zu lo c i x, da) O) : Ev G M pc ls ((4, x) :: (0, i) :: (1, (c : Int)) :: st) (sh, rf, ia, lo, da) O := by
  intro p l e R s m args below meth cd C A hA hE hK ad0 n0 ad H locs cells slots la ha hn hP hD hS hl hcs hss
  obtain ⟨hd, rfl⟩ := zf_ok hf
  refine va_last (D := G.1) C.1 C.2.1 hK hP hD hS c 2 (zW_at (h := (sh, rf, ia, lo, da)) hc) rfl (i := Int32.ofInt i) (x := Int64.ofInt x) (z_in hi hn2) hd (fun H locs hP hD hS => ?_)
  rw [z_clamp ⟨hi.1, by omega⟩, zW_arrL hc hi.1] at hP hD
  exact kk p l e R s m args below meth cd C A hA hE hK ad0 n0 ad H locs cells slots la ha hn hP hD hS hl hcs hss
theorem Ev.dastore {G : zG} {M : zM} {pc pc9 : Nat} {ls st : List zSV} {sh : List (Nat × Nat)} {rf : Nat → Nat → Option Nat} {ia : Nat → Int → Int} {lo da : Nat → Int → Int} {O : zO} {i x : Int}
    (c n : Nat) (hf : zf M pc = some (.dastore, 1, pc9)) (hc : sh[c]? = some (4, n)) (hn2 : n ≤ 2147483647) (hi : 0 ≤ i ∧ i < (n : Int)) (kk : Ev G M pc9 ls st (sh, rf, ia, lo, zu da c i x) O) : Ev G M pc ls ((5, x) :: (0, i) :: (1, (c : Int)) :: st) (sh, rf, ia, lo, da) O := by
  intro p l e R s m args below meth cd C A hA hE hK ad0 n0 ad H locs cells slots la ha hn hP hD hS hl hcs hss
  obtain ⟨hd, rfl⟩ := zf_ok hf
  refine va_dast (D := G.1) C.1 C.2.1 hK hP hD hS c 3 (zW_at (h := (sh, rf, ia, lo, da)) hc) rfl (i := Int32.ofInt i) (x := UInt64.ofNat x.toNat) (z_in hi hn2) hd (fun H locs hP hD hS => ?_)
  rw [z_clamp ⟨hi.1, by omega⟩] at hP hD
  have hP : va_P G.1 vwCl (zW G ad (sh, rf, ia, lo, zu da c i x)) H := by rw [← zW_arrD hc hi.1]; exact hP
  have hD : va_D A (zW G ad (sh, rf, ia, lo, zu da c i x)) := by rw [← zW_arrD hc hi.1]; exact hD
  exact kk p l e R s m args below meth cd C A hA hE hK ad0 n0 ad H locs cells slots la ha hn hP hD hS hl hcs hss
theorem Ev.saload {G : zG} {M : zM} {pc pc9 : Nat} {ls st : List zSV} {sh : List (Nat × Nat)} {rf : Nat → Nat → Option Nat} {ia : Nat → Int → Int} {w : (Nat → Int → Int) × (Nat → Int → Int)} {O : zO} {i : Int}
    (j : Nat) (hf : zf M pc = some (.iaload, 1, pc9)) (hj : j < 3) (hn2 : (G.2.2.2.2.2.1 j).1 ≤ 2147483647) (hi : 0 ≤ i ∧ i < ((G.2.2.2.2.2.1 j).1 : Int)) (kk : Ev G M pc9 ls ((0, (G.2.2.2.2.2.1 j).2 i) :: st) (sh, rf, ia, w) O) : Ev G M pc ls ((0, i) :: (3, (j : Int)) :: st) (sh, rf, ia, w) O := by
  intro p l e R s m args below meth cd C A hA hE hK ad0 n0 ad H locs cells slots la ha hn hP hD hS hl hcs hss
  obtain ⟨hd, rfl⟩ := zf_ok hf
  refine va_ti C.1 C.2.1 (hE.2.2.2.2.2.2.2.2.2.2 j hj) hS (i := Int32.ofInt i) (z_in hi hn2) rfl hd ?_
  rw [z_clamp ⟨hi.1, by omega⟩, Int.toNat_of_nonneg hi.1]
  exact kk p l e R s m args below meth cd C A hA hE hK ad0 n0 ad H locs cells slots la ha hn hP hD hS hl hcs hss
theorem Ev.slen {G : zG} {M : zM} {pc pc9 : Nat} {ls st : List zSV} {sh : List (Nat × Nat)} {rf : Nat → Nat → Option Nat} {ia : Nat → Int → Int} {w : (Nat → Int → Int) × (Nat → Int → Int)} {O : zO} 
    (j : Nat) (hf : zf M pc = some (.arraylength, 1, pc9)) (hj : j < 3) (kk : Ev G M pc9 ls ((0, ((G.2.2.2.2.2.1 j).1 : Int)) :: st) (sh, rf, ia, w) O) : Ev G M pc ls ((3, (j : Int)) :: st) (sh, rf, ia, w) O := by
  intro p l e R s m args below meth cd C A hA hE hK ad0 n0 ad H locs cells slots la ha hn hP hD hS hl hcs hss
  obtain ⟨hd, rfl⟩ := zf_ok hf
  refine va_tlen C.1 C.2.1 (hE.2.2.2.2.2.2.2.2.2.2 j hj) hS Int32.ofInt_eq_ofNat.symm hd ?_
  exact kk p l e R s m args below meth cd C A hA hE hK ad0 n0 ad H locs cells slots la ha hn hP hD hS hl hcs hss
theorem Ev.alen {G : zG} {M : zM} {pc pc9 : Nat} {ls st : List zSV} {sh : List (Nat × Nat)} {rf : Nat → Nat → Option Nat} {ia : Nat → Int → Int} {w : (Nat → Int → Int) × (Nat → Int → Int)} {O : zO} {k : Nat}
    (c n : Nat) (hf : zf M pc = some (.arraylength, 1, pc9)) (hc : sh[c]? = some (k, n)) (hk : k = 1 ∨ k = 2) (kk : Ev G M pc9 ls ((0, (n : Int)) :: st) (sh, rf, ia, w) O) : Ev G M pc ls ((1, (c : Int)) :: st) (sh, rf, ia, w) O := by
  intro p l e R s m args below meth cd C A hA hE hK ad0 n0 ad H locs cells slots la ha hn hP hD hS hl hcs hss
  obtain ⟨hd, rfl⟩ := zf_ok hf
  have e9 := zE_arr (G := G) (ad := ad) (rf := rf) (ia := ia) (w := w) hk hc
  rcases hk with rfl | rfl
  · refine va_alen (D := G.1) C.1 C.2.1 hK hP c 0 e9 (ty := .int) rfl Int32.ofInt_eq_ofNat.symm hd ?_
    exact kk p l e R s m args below meth cd C A hA hE hK ad0 n0 ad H locs cells slots la ha hn hP hD hS hl hcs hss
  · refine va_alen (D := G.1) C.1 C.2.1 hK hP c 1 e9 (ty := .char) rfl Int32.ofInt_eq_ofNat.symm hd ?_
    exact kk p l e R s m args below meth cd C A hA hE hK ad0 n0 ad H locs cells slots la ha hn hP hD hS hl hcs hss
theorem Ev.lows {G : zG} {M : zM} {pc pc9 : Nat} {ls st : List zSV} {sh : List (Nat × Nat)} {rf : Nat → Nat → Option Nat} {ia : Nat → Int → Int} {w : (Nat → Int → Int) × (Nat → Int → Int)} {O : zO} {idx : Nat}
    (hf : zf M pc = some (.getstatic idx, 3, pc9)) (hl9 : Cond.fieldLink M.1.cls idx RX7 "LOWEST_LINE_OF_SPAN" "[I" ∈ zT) (kk : Ev G M pc9 ls ((3, 0) :: st) (sh, rf, ia, w) O) : Ev G M pc ls st (sh, rf, ia, w) O := by
  intro p l e R s m args below meth cd C A hA hE hK ad0 n0 ad H locs cells slots la ha hn hP hD hS hl hcs hss
  obtain ⟨hd, rfl⟩ := zf_ok hf
  refine va_gets C.1 C.2.1 hE.2.2.2.2.2.2.2.2.1 hS C.2.2.2.2.1 (C.2.2.2.2.2.2.1 _ hl9) (fun _ h9 => h9) hd ?_
  exact kk p l e R s m args below meth cd C A hA hE hK ad0 n0 ad H locs cells slots la ha hn hP hD hS hl hcs hss
theorem Ev.highs {G : zG} {M : zM} {pc pc9 : Nat} {ls st : List zSV} {sh : List (Nat × Nat)} {rf : Nat → Nat → Option Nat} {ia : Nat → Int → Int} {w : (Nat → Int → Int) × (Nat → Int → Int)} {O : zO} {idx : Nat}
    (hf : zf M pc = some (.getstatic idx, 3, pc9)) (hl9 : Cond.fieldLink M.1.cls idx RX7 "HIGHEST_LINE_OF_SPAN" "[I" ∈ zT) (kk : Ev G M pc9 ls ((3, 1) :: st) (sh, rf, ia, w) O) : Ev G M pc ls st (sh, rf, ia, w) O := by
  intro p l e R s m args below meth cd C A hA hE hK ad0 n0 ad H locs cells slots la ha hn hP hD hS hl hcs hss
  obtain ⟨hd, rfl⟩ := zf_ok hf
  refine va_gets C.1 C.2.1 hE.2.2.2.2.2.2.2.2.2.1 hS C.2.2.2.2.1 (C.2.2.2.2.2.2.1 _ hl9) (fun _ h9 => h9) hd ?_
  exact kk p l e R s m args below meth cd C A hA hE hK ad0 n0 ad H locs cells slots la ha hn hP hD hS hl hcs hss
theorem Ev.ldcS {G : zG} {M : zM} {pc pc9 : Nat} {ls st : List zSV} {sh : List (Nat × Nat)} {rf : Nat → Nat → Option Nat} {ia : Nat → Int → Int} {w : (Nat → Int → Int) × (Nat → Int → Int)} {O : zO} {idx : Nat} {tx : String}
    (i : Nat) (hf : zf M pc = some (.ldc idx, 2, pc9)) (hi : zSK[i]? = some (M.1.cls, idx, tx)) (kk : Ev G M pc9 ls ((2, (i : Int)) :: st) (sh, rf, ia, w) O) : Ev G M pc ls st (sh, rf, ia, w) O := by
  intro p l e R s m args below meth cd C A hA hE hK ad0 n0 ad H locs cells slots la ha hn hP hD hS hl hcs hss
  obtain ⟨hd, rfl⟩ := zf_ok hf
  refine va_ldcS C.1 C.2.1 C.2.2.2.2.1 (hE.2.2.1 i _ hi) hd ?_
  exact kk p l e R s m args below meth cd C A hA hE hK ad0 n0 ad H locs cells slots la ha hn hP hD hS hl hcs hss
theorem Ev.ldcD {G : zG} {M : zM} {pc pc9 : Nat} {ls st : List zSV} {sh : List (Nat × Nat)} {rf : Nat → Nat → Option Nat} {ia : Nat → Int → Int} {w : (Nat → Int → Int) × (Nat → Int → Int)} {O : zO} {idx b : Nat}
    (hf : zf M pc = some (.ldc2_w idx, 3, pc9)) (hl9 : Cond.constantDouble M.1.cls idx (UInt64.ofNat b) ∈ zT) (kk : Ev G M pc9 ls ((5, (b : Int)) :: st) (sh, rf, ia, w) O) : Ev G M pc ls st (sh, rf, ia, w) O := by
  intro p l e R s m args below meth cd C A hA hE hK ad0 n0 ad H locs cells slots la ha hn hP hD hS hl hcs hss
  obtain ⟨hd, rfl⟩ := zf_ok hf
  refine lv_ldc2d C.1 C.2.1 C.2.2.2.2.1 (C.2.2.2.2.2.2.1 _ hl9) hd ?_
  exact kk p l e R s m args below meth cd C A hA hE hK ad0 n0 ad H locs cells slots la ha hn hP hD hS hl hcs hss
theorem z_cpy {f g : Int → Int} {sp dp n : Int} (h1 : 0 ≤ sp) (h2 : 0 ≤ dp) (h3 : 0 ≤ n) : va_cpy (fun j : Nat => Int32.ofInt (f (j : Int))) (fun j : Nat => Int32.ofInt (g (j : Int))) sp.toNat dp.toNat n.toNat = fun j : Nat => Int32.ofInt (if dp ≤ (j : Int) ∧ (j : Int) < dp + n then f (sp + ((j : Int) - dp)) else g (j : Int)) := by
  funext j
  unfold va_cpy
  by_cases e : dp.toNat ≤ j ∧ j < dp.toNat + n.toNat
  · rw [if_pos e, if_pos (by omega)]
    show Int32.ofInt (f ((sp.toNat + (j - dp.toNat) : Nat) : Int)) = _
    rw [show ((sp.toNat + (j - dp.toNat) : Nat) : Int) = sp + ((j : Int) - dp) by omega]
  · rw [if_neg e, if_neg (by omega)]
/-- n places of the array c0 from sp on, copied to the array c1 from dp on -/
def zcp (ia : Nat → Int → Int) (c0 : Nat) (sp : Int) (c1 : Nat) (dp n : Int) : Nat → Int → Int := fun c i => if c = c1 ∧ dp ≤ i ∧ i < dp + n then ia c0 (sp + (i - dp)) else ia c i
theorem zW_cpy {G : zG} {ad : Nat → Nat} {sh : List (Nat × Nat)} {rf : Nat → Nat → Option Nat} {ia : Nat → Int → Int} {w : (Nat → Int → Int) × (Nat → Int → Int)} {c0 c1 n1 : Nat} {sp dp n : Int} (hc : sh[c1]? = some (1, n1)) (h1 : 0 ≤ sp) (h2 : 0 ≤ dp) (h3 : 0 ≤ n) : (zW G ad (sh, rf, ia, w)).set c1 (ad c1, .inl (G.2.1 0, n1, .inl (va_cpy (fun j : Nat => Int32.ofInt (ia c0 (j : Int))) (fun j : Nat => Int32.ofInt (ia c1 (j : Int))) sp.toNat dp.toNat n.toNat))) = zW G ad (sh, rf, zcp ia c0 sp c1 dp n, w) := by
  refine zW_set rfl (fun j kn hj => zE_off rfl (by funext k; unfold zcp; rw [if_neg (fun e => hj e.1)]) rfl rfl) (fun kn h => ?_)
  cases hc.symm.trans h
  rw [z_cpy h1 h2 h3]
  unfold zE zcp
  simp
theorem Ev.copy {G : zG} {M : zM} {pc pc9 : Nat} {ls st : List zSV} {sh : List (Nat × Nat)} {rf : Nat → Nat → Option Nat} {ia : Nat → Int → Int} {w : (Nat → Int → Int) × (Nat → Int → Int)} {O : zO} {idx : Nat} {sp dp n : Int}
    (c0 c1 n0a n1 : Nat) (hf : zf M pc = some (.invokestatic idx, 3, pc9)) (hl9 : Cond.methodLink M.1.cls idx arraycopyName ∈ zT) (hnat : Cond.native arraycopyName ∈ zT) (hsta : Cond.static arraycopyName ∈ zT) (hini : Cond.initialized "java/lang/System" ∈ zT) (hc0 : sh[c0]? = some (1, n0a)) (hc1 : sh[c1]? = some (1, n1)) (h0n : n0a ≤ 2147483647) (h1n : n1 ≤ 2147483647) (h1 : 0 ≤ sp ∧ 0 ≤ dp ∧ 0 ≤ n ∧ sp + n ≤ (n0a : Int) ∧ dp + n ≤ (n1 : Int)) (hfr : 1 ≤ M.2.2.2.2.2.1) (hlo : (st.map zcat).sum + (nativeFrameWords "java/lang/System" "arraycopy" 5 + 11) ≤ M.2.2.2.2.2.2) (kk : Ev G M pc9 ls st (sh, rf, zcp ia c0 sp c1 dp n, w) O) : Ev G M pc ls ((0, n) :: (0, dp) :: (1, (c1 : Int)) :: (0, sp) :: (1, (c0 : Int)) :: st) (sh, rf, ia, w) O := by
  intro p l e R s m args below meth cd C A hA hE hK ad0 n0 ad H locs cells slots la ha hn hP hD hS hl hcs hss
  obtain ⟨hd, rfl⟩ := zf_ok hf
  obtain ⟨h1, h2, h3, h4, h5⟩ := h1
  have nn : ∀ z : Int, 0 ≤ z ∧ z ≤ 2147483647 → ¬ Int32.ofInt z < 0 := fun z hz => by rw [z_0, z_lt ⟨by omega, by omega⟩ z_r0]; omega
  refine va_copyi (D := G.1) C.1 C.2.1 (C.2.2.1.trans hl.1.symm) C.2.2.2.2.1 (C.2.2.2.2.2.2.1 _ hl9) (C.2.2.2.2.2.2.1 _ hnat) (C.2.2.2.2.2.2.1 _ hsta) (C.2.2.2.2.2.2.1 _ hini) hK hP hD hS c0 c1 0 0 (zE_arr (k := 1) (by simp) hc0) (zE_arr (k := 1) (by simp) hc1) (ty := .int) rfl rfl rfl (sp := Int32.ofInt sp) (dp := Int32.ofInt dp) (n := Int32.ofInt n) (nn _ ⟨h1, by omega⟩) (nn _ ⟨h2, by omega⟩) (nn _ ⟨h3, by omega⟩) (by rw [z_clamp ⟨h1, by omega⟩, z_clamp ⟨h3, by omega⟩]; omega) (by rw [z_clamp ⟨h2, by omega⟩, z_clamp ⟨h3, by omega⟩]; omega) (fun _ _ => rfl) (Nat.le_trans hfr C.2.2.2.2.2.2.2.2.2.1) (by rw [zcats]; exact Nat.le_trans hlo C.2.2.2.2.2.2.2.2.2.2.1) hd (fun H locs hP hD hS => ?_)
  rw [z_clamp ⟨h1, by omega⟩, z_clamp ⟨h2, by omega⟩, z_clamp ⟨h3, by omega⟩, zW_cpy hc1 h1 h2 h3] at hP hD
  exact kk p l e R s m args below meth cd C A hA hE hK ad0 n0 ad H locs cells slots la ha hn hP hD hS hl hcs hss
theorem Ev.objInit {G : zG} {M : zM} {pc pc9 : Nat} {ls st : List zSV} {sh : List (Nat × Nat)} {rf : Nat → Nat → Option Nat} {ia : Nat → Int → Int} {w : (Nat → Int → Int) × (Nat → Int → Int)} {O : zO} {idx : Nat}
    (c : Nat) (hf : zf M pc = some (.invokespecial idx, 3, pc9)) (hl9 : Cond.methodLink M.1.cls idx Lib.objectInit ∈ zT) (hin : Cond.instanceMethod Lib.objectInit ∈ zT) (hco : Cond.code Lib.objectInit ⟨#[0xb1]⟩ 1 none ∈ zT) (hfr : 1 ≤ M.2.2.2.2.2.1) (hlo : (st.map zcat).sum + 12 ≤ M.2.2.2.2.2.2) (kk : Ev G M pc9 ls st (sh, rf, ia, w) O) : Ev G M pc ls ((1, (c : Int)) :: st) (sh, rf, ia, w) O := by
  intro p l e R s m args below meth cd C A hA hE hK ad0 n0 ad H locs cells slots la ha hn hP hD hS hl hcs hss
  obtain ⟨hd, rfl⟩ := zf_ok hf
  refine W.objInit C.1 C.2.1 C.2.2.2.2.1 (C.2.2.2.2.2.2.1 _ hl9) (C.2.2.2.2.2.2.1 _ hin) (C.2.2.2.2.2.2.1 _ hco) rfl (by rw [C.2.2.1]; exact hl.1) rfl hd (Nat.le_trans hfr C.2.2.2.2.2.2.2.2.2.1) (by rw [zcats]; exact Nat.le_trans (by simpa [JFrame.monitorRoom] using hlo) C.2.2.2.2.2.2.2.2.2.2.1) ?_
  exact kk p l e R s m args below meth cd C A hA hE hK ad0 n0 ad H locs cells slots la ha hn hP hD hS hl hcs hss
theorem Ev.retI {G : zG} {M : zM} {pc pc9 : Nat} {ls st : List zSV} {sh : List (Nat × Nat)} {rf : Nat → Nat → Option Nat} {ia : Nat → Int → Int} {w : (Nat → Int → Int) × (Nat → Int → Int)} {O : zO} {t : FieldType} {x : Int}
    (hf : zf M pc = some (.ireturn, 1, pc9)) (hr : M.2.2.2.1 = some t) (hx : zNar t x) : Ev G M pc ls [(0, x)] (sh, rf, ia, w) (.inl (some (0, x)), (sh, rf, ia, w), 0, 0) := by
  intro p l e R s m args below meth cd C A hA hE hK ad0 n0 ad H locs cells slots la ha hn hP hD hS hl hcs hss
  obtain ⟨hd, rfl⟩ := zf_ok hf
  refine W.widen (k := R.cells) (n := R.slots) hcs hss ?_
  refine vx_ret ?_
  exact W.zret (v := Int32.ofInt x) C.1 C.2.1 (C.2.2.2.1.trans hr) (zNar_ok hx).1 (fun t ht hW => ⟨⟨some (0, x), ad, rfl, rfl, by rw [ht]; exact hP, hD, ha⟩, hS.F ht⟩) hS.2.2 hd C.2.2.2.2.2.1
theorem Ev.retV {G : zG} {M : zM} {pc pc9 : Nat} {ls st : List zSV} {sh : List (Nat × Nat)} {rf : Nat → Nat → Option Nat} {ia : Nat → Int → Int} {w : (Nat → Int → Int) × (Nat → Int → Int)} {O : zO} 
    (hf : zf M pc = some (.return_, 1, pc9)) (hr : M.2.2.2.1 = none) : Ev G M pc ls [] (sh, rf, ia, w) (.inl none, (sh, rf, ia, w), 0, 0) := by
  intro p l e R s m args below meth cd C A hA hE hK ad0 n0 ad H locs cells slots la ha hn hP hD hS hl hcs hss
  obtain ⟨hd, rfl⟩ := zf_ok hf
  refine W.widen (k := R.cells) (n := R.slots) hcs hss ?_
  refine vx_ret ?_
  exact W.vret C.1 C.2.1 (C.2.2.2.1.trans hr) (fun t ht hW => ⟨⟨none, ad, rfl, rfl, by rw [ht]; exact hP, hD, ha⟩, hS.F ht⟩) hS.2.2 hd C.2.2.2.2.2.1
theorem Ev.retD {G : zG} {M : zM} {pc pc9 : Nat} {ls st : List zSV} {sh : List (Nat × Nat)} {rf : Nat → Nat → Option Nat} {ia : Nat → Int → Int} {w : (Nat → Int → Int) × (Nat → Int → Int)} {O : zO} {x : Int}
    (hf : zf M pc = some (.dreturn, 1, pc9)) (hr : M.2.2.2.1 = some .double) : Ev G M pc ls [(5, x)] (sh, rf, ia, w) (.inl (some (5, x)), (sh, rf, ia, w), 0, 0) := by
  intro p l e R s m args below meth cd C A hA hE hK ad0 n0 ad H locs cells slots la ha hn hP hD hS hl hcs hss
  obtain ⟨hd, rfl⟩ := zf_ok hf
  refine W.widen (k := R.cells) (n := R.slots) hcs hss ?_
  refine vx_ret ?_
  exact W.dret C.1 C.2.1 (C.2.2.2.1.trans hr) (fun t ht hW => ⟨⟨some (5, x), ad, rfl, rfl, by rw [ht]; exact hP, hD, ha⟩, hS.F ht⟩) hS.2.2 hd C.2.2.2.2.2.1
theorem Ev.retF {G : zG} {M : zM} {pc pc9 : Nat} {ls st : List zSV} {sh : List (Nat × Nat)} {rf : Nat → Nat → Option Nat} {ia : Nat → Int → Int} {w : (Nat → Int → Int) × (Nat → Int → Int)} {O : zO} {x : Int}
    (hf : zf M pc = some (.freturn, 1, pc9)) (hr : M.2.2.2.1 = some .float) : Ev G M pc ls [(6, x)] (sh, rf, ia, w) (.inl (some (6, x)), (sh, rf, ia, w), 0, 0) := by
  intro p l e R s m args below meth cd C A hA hE hK ad0 n0 ad H locs cells slots la ha hn hP hD hS hl hcs hss
  obtain ⟨hd, rfl⟩ := zf_ok hf
  refine W.widen (k := R.cells) (n := R.slots) hcs hss ?_
  refine vx_ret ?_
  exact W.fret C.1 C.2.1 (C.2.2.2.1.trans hr) (fun t ht hW => ⟨⟨some (6, x), ad, rfl, rfl, by rw [ht]; exact hP, hD, ha⟩, hS.F ht⟩) hS.2.2 hd C.2.2.2.2.2.1
theorem Ev.retS {G : zG} {M : zM} {pc pc9 : Nat} {ls st : List zSV} {sh : List (Nat × Nat)} {rf : Nat → Nat → Option Nat} {ia : Nat → Int → Int} {w : (Nat → Int → Int) × (Nat → Int → Int)} {O : zO} {x : Int}
    (hf : zf M pc = some (.areturn, 1, pc9)) (hr : M.2.2.2.1 = some (.object "java/lang/String")) : Ev G M pc ls [(2, x)] (sh, rf, ia, w) (.inl (some (2, x)), (sh, rf, ia, w), 0, 0) := by
  intro p l e R s m args below meth cd C A hA hE hK ad0 n0 ad H locs cells slots la ha hn hP hD hS hl hcs hss
  obtain ⟨hd, rfl⟩ := zf_ok hf
  refine W.widen (k := R.cells) (n := R.slots) hcs hss ?_
  refine vx_ret ?_
  exact W.aret (v := .ref (G.2.2.1 x.toNat)) (rt := .object "java/lang/String") C.1 C.2.1 (C.2.2.2.1.trans hr) (Or.inl ⟨_, rfl⟩) (Or.inr ⟨_, rfl⟩) (fun t ht hW => ⟨⟨some (2, x), ad, rfl, rfl, by rw [ht]; exact hP, hD, ha⟩, hS.F ht⟩) hS.2.2 hd C.2.2.2.2.2.1
end
section
/-! MAKING CELLS, CALLS, THROWS, CATCHES -/
def zOk (n : Nat) (v : zSV) : Bool := match v with
  | (1, k) => decide (k.toNat < n)
  | _ => true
theorem zc_ad {G : zG} {ad ad' : Nat → Nat} {n : Nat} {v : zSV} (h : ∀ c, c < n → ad' c = ad c) (hv : zOk n v = true) : zc G ad' v = zc G ad v := by
  obtain ⟨t, x⟩ := v
  match t with
  | 0 => rfl
  | 1 =>
    have h1 : x.toNat < n := by simpa [zOk] using hv
    show Value.ref (ad' x.toNat) = Value.ref (ad x.toNat)
    rw [h _ h1]
  | 2 => rfl
  | 3 => rfl
  | 4 => rfl
  | 5 => rfl
  | 6 => rfl
  | 7 => rfl
  | 8 => rfl
  | t + 9 => simp [zc]
theorem zcs_ad {G : zG} {ad ad' : Nat → Nat} {n : Nat} {l : List zSV} (h : ∀ c, c < n → ad' c = ad c) (hv : l.all (zOk n) = true) : l.map (zc G ad') = l.map (zc G ad) := List.map_congr_left fun v hm => zc_ad h (List.all_eq_true.mp hv v hm)
theorem zL_ad {G : zG} {ad ad' : Nat → Nat} {n : Nat} {l : List zSV} (h : ∀ c, c < n → ad' c = ad c) (hv : l.all (zOk n) = true) {la : Array Slot} {k : Nat} (hl : lv_has la k (zL G ad l)) : lv_has la k (zL G ad' l) := by
  refine lv_less hl fun q hq => ?_
  obtain ⟨w, h1, h2, h3⟩ := zL_mem.mp hq
  exact zL_mem.mpr ⟨w, h1, h2, h3.trans (zc_ad h (List.all_eq_true.mp hv w (List.mem_of_getElem? h1)))⟩
/-- the references of the first n cells lead to them -/
def zRfOk (n : Nat) (rf : Nat → Nat → Option Nat) : Bool := (List.range n).all fun c => (List.range 22).all fun k => match rf c k with
  | some q => decide (q < n)
  | none => true
theorem zRf_at {n c k q : Nat} {rf : Nat → Nat → Option Nat} (h : zRfOk n rf = true) (hc : c < n) (hk : k < 22) (hq : rf c k = some q) : q < n := by
  have h1 := List.all_eq_true.mp h c (List.mem_range.mpr hc)
  have h2 := List.all_eq_true.mp h1 k (List.mem_range.mpr hk)
  simp only [hq] at h2
  simpa using h2
theorem zN_le (ci : Nat) : zN ci ≤ 22 := by
  unfold zN
  split <;> omega
theorem zE_ad {G : zG} {ad ad' : Nat → Nat} {sh sh' : List (Nat × Nat)} {rf rf' : Nat → Nat → Option Nat} {ia ia' lo lo' da da' : Nat → Int → Int} {n j : Nat} {kn : Nat × Nat} (had : ∀ c, c < n → ad' c = ad c) (hrf : zRfOk n rf = true) (hj : j < n) (h1 : rf' j = rf j) (h2 : ia' j = ia j) (h3 : lo' j = lo j) (h4 : da' j = da j) : zE G ad' (sh', rf', ia', lo', da') j kn = zE G ad (sh, rf, ia, lo, da) j kn := by
  have hf : ∀ ci, zF ad' (sh', rf', ia', lo', da') j ci = zF ad (sh, rf, ia, lo, da) j ci := by
    intro ci
    unfold zF
    refine List.map_congr_left fun k hk => ?_
    have hk2 := List.mem_range.mp hk
    dsimp only
    rw [h1, h2]
    cases hq : rf j k with
    | none => rfl
    | some q =>
      have := zRf_at hrf hj (Nat.lt_of_lt_of_le hk2 (zN_le ci)) hq
      show (if zR ci k = true then va_rf (some (ad' q)) else _) = (if zR ci k = true then va_rf (some (ad q)) else _)
      rw [had q this]
  unfold zE
  split <;> simp only [hf, h2, h3, h4]
theorem zW_push {G : zG} {ad ad' : Nat → Nat} {sh : List (Nat × Nat)} {kn : Nat × Nat} {rf rf' : Nat → Nat → Option Nat} {ia ia' lo lo' da da' : Nat → Int → Int} (had : ∀ c, c < sh.length → ad' c = ad c) (hrf : zRfOk sh.length rf = true) (h1 : ∀ j, j < sh.length → rf' j = rf j) (h2 : ∀ j, j < sh.length → ia' j = ia j) (h3 : ∀ j, j < sh.length → lo' j = lo j) (h4 : ∀ j, j < sh.length → da' j = da j) :
    zW G ad' (sh ++ [kn], rf', ia', lo', da') = zW G ad (sh, rf, ia, lo, da) ++ [(ad' sh.length, zE G ad' (sh ++ [kn], rf', ia', lo', da') sh.length kn)] := by
  unfold zW
  dsimp only
  rw [List.mapIdx_concat]
  congr 1
  apply List.ext_getElem?
  intro j
  rw [List.getElem?_mapIdx, List.getElem?_mapIdx]
  cases hk : sh[j]? with
  | none => rfl
  | some x =>
    have hj := (List.getElem?_eq_some_iff.mp hk).1
    show some (ad' j, zE G ad' (sh ++ [kn], rf', ia', lo', da') j x) = some (ad j, zE G ad (sh, rf, ia, lo, da) j x)
    rw [had j hj, zE_ad had hrf hj (h1 j hj) (h2 j hj) (h3 j hj) (h4 j hj)]
def zcr (rf : Nat → Nat → Option Nat) (n : Nat) : Nat → Nat → Option Nat := fun c k => if c = n then none else rf c k
def zci (ia : Nat → Int → Int) (n : Nat) : Nat → Int → Int := fun c i => if c = n then 0 else ia c i
theorem zcr_lt {rf : Nat → Nat → Option Nat} {n j : Nat} (h : j < n) : zcr rf n j = rf j := by
  funext k
  unfold zcr
  rw [if_neg (by omega)]
theorem zci_lt {ia : Nat → Int → Int} {n j : Nat} (h : j < n) : zci ia n j = ia j := by
  funext k
  unfold zci
  rw [if_neg (by omega)]
/-- the addresses, with one more at the end -/
def zAd (ad : Nat → Nat) (n q : Nat) : Nat → Nat := fun c => if c = n then q else ad c
theorem zAd_lt {ad : Nat → Nat} {n q : Nat} : ∀ c, c < n → zAd ad n q c = ad c := fun c h => by
  unfold zAd
  rw [if_neg (by omega)]
theorem zAd_n {ad : Nat → Nat} {n q : Nat} : zAd ad n q n = q := by
  unfold zAd
  rw [if_pos rfl]
/-- 'new' of a class of ours -/
def zNl (M : zM) (idx ci : Nat) : Prop := ∃ (C : String) (T : u_T) (ty : Nat → FieldType), zClOk ci C T ty ∧ Cond.classLink M.1.cls idx C ∈ zT ∧ Cond.instantiable C (zN ci) ∈ zT ∧ Cond.initialized C ∈ zT
theorem Ev.new {G : zG} {M : zM} {pc pc9 : Nat} {ls st : List zSV} {sh : List (Nat × Nat)} {rf : Nat → Nat → Option Nat} {ia : Nat → Int → Int} {w : (Nat → Int → Int) × (Nat → Int → Int)} {idx ci : Nat} {o : Option zSV ⊕ String} {h2 : zHp} {ce sl : Nat} (n ce1 sl1 : Nat) (hn9 : sh.length = n) (hf : zf M pc = some (.new idx, 3, pc9)) (hl9 : zNl M idx ci) (h1l : ls.all (zOk n) = true) (h1s : st.all (zOk n) = true) (hrf : zRfOk n rf = true) (hce : ce1 + 1 = ce) (hsl : sl1 + zN ci = sl)
    (kk : Ev G M pc9 ls ((1, (n : Int)) :: st) (sh ++ [(0, ci)], zcr rf n, zci ia n, w) (o, h2, ce1, sl1)) : Ev G M pc ls st (sh, rf, ia, w) (o, h2, ce, sl) := by
  intro p l e R s m args below meth cd C A hA hE hK ad0 n0 ad H locs cells slots la ha hn hP hD hS hl hcs hss
  obtain ⟨hd, rfl⟩ := zf_ok hf
  obtain ⟨C0, T0, ty0, hcl, hk1, hk2, hk3⟩ := hl9
  subst hn9
  subst hce
  subst hsl
  dsimp only at hcs hss hn
  refine va_new (D := G.1) (ci := ci) (C := C0) (T := T0) (N := zN ci) (fs := (List.range (zN ci)).map fun k => if zR ci k then .null else .int 0) C.1 C.2.1 C.2.2.2.2.2.2.1 hcl.2.1 ty0 hcl.2.2.1 C.2.2.2.2.1 (C.2.2.2.2.2.2.1 _ hk1) (C.2.2.2.2.2.2.1 _ hk2) (C.2.2.2.2.2.2.1 _ hk3) hK hP hD hS hA hcl.1 (fun j hj => ?_) (by omega) (by omega) hd (fun q H1 hP1 hD1 hS1 => ?_)
  · rw [hcl.2.2.2.2.2 j hj]
    unfold vp_V
    rw [List.getD_eq_getElem?_getD, List.getElem?_map, List.getElem?_range hj]
    rfl
  · have e9 : zW G (zAd ad sh.length q) (sh ++ [(0, ci)], zcr rf sh.length, zci ia sh.length, w) = zW G ad (sh, rf, ia, w) ++ [(q, .inr (ci, (List.range (zN ci)).map fun k => if zR ci k then .null else .int 0))] := by
      rw [zW_push (ad := ad) (lo := w.1) (da := w.2) zAd_lt hrf (fun j hj => zcr_lt hj) (fun j hj => zci_lt hj) (fun _ _ => rfl) (fun _ _ => rfl), zAd_n]
      congr 3
      unfold zE zF zcr zci
      simp only [if_true, Option.map_none]
      congr 2
    have kk2 := kk p l e R s m args below meth cd C A hA hE hK ad0 n0 (zAd ad sh.length q) H1 locs (cells + 1) (slots + zN ci) la (fun c hc => (zAd_lt c (by omega)).trans (ha c hc)) (by dsimp only; rw [List.length_append]; omega) (by rw [e9]; exact hP1) (by rw [e9]; exact hD1) hS1 (zL_ad zAd_lt h1l hl) (by dsimp only; omega) (by dsimp only; omega)
    rw [List.map_cons, zcs_ad zAd_lt h1s] at kk2
    have e8 : zc G (zAd ad sh.length q) (1, (sh.length : Int)) = .ref q := by
      show Value.ref (zAd ad sh.length q ((sh.length : Int)).toNat) = _
      rw [Int.toNat_natCast, zAd_n]
    rw [e8] at kk2
    exact kk2
/-! PRINTED from here on (wip/whole/gen/sim4.py) -/
theorem Ev.newaI {G : zG} {M : zM} {pc pc9 : Nat} {ls st : List zSV} {sh : List (Nat × Nat)} {rf : Nat → Nat → Option Nat} {ia : Nat → Int → Int} {w : (Nat → Int → Int) × (Nat → Int → Int)} {o : Option zSV ⊕ String} {h2 : zHp} {ce sl : Nat} (n N ce1 sl1 : Nat) (hn9 : sh.length = n) (hf : zf M pc = some (.newarray .int, 2, pc9)) (hac : Cond.arrayClass .int ∈ zT) (h1l : ls.all (zOk n) = true) (h1s : st.all (zOk n) = true) (hrf : zRfOk n rf = true) (hN : N ≤ 100000) (hce : ce1 + 1 = ce) (hsl : sl1 + N = sl)
    (kk : Ev G M pc9 ls ((1, (n : Int)) :: st) (sh ++ [(1, N)], zcr rf n, zci ia n, w) (o, h2, ce1, sl1)) : Ev G M pc ls ((0, (N : Int)) :: st) (sh, rf, ia, w) (o, h2, ce, sl) := by
  intro p l e R s m args below meth cd C A hA hE hK ad0 n0 ad H locs cells slots la ha hn hP hD hS hl hcs hss
  obtain ⟨hd, rfl⟩ := zf_ok hf
  subst hn9
  subst hce
  subst hsl
  dsimp only at hcs hss hn
  refine va_newa (D := G.1) (atype := .int) (ty := .int) (a0 := (N, .inl fun _ => 0)) (N' := N) C.1 C.2.1 (C.2.2.2.2.2.2.1 _ hac) rfl hK hP hD hS hA (n := Int32.ofInt (N : Int)) (fun _ => rfl) (by rw [z_0, z_lt ⟨by omega, by omega⟩ z_r0]; omega) (by rw [z_clamp ⟨by omega, by omega⟩, Int.toNat_natCast]) (by simp [componentBytes]; omega) (by omega) (by omega) hd (fun q cA H1 hK1 hP1 hD1 hS1 => ?_)
  have hcA : cA = G.2.1 0 := Option.some.inj (((hK1.2 4 (cA, .int) rfl).2).symm.trans (hK.2 0 (G.2.1 0, .int) rfl).2)
  subst hcA
  have e9 : zW G (zAd ad sh.length q) (sh ++ [(1, N)], zcr rf sh.length, zci ia sh.length, w) = zW G ad (sh, rf, ia, w) ++ [(q, .inl (G.2.1 0, N, .inl fun _ => 0))] := by
    rw [zW_push (ad := ad) (lo := w.1) (da := w.2) zAd_lt hrf (fun j hj => zcr_lt hj) (fun j hj => zci_lt hj) (fun _ _ => rfl) (fun _ _ => rfl), zAd_n]
    congr 3
    unfold zE zci
    simp only [if_true]
    rfl
  have kk2 := kk p l e R s m args below meth cd C A hA hE hK ad0 n0 (zAd ad sh.length q) H1 locs (cells + 1) (slots + N) la (fun c hc => (zAd_lt c (by omega)).trans (ha c hc)) (by dsimp only; rw [List.length_append]; omega) (by rw [e9]; exact hP1) (by rw [e9]; exact hD1) hS1 (zL_ad zAd_lt h1l hl) (by dsimp only; omega) (by dsimp only; omega)
  rw [List.map_cons, zcs_ad zAd_lt h1s] at kk2
  have e8 : zc G (zAd ad sh.length q) (1, (sh.length : Int)) = .ref q := by
    show Value.ref (zAd ad sh.length q ((sh.length : Int)).toNat) = _
    rw [Int.toNat_natCast, zAd_n]
  rw [e8] at kk2
  exact kk2
theorem Ev.newaC {G : zG} {M : zM} {pc pc9 : Nat} {ls st : List zSV} {sh : List (Nat × Nat)} {rf : Nat → Nat → Option Nat} {ia : Nat → Int → Int} {w : (Nat → Int → Int) × (Nat → Int → Int)} {o : Option zSV ⊕ String} {h2 : zHp} {ce sl : Nat} (n N ce1 sl1 : Nat) (hn9 : sh.length = n) (hf : zf M pc = some (.newarray .char, 2, pc9)) (hac : Cond.arrayClass .char ∈ zT) (h1l : ls.all (zOk n) = true) (h1s : st.all (zOk n) = true) (hrf : zRfOk n rf = true) (hN : N ≤ 100000) (hce : ce1 + 1 = ce) (hsl : sl1 + N = sl)
    (kk : Ev G M pc9 ls ((1, (n : Int)) :: st) (sh ++ [(2, N)], zcr rf n, zci ia n, w) (o, h2, ce1, sl1)) : Ev G M pc ls ((0, (N : Int)) :: st) (sh, rf, ia, w) (o, h2, ce, sl) := by
  intro p l e R s m args below meth cd C A hA hE hK ad0 n0 ad H locs cells slots la ha hn hP hD hS hl hcs hss
  obtain ⟨hd, rfl⟩ := zf_ok hf
  subst hn9
  subst hce
  subst hsl
  dsimp only at hcs hss hn
  refine va_newa (D := G.1) (atype := .char) (ty := .char) (a0 := (N, .inl fun _ => 0)) (N' := N) C.1 C.2.1 (C.2.2.2.2.2.2.1 _ hac) rfl hK hP hD hS hA (n := Int32.ofInt (N : Int)) (fun _ => rfl) (by rw [z_0, z_lt ⟨by omega, by omega⟩ z_r0]; omega) (by rw [z_clamp ⟨by omega, by omega⟩, Int.toNat_natCast]) (by simp [componentBytes]; omega) (by omega) (by omega) hd (fun q cA H1 hK1 hP1 hD1 hS1 => ?_)
  have hcA : cA = G.2.1 1 := Option.some.inj (((hK1.2 4 (cA, .char) rfl).2).symm.trans (hK.2 1 (G.2.1 1, .char) rfl).2)
  subst hcA
  have e9 : zW G (zAd ad sh.length q) (sh ++ [(2, N)], zcr rf sh.length, zci ia sh.length, w) = zW G ad (sh, rf, ia, w) ++ [(q, .inl (G.2.1 1, N, .inl fun _ => 0))] := by
    rw [zW_push (ad := ad) (lo := w.1) (da := w.2) zAd_lt hrf (fun j hj => zcr_lt hj) (fun j hj => zci_lt hj) (fun _ _ => rfl) (fun _ _ => rfl), zAd_n]
    congr 3
    unfold zE zci
    simp only [if_true]
    rfl
  have kk2 := kk p l e R s m args below meth cd C A hA hE hK ad0 n0 (zAd ad sh.length q) H1 locs (cells + 1) (slots + N) la (fun c hc => (zAd_lt c (by omega)).trans (ha c hc)) (by dsimp only; rw [List.length_append]; omega) (by rw [e9]; exact hP1) (by rw [e9]; exact hD1) hS1 (zL_ad zAd_lt h1l hl) (by dsimp only; omega) (by dsimp only; omega)
  rw [List.map_cons, zcs_ad zAd_lt h1s] at kk2
  have e8 : zc G (zAd ad sh.length q) (1, (sh.length : Int)) = .ref q := by
    show Value.ref (zAd ad sh.length q ((sh.length : Int)).toNat) = _
    rw [Int.toNat_natCast, zAd_n]
  rw [e8] at kk2
  exact kk2
theorem Ev.newaL {G : zG} {M : zM} {pc pc9 : Nat} {ls st : List zSV} {sh : List (Nat × Nat)} {rf : Nat → Nat → Option Nat} {ia : Nat → Int → Int} {lo da : Nat → Int → Int} {o : Option zSV ⊕ String} {h2 : zHp} {ce sl : Nat} (n N ce1 sl1 : Nat) (hn9 : sh.length = n) (hf : zf M pc = some (.newarray .long, 2, pc9)) (hac : Cond.arrayClass .long ∈ zT) (h1l : ls.all (zOk n) = true) (h1s : st.all (zOk n) = true) (hrf : zRfOk n rf = true) (hN : N ≤ 100000) (hce : ce1 + 1 = ce) (hsl : sl1 + N = sl)
    (kk : Ev G M pc9 ls ((1, (n : Int)) :: st) (sh ++ [(3, N)], zcr rf n, zci ia n, (zci lo n, da)) (o, h2, ce1, sl1)) : Ev G M pc ls ((0, (N : Int)) :: st) (sh, rf, ia, lo, da) (o, h2, ce, sl) := by
  intro p l e R s m args below meth cd C A hA hE hK ad0 n0 ad H locs cells slots la ha hn hP hD hS hl hcs hss
  obtain ⟨hd, rfl⟩ := zf_ok hf
  subst hn9
  subst hce
  subst hsl
  dsimp only at hcs hss hn
  refine va_newa (D := G.1) (atype := .long) (ty := .long) (a0 := (N, .inr (.inl fun _ => 0))) (N' := N) C.1 C.2.1 (C.2.2.2.2.2.2.1 _ hac) rfl hK hP hD hS hA (n := Int32.ofInt (N : Int)) (fun _ => rfl) (by rw [z_0, z_lt ⟨by omega, by omega⟩ z_r0]; omega) (by rw [z_clamp ⟨by omega, by omega⟩, Int.toNat_natCast]) (by simp [componentBytes]; omega) (by omega) (by omega) hd (fun q cA H1 hK1 hP1 hD1 hS1 => ?_)
  have hcA : cA = G.2.1 2 := Option.some.inj (((hK1.2 4 (cA, .long) rfl).2).symm.trans (hK.2 2 (G.2.1 2, .long) rfl).2)
  subst hcA
  have e9 : zW G (zAd ad sh.length q) (sh ++ [(3, N)], zcr rf sh.length, zci ia sh.length, zci lo sh.length, da) = zW G ad (sh, rf, ia, lo, da) ++ [(q, .inl (G.2.1 2, N, .inr (.inl fun _ => 0)))] := by
    rw [zW_push (ad := ad) (lo := lo) (da := da) zAd_lt hrf (fun j hj => zcr_lt hj) (fun j hj => zci_lt hj) (fun j hj => zci_lt hj) (fun _ _ => rfl), zAd_n]
    congr 3
    unfold zE zci
    simp only [if_true]
    rfl
  have kk2 := kk p l e R s m args below meth cd C A hA hE hK ad0 n0 (zAd ad sh.length q) H1 locs (cells + 1) (slots + N) la (fun c hc => (zAd_lt c (by omega)).trans (ha c hc)) (by dsimp only; rw [List.length_append]; omega) (by rw [e9]; exact hP1) (by rw [e9]; exact hD1) hS1 (zL_ad zAd_lt h1l hl) (by dsimp only; omega) (by dsimp only; omega)
  rw [List.map_cons, zcs_ad zAd_lt h1s] at kk2
  have e8 : zc G (zAd ad sh.length q) (1, (sh.length : Int)) = .ref q := by
    show Value.ref (zAd ad sh.length q ((sh.length : Int)).toNat) = _
    rw [Int.toNat_natCast, zAd_n]
  rw [e8] at kk2
  exact kk2
theorem Ev.newaD {G : zG} {M : zM} {pc pc9 : Nat} {ls st : List zSV} {sh : List (Nat × Nat)} {rf : Nat → Nat → Option Nat} {ia : Nat → Int → Int} {lo da : Nat → Int → Int} {o : Option zSV ⊕ String} {h2 : zHp} {ce sl : Nat} (n N ce1 sl1 : Nat) (hn9 : sh.length = n) (hf : zf M pc = some (.newarray .double, 2, pc9)) (hac : Cond.arrayClass .double ∈ zT) (h1l : ls.all (zOk n) = true) (h1s : st.all (zOk n) = true) (hrf : zRfOk n rf = true) (hN : N ≤ 100000) (hce : ce1 + 1 = ce) (hsl : sl1 + N = sl)
    (kk : Ev G M pc9 ls ((1, (n : Int)) :: st) (sh ++ [(4, N)], zcr rf n, zci ia n, (lo, zci da n)) (o, h2, ce1, sl1)) : Ev G M pc ls ((0, (N : Int)) :: st) (sh, rf, ia, lo, da) (o, h2, ce, sl) := by
  intro p l e R s m args below meth cd C A hA hE hK ad0 n0 ad H locs cells slots la ha hn hP hD hS hl hcs hss
  obtain ⟨hd, rfl⟩ := zf_ok hf
  subst hn9
  subst hce
  subst hsl
  dsimp only at hcs hss hn
  refine va_newa (D := G.1) (atype := .double) (ty := .double) (a0 := (N, .inr (.inr (.inr (.inl fun _ => 0))))) (N' := N) C.1 C.2.1 (C.2.2.2.2.2.2.1 _ hac) rfl hK hP hD hS hA (n := Int32.ofInt (N : Int)) (fun _ => rfl) (by rw [z_0, z_lt ⟨by omega, by omega⟩ z_r0]; omega) (by rw [z_clamp ⟨by omega, by omega⟩, Int.toNat_natCast]) (by simp [componentBytes]; omega) (by omega) (by omega) hd (fun q cA H1 hK1 hP1 hD1 hS1 => ?_)
  have hcA : cA = G.2.1 3 := Option.some.inj (((hK1.2 4 (cA, .double) rfl).2).symm.trans (hK.2 3 (G.2.1 3, .double) rfl).2)
  subst hcA
  have e9 : zW G (zAd ad sh.length q) (sh ++ [(4, N)], zcr rf sh.length, zci ia sh.length, lo, zci da sh.length) = zW G ad (sh, rf, ia, lo, da) ++ [(q, .inl (G.2.1 3, N, .inr (.inr (.inr (.inl fun _ => 0)))))] := by
    rw [zW_push (ad := ad) (lo := lo) (da := da) zAd_lt hrf (fun j hj => zcr_lt hj) (fun j hj => zci_lt hj) (fun _ _ => rfl) (fun j hj => zci_lt hj), zAd_n]
    congr 3
    unfold zE zci
    simp only [if_true]
    rfl
  have kk2 := kk p l e R s m args below meth cd C A hA hE hK ad0 n0 (zAd ad sh.length q) H1 locs (cells + 1) (slots + N) la (fun c hc => (zAd_lt c (by omega)).trans (ha c hc)) (by dsimp only; rw [List.length_append]; omega) (by rw [e9]; exact hP1) (by rw [e9]; exact hD1) hS1 (zL_ad zAd_lt h1l hl) (by dsimp only; omega) (by dsimp only; omega)
  rw [List.map_cons, zcs_ad zAd_lt h1s] at kk2
  have e8 : zc G (zAd ad sh.length q) (1, (sh.length : Int)) = .ref q := by
    show Value.ref (zAd ad sh.length q ((sh.length : Int)).toNat) = _
    rw [Int.toNat_natCast, zAd_n]
  rw [e8] at kk2
  exact kk2
/-! CONTRACTS out of 'Ev' -/
def zWs (M : zM) : List Cond := Cond.code M.1 M.2.1 M.2.2.1 M.2.2.2.1 :: zT
def zWsH (M : zM) : List Cond := Cond.codeWith M.1 M.2.1 M.2.2.1 M.2.2.2.1 M.2.2.2.2.1 :: zT
def zRm (M : zM) (ce sl : Nat) : Room := { frames := M.2.2.2.2.2.1, cells := ce, slots := sl, locals := M.2.2.2.2.2.2 }
def zPre (G : zG) (ad : Nat → Nat) (h : zHp) (as : List zSV) (sz : Nat) : Array Value → State → Prop := va_Pc (as.map (zc G ad)) (fun U => U.heap.size = sz ∧ va_P G.1 vwCl (zW G ad h) U.heap ∧ va_K G.1 vwCl (zTys G) U ∧ va_D (fun _ => True) (zW G ad h) ∧ zEnv G (va_A (zW G ad h) sz) U U.heap)
theorem lg_len : ∀ (l : List Value), (∀ v ∈ l, v.category = 1) → (lg_sl l).length = l.length
  | [], _ => rfl
  | v :: l, h => by
    have h1 := h v List.mem_cons_self
    have h2 := lg_len l (fun w hw => h w (List.mem_cons_of_mem _ hw))
    show ((if v.category = 2 then [Slot.val v, .second] else [.val v]) ++ lg_sl l).length = _
    rw [if_neg (by omega), List.length_append, h2]
    simp [Nat.add_comm]
theorem lv_args_mem : ∀ (l : List Value) (i : Nat), (∀ v ∈ l, v.category = 1) → ∀ (k : Nat) (v : Value), l[k]? = some v → (i + k, v) ∈ lv_args i l
  | [], _, _, _, _, h => by simp at h
  | v :: l, i, hc, k, u, h => by
    have h1 := hc v List.mem_cons_self
    unfold lv_args
    rw [if_neg (by omega)]
    cases k with
    | zero =>
      cases h
      exact List.mem_cons_self
    | succ k =>
      rw [List.getElem?_cons_succ] at h
      have h2 := lv_args_mem l (i + 1) (fun w hw => hc w (List.mem_cons_of_mem _ hw)) k u h
      rw [show i + (k + 1) = i + 1 + k by omega]
      exact List.mem_cons_of_mem _ h2
/-- the locals at a method's entry -/
def zIn (as : List zSV) (maxL : Nat) : List zSV := as ++ List.replicate (maxL - as.length) (9, 0)
theorem zIn_has {G : zG} {ad : Nat → Nat} {as : List zSV} {maxL : Nat} (hc : as.all (fun v => zcat v == 1) = true) (hlen : as.length ≤ maxL) : lv_has ((lg_sl (as.map (zc G ad)) ++ List.replicate (maxL - (lg_sl (as.map (zc G ad))).length) Slot.unset).toArray) maxL (zL G ad (zIn as maxL)) := by
  have hc1 : ∀ v ∈ as.map (zc G ad), v.category = 1 := by
    intro v hv
    obtain ⟨u, h1, rfl⟩ := List.mem_map.mp hv
    rw [zcat_eq]
    simpa using List.all_eq_true.mp hc u h1
  have h1 := lg_len _ hc1
  rw [List.length_map] at h1
  have hl := lv_entry (as.map (zc G ad)) (n := maxL) (by omega)
  refine lv_less hl fun q hq => ?_
  obtain ⟨w, g1, g2, g3⟩ := zL_mem.mp hq
  have g4 : as[q.1]? = some w := by
    unfold zIn at g1
    by_cases hlt : q.1 < as.length
    · rwa [List.getElem?_append_left hlt] at g1
    · rw [List.getElem?_append_right (by omega), List.getElem?_replicate] at g1
      split at g1
      · cases g1
        exact absurd rfl g2
      · cases g1
  have g5 := lv_args_mem (as.map (zc G ad)) 0 hc1 q.1 (zc G ad w) (by rw [List.getElem?_map, g4]; rfl)
  rw [Nat.zero_add, ← g3] at g5
  exact g5
theorem zMetX {G : zG} {M : zM} {l : Launch} {h : zHp} {O : zO} {ad : Nat → Nat} {as : List zSV} {sz : Nat} (hy : plainName M.1.cls = true) (hh : M.2.2.2.2.1 = []) (hst : l.stackTraces = false) (hc : as.all (fun v => zcat v == 1) = true) (hlen : as.length ≤ M.2.2.1) (k : Ev G M 0 (zIn as M.2.2.1) [] h O) :
    vx_Met l M.1 (zWs M) (zRm M O.2.2.1 O.2.2.2) (zPre G ad h as sz) (zQ G (va_A (zW G ad h) sz) ad h.1.length O) (zX G (va_A (zW G ad h) sz) ad h.1.length O) O.2.2.1 O.2.2.2 (va_A (zW G ad h) sz) := by
  refine vx_ofW (cc := M.2.1) (maxL := M.2.2.1) (ret := M.2.2.2.1) hy rfl ?_
  intro p e s m args9 below meth cd s₁ B hml ht hv
  obtain ⟨rfl, hsz, hP, hK, hD0, hE⟩ := hv
  have hts := atoms_spec (ws := zWs M) B.pre
  subst hsz
  have hD := hD0.self (sz := s.heap.size)
  have htab : cd.exceptionTable.toList = tableOf M.2.2.2.2.1 := by
    rw [hh]
    cases hx : cd.exceptionTable.toList with
    | nil => rfl
    | cons x t => exact (ht x (by rw [hx]; exact List.mem_cons_self)).elim
  rw [lg_entry_eq]
  exact k p l e (zRm M O.2.2.1 O.2.2.2) s m _ below meth cd ⟨B.exec, B.bytes, hml, B.returns, findClass_of_methodNamed B.named, B.notSynchronized, fun w hw => hts w (List.mem_cons_of_mem _ hw), htab, hst, Nat.le_refl _, Nat.le_refl _, (name_of_methodNamed B.named B.method).1⟩ _ (fun q h => Or.inr h) hE hK ad h.1.length ad s.heap [] 0 0 _ (fun _ _ => rfl) (Nat.le_refl _) hP hD va_S.rf (zIn_has hc hlen) (by simp [zRm]) (by simp [zRm])
theorem zMetH {G : zG} {M : zM} {l : Launch} {h : zHp} {O : zO} {ad : Nat → Nat} {as : List zSV} {sz : Nat} (hy : plainName M.1.cls = true) (hst : l.stackTraces = false) (hc : as.all (fun v => zcat v == 1) = true) (hlen : as.length ≤ M.2.2.1) (k : Ev G M 0 (zIn as M.2.2.1) [] h O) :
    vx_Met l M.1 (zWsH M) (zRm M O.2.2.1 O.2.2.2) (zPre G ad h as sz) (zQ G (va_A (zW G ad h) sz) ad h.1.length O) (zX G (va_A (zW G ad h) sz) ad h.1.length O) O.2.2.1 O.2.2.2 (va_A (zW G ad h) sz) := by
  refine vx_ofWH (cc := M.2.1) (maxL := M.2.2.1) (ret := M.2.2.2.1) (hh := M.2.2.2.2.1) hy rfl ?_
  intro p e s m args9 below meth cd s₁ B hml hv
  obtain ⟨rfl, hsz, hP, hK, hD0, hE⟩ := hv
  have hts := atoms_spec (ws := zWsH M) B.pre
  subst hsz
  have hD := hD0.self (sz := s.heap.size)
  have htab : cd.exceptionTable.toList = tableOf M.2.2.2.2.1 := vx_table (x := M.1) B (hts _ List.mem_cons_self)
  rw [lg_entry_eq]
  exact k p l e (zRm M O.2.2.1 O.2.2.2) s m _ below meth cd ⟨B.exec, B.bytes, hml, B.returns, findClass_of_methodNamed B.named, B.notSynchronized, fun w hw => hts w (List.mem_cons_of_mem _ hw), htab, hst, Nat.le_refl _, Nat.le_refl _, (name_of_methodNamed B.named B.method).1⟩ _ (fun q h => Or.inr h) hE hK ad h.1.length ad s.heap [] 0 0 _ (fun _ _ => rfl) (Nat.le_refl _) hP hD va_S.rf (zIn_has hc hlen) (by simp [zRm]) (by simp [zRm])
theorem zMet_of {l : Launch} {y : MethodName} {ws : List Cond} {rm : Room} {Pc : Array Value → State → Prop} {Qc : Array Value → State → Outcome → State → Prop} {XC : String → State → State → Prop} {mc ms : Nat} {free : Addr → Prop} (h : vx_Met l y ws rm Pc Qc XC mc ms free) (hx : ∀ E st t, ¬ XC E st t) : Met l y ws rm Pc Qc mc ms free := by
  intro p e ha hc hk s m args below hf happ hP hK
  obtain ⟨n, o, h1, h2, h3, hQ⟩ := h p e ha hc hk s m args below hf happ hP hK
  refine ⟨n, o, h1, h2, h3, ?_⟩
  rcases hQ with hq | ⟨q, _, E, ce, L, hX, _⟩
  · exact hq
  · exact absurd hX (hx _ _ _)
theorem zX_no {G : zG} {A : Nat → Prop} {ad0 : Nat → Nat} {n0 : Nat} {v : Option zSV} {h : zHp} {ce sl : Nat} (E : String) (st t : State) : ¬ zX G A ad0 n0 (.inl v, h, ce, sl) E st t := by
  rintro ⟨⟨ad, h1, -⟩, -⟩
  cases h1
theorem zPre_blind {G : zG} {ad : Nat → Nat} {h : zHp} {as : List zSV} {sz : Nat} : FrameBlind (zPre G ad h as sz) := by
  intro a U g mk hq
  obtain ⟨q0, q1, qP, qK, qD, qE⟩ := hq
  exact ⟨q0, q1, qP, va_K.moved (u := U) (U := U.calling g mk a) (Vm.Alike.refl U.vm) qK, qD, qE.go (U := U.calling g mk a) (fun _ _ _ => rfl) (fun _ h => h) rfl (State.WarmedH.refl U)⟩
theorem zFree {A : Nat → Prop} {ws : va_W} {H0 H : Heap} {locs : List Loc} (hD : va_D A ws) (hS : va_S A H0 H locs) (hA : ∀ q, H0.size ≤ q → A q) : ∀ q, va_A ws H.size q → A q := fun q h => h.elim (fun ⟨k, e, hk⟩ => hD.2 k _ hk) (fun h => hA q (Nat.le_trans hS.1 h))
theorem zPre_at {G : zG} {ad : Nat → Nat} {h : zHp} {as : List zSV} {A : Nat → Prop} {s : State} {H : Heap} {locs : List Loc} (hA : ∀ q, s.heap.size ≤ q → A q) (hE : zEnv G A s s.heap) (hK : va_K G.1 vwCl (zTys G) s) (hP : va_P G.1 vwCl (zW G ad h) H) (hD : va_D A (zW G ad h)) (hS : va_S A s.heap H locs) : ∀ U : State, U.heap = H → s.WarmedH U.vm → zPre G ad h as H.size (as.map (zc G ad)).toArray U := fun U hU hW => ⟨rfl, by rw [hU], by rw [hU]; exact hP, va_K.moved hW.alike hK, hD.weaken (fun _ _ _ _ => trivial), hE.go hS.2.1 (zFree hD hS hA) hU hW⟩
section ZC
variable {p : Program} {l : Launch} {e : Env} {R : Room} {s : State} {m : MethodId} {args : Array Value} {below : List Frame} {meth : Method} {cd : Code} {H : Heap} {locs : List Loc} {cells slots : Nat} {Q : State → Prop}
variable {pc : Nat} {la : Array Slot} {rest st0 : List Value} {a : Array Value} {A0 A1 : Nat → Prop} {H0 : Heap} {mc ms : Nat} {G : zG} {ad : Nat → Nat} {n : Nat} {O : zO}
theorem zCall (hr : va_Run p l e R s m args below meth cd H locs cells slots mc ms (F0 m pc la st0) rest (zQ G A1 ad n O a) A1) (hS : va_S A0 H0 H locs) (hf : ∀ q, A1 q → A0 q)
    (kk : ∀ (v : Option zSV) (ad' : Nat → Nat) (H1 : Heap) (locs1 : List Loc), O.1 = .inl v → (∀ c, c < n → ad' c = ad c) → va_P G.1 vwCl (zW G ad' O.2.1) H1 → va_D A0 (zW G ad' O.2.1) → va_S A0 H0 H1 locs1 → W p l e R s m args below meth cd H1 locs1 (cells + mc) (slots + ms) Q (F0 m (pc + 3) la ((v.map (zc G ad')).toList ++ rest))) : W p l e R s m args below meth cd H locs cells slots Q (F0 m pc la st0) := by
  intro T hT X
  obtain ⟨v, st₀, t, T', L, h0, X', hL, e1, e2, ⟨⟨v9, ad9, hv1, hv2, hP9, hD9, had9⟩, hF⟩, st⟩ := hr T hT X
  cases hv2
  obtain ⟨k1, k2, k3⟩ := vx_keep h0 e1 hS (fun q _ h => hf q h) hf hL hF
  obtain ⟨t2, a1, b1⟩ := kk v9 ad9 T'.heap (locs ++ L) hv1 had9 (by rw [e1]; exact hP9) (hD9.weaken (fun _ _ _ h => hf _ h)) k3 T' rfl X'
  exact ⟨t2, st t2 a1, b1⟩
theorem zCallT {E : String} (hr : vx_Run p l e R s m args below meth cd H locs cells slots mc ms (F0 m pc la st0) rest (zQ G A1 ad n O a) (zX G A1 ad n O) A1) (hO : O.1 = .inr E) (hS : va_S A0 H0 H locs) (hf : ∀ q, A1 q → A0 q)
    (kx : ∀ (ce : Cell) (q9 : Addr) (ad' : Nat → Nat) (H1 : Heap) (locs1 : List Loc), (∀ c, c < n → ad' c = ad c) → va_P G.1 vwCl (zW G ad' O.2.1) H1 → va_D A0 (zW G ad' O.2.1) → va_S A0 H0 H1 locs1 → H1[q9]? = some ce → ce.vm = .none → s.vm.findClass E = some ce.cls → vx_W p l e R s m args below meth cd H1 locs1 (cells + mc) (slots + ms) Q (F0 m pc la rest) q9) : W p l e R s m args below meth cd H locs cells slots Q (F0 m pc la st0) := by
  intro T hT X
  rcases hr T hT X with ⟨v, st₀, t, T', L, h0, X', hL, e1, e2, ⟨⟨v9, ad9, hv1, -⟩, -⟩, st⟩ | ⟨q, st₀, t, T', L, E9, ce, h0, X', hL, e1, e2, ⟨⟨ad9, hv1, hP9, hD9, had9⟩, hF⟩, hce, hcv, hcl, st⟩
  · rw [hO] at hv1
    cases hv1
  · rw [hO] at hv1
    cases hv1
    obtain ⟨k1, k2, k3⟩ := vx_keep h0 e1 hS (fun q _ h => hf q h) hf hL hF
    obtain ⟨t2, a1, b1⟩ := kx ce q ad9 T'.heap (locs ++ L) had9 (by rw [e1]; exact hP9) (hD9.weaken (fun _ _ _ h => hf _ h)) k3 (by rw [e1]; exact hce) hcv hcl T' rfl X'
    exact ⟨t2, st.trans a1, b1⟩
end ZC
/-- a call's link: the callee's code, how many parameters, room -/
def zLk (M y : zM) (n : Nat) : Prop := Cond.initialized y.1.cls ∈ zT ∧ plainName y.1.cls = true ∧ (y.1.cls ≠ "java/lang/invoke/MethodHandle" ∧ y.1.cls ≠ "java/lang/invoke/VarHandle") ∧ (parseMethodDescriptor y.1.desc).map (fun d => d.parameters.length) = some n ∧ y.2.2.2.2.2.1 + 1 ≤ M.2.2.2.2.2.1 ∧ 8 + (y.2.2.1 + 11) + y.2.2.2.2.2.2 ≤ M.2.2.2.2.2.2
def zLkC (y : zM) : Prop := y.2.2.2.2.1 = [] ∧ Cond.code y.1 y.2.1 y.2.2.1 y.2.2.2.1 ∈ zT
def zLkV (M : zM) (idx : Nat) (y : zM) (n : Nat) : Prop := zLk M y n ∧ zLkC y ∧ Cond.methodLink M.1.cls idx y.1 ∈ zT ∧ Cond.instanceMethod y.1 ∈ zT ∧ Cond.selects y.1.cls y.1 y.1 ∈ zT
def zLkS (M : zM) (idx : Nat) (y : zM) (n : Nat) : Prop := zLk M y n ∧ zLkC y ∧ Cond.methodLink M.1.cls idx y.1 ∈ zT ∧ Cond.static y.1 ∈ zT
def zLkSN (M : zM) (idx : Nat) (y : zM) (n : Nat) : Prop := zLk M y n ∧ zLkC y ∧ (∃ host, Cond.methodLinkNest M.1.cls idx y.1 host ∈ zNw) ∧ Cond.static y.1 ∈ zT
def zLkI (M : zM) (idx : Nat) (y : zM) (n : Nat) : Prop := zLk M y n ∧ zLkC y ∧ Cond.methodLink M.1.cls idx y.1 ∈ zT ∧ Cond.instanceMethod y.1 ∈ zT ∧ y.1.name = "<init>" ∧ y.2.2.2.1 = none
def zLkIN (M : zM) (idx : Nat) (y : zM) (n : Nat) : Prop := zLk M y n ∧ zLkC y ∧ (∃ host, Cond.methodLinkNest M.1.cls idx y.1 host ∈ zNw) ∧ Cond.instanceMethod y.1 ∈ zT ∧ y.1.name = "<init>" ∧ y.2.2.2.1 = none
def zLkH (M : zM) (idx : Nat) (y : zM) (n : Nat) : Prop := zLk M y n ∧ Cond.codeWith y.1 y.2.1 y.2.2.1 y.2.2.2.1 y.2.2.2.2.1 ∈ zT ∧ Cond.methodLink M.1.cls idx y.1 ∈ zT ∧ Cond.static y.1 ∈ zT
theorem zWs_good {y : zM} {s : State} {args : Array Value} (hc : Cond.code y.1 y.2.1 y.2.2.1 y.2.2.2.1 ∈ zT) (hts : ∀ w ∈ zT, w.before args s = true) : ∀ w ∈ zWs y, ∀ (a' : Array Value) (U : State), s.WarmedH U.vm → w.before a' U = true := fun w hw a' U hW => by
  have h : w ∈ zT := (List.mem_cons.mp hw).elim (fun e => by rw [e]; exact hc) id
  exact word_at hW (good_of_word (zT_good h)) (hts w h)
theorem zWsH_good {y : zM} {s : State} {args : Array Value} (hc : Cond.codeWith y.1 y.2.1 y.2.2.1 y.2.2.2.1 y.2.2.2.2.1 ∈ zT) (hts : ∀ w ∈ zT, w.before args s = true) : ∀ w ∈ zWsH y, ∀ (a' : Array Value) (U : State), s.WarmedH U.vm → w.before a' U = true := fun w hw a' U hW => by
  have h : w ∈ zT := (List.mem_cons.mp hw).elim (fun e => by rw [e]; exact hc) id
  exact word_at hW (good_of_word (zT_good h)) (hts w h)
theorem zN_of {y : zM} {n : Nat} (h : (parseMethodDescriptor y.1.desc).map (fun d => d.parameters.length) = some n) : ∀ sig, parseMethodDescriptor y.1.desc = some sig → n = sig.parameters.length := fun sig h1 => by
  rw [h1] at h
  exact (Option.some.inj h).symm
theorem Ev.callV {G : zG} {M y : zM} {pc pc9 : Nat} {ls rest : List zSV} {sh sh1 : List (Nat × Nat)} {rf rf1 : Nat → Nat → Option Nat} {ia ia1 : Nat → Int → Int} {w w1 : (Nat → Int → Int) × (Nat → Int → Int)} {o : Option zSV ⊕ String} {h2 : zHp} {ce sl idx n : Nat} {v : Option zSV} {ce2 sl2 : Nat} (c : Nat) (ce1 sl1 : Nat) (as : List zSV) (hf : zf M pc = some (.invokevirtual idx, 3, pc9)) (hl9 : zLkV M idx y n) (hn9 : as.length = n) (ci : Nat) (TT : u_T) (NN : Nat) (hcl : vwCl[ci]? = some (y.1.cls, TT, NN)) (hc : sh[c]? = some (0, ci)) (hac : ((1, (c : Int)) :: as).all (fun v => zcat v == 1) = true) (hal : ((1, (c : Int)) :: as).length ≤ y.2.2.1) (hrc : (rest.map zcat).sum ≤ 8) (h1l : ls.all (zOk sh.length) = true) (h1r : rest.all (zOk sh.length) = true) (hgr : Nat.ble sh.length sh1.length = true) (hce : ce1 + ce2 = ce) (hsl : sl1 + sl2 = sl)
    (ev : Ev G y 0 (zIn ((1, (c : Int)) :: as) y.2.2.1) [] (sh, rf, ia, w) (.inl v, (sh1, rf1, ia1, w1), ce1, sl1)) (kk : Ev G M pc9 ls (v.toList ++ rest) (sh1, rf1, ia1, w1) (o, h2, ce2, sl2)) : Ev G M pc ls (as.reverse ++ (1, (c : Int)) :: rest) (sh, rf, ia, w) (o, h2, ce, sl) := by
  intro p l e R s m args below meth cd C A hA hE hK ad0 n0 ad H locs cells slots la ha hn hP hD hS hl hcs hss
  obtain ⟨hd, rfl⟩ := zf_ok hf
  subst hce
  subst hsl
  dsimp only at hcs hss hn
  obtain ⟨hini, hpl, hmh, hpar, hfr, hlo⟩ := hl9.1
  have hRun := va_runV (As := as.map (zc G ad)) (b := ad c) (rest := rest.map (zc G ad)) (g := F0 m pc la (List.map (zc G ad) (as.reverse ++ (1, (c : Int)) :: rest))) (R := R) (cells := cells) (slots := slots) (e := e) (below := below) (meth := meth) (locs := locs) (p := p) (H := H) ⟨C.1, C.2.1, C.2.2.1, C.2.2.2.2.1, C.2.2.2.2.2.2.1⟩ (zMet_of (zMetX (sz := H.size) (ad := ad) hpl hl9.2.1.1 C.2.2.2.2.2.2.2.2.1 hac hal ev) zX_no) (C := y.1.cls) ⟨⟨rfl, rfl, Nat.le_trans hfr C.2.2.2.2.2.2.2.2.2.1, Nat.le_trans hlo C.2.2.2.2.2.2.2.2.2.2.1, zWs_good hl9.2.1.2 C.2.2.2.2.2.2.1, List.mem_cons_self, C.2.2.2.2.2.2.1 _ hl9.2.1.2, C.2.2.2.2.2.2.1 _ hini, hmh, zN_of hpar, C.2.2.2.2.2.2.1 _ hl9.2.2.1⟩, C.2.2.2.2.2.2.1 _ hl9.2.2.2.1, C.2.2.2.2.2.2.1 _ hl9.2.2.2.2⟩ ⟨zPre_blind, va_recv (ci := ci) (q := (y.1.cls, TT, NN)) hK hP hcl (zW_obj hc), zPre_at hA hE hK hP hD hS⟩ rfl (by rw [List.length_map]; exact hn9) hl.1 (by show List.map (zc G ad) (as.reverse ++ (1, (c : Int)) :: rest) = (as.map (zc G ad)).reverse ++ .ref (ad c) :: rest.map (zc G ad); rw [List.map_append, List.map_reverse]; rfl) (lv_room (by rw [zcats]; exact hrc)) hd ⟨by dsimp only; omega, by dsimp only; omega⟩
  have hf9 := zFree hD hS hA
  refine zCall hRun hS hf9 (fun v9 ad9 H1 locs1 hv1 had9 hP9 hD9 hS9 => ?_)
  cases hv1
  have kk2 := kk p l e R s m args below meth cd C A hA hE hK ad0 n0 ad9 H1 locs1 (cells + ce1) (slots + sl1) la (fun c hc => (had9 c (Nat.lt_of_lt_of_le hc hn)).trans (ha c hc)) (by dsimp only; have := Nat.le_of_ble_eq_true hgr; omega) hP9 hD9 hS9 (zL_ad had9 h1l hl) (by dsimp only; omega) (by dsimp only; omega)
  rw [List.map_append, zcs_ad had9 h1r] at kk2
  have e8 : v.toList.map (zc G ad9) = (v.map (zc G ad9)).toList := by cases v <;> rfl
  rw [e8] at kk2
  exact kk2
theorem Ev.callS {G : zG} {M y : zM} {pc pc9 : Nat} {ls rest : List zSV} {sh sh1 : List (Nat × Nat)} {rf rf1 : Nat → Nat → Option Nat} {ia ia1 : Nat → Int → Int} {w w1 : (Nat → Int → Int) × (Nat → Int → Int)} {o : Option zSV ⊕ String} {h2 : zHp} {ce sl idx n : Nat} {v : Option zSV} {ce2 sl2 : Nat} (ce1 sl1 : Nat) (as : List zSV) (hf : zf M pc = some (.invokestatic idx, 3, pc9)) (hl9 : zLkS M idx y n) (hn9 : as.length = n) (hac : as.all (fun v => zcat v == 1) = true) (hal : as.length ≤ y.2.2.1) (hrc : (rest.map zcat).sum ≤ 8) (h1l : ls.all (zOk sh.length) = true) (h1r : rest.all (zOk sh.length) = true) (hgr : Nat.ble sh.length sh1.length = true) (hce : ce1 + ce2 = ce) (hsl : sl1 + sl2 = sl)
    (ev : Ev G y 0 (zIn as y.2.2.1) [] (sh, rf, ia, w) (.inl v, (sh1, rf1, ia1, w1), ce1, sl1)) (kk : Ev G M pc9 ls (v.toList ++ rest) (sh1, rf1, ia1, w1) (o, h2, ce2, sl2)) : Ev G M pc ls (as.reverse ++ rest) (sh, rf, ia, w) (o, h2, ce, sl) := by
  intro p l e R s m args below meth cd C A hA hE hK ad0 n0 ad H locs cells slots la ha hn hP hD hS hl hcs hss
  obtain ⟨hd, rfl⟩ := zf_ok hf
  subst hce
  subst hsl
  dsimp only at hcs hss hn
  obtain ⟨hini, hpl, hmh, hpar, hfr, hlo⟩ := hl9.1
  have hRun := va_runS (As := as.map (zc G ad)) (rest := rest.map (zc G ad)) (g := F0 m pc la (List.map (zc G ad) (as.reverse ++ rest))) (R := R) (cells := cells) (slots := slots) (e := e) (below := below) (meth := meth) (locs := locs) (p := p) (H := H) ⟨C.1, C.2.1, C.2.2.1, C.2.2.2.2.1, C.2.2.2.2.2.2.1⟩ (zMet_of (zMetX (sz := H.size) (ad := ad) hpl hl9.2.1.1 C.2.2.2.2.2.2.2.2.1 hac hal ev) zX_no) ⟨⟨rfl, rfl, Nat.le_trans hfr C.2.2.2.2.2.2.2.2.2.1, Nat.le_trans hlo C.2.2.2.2.2.2.2.2.2.2.1, zWs_good hl9.2.1.2 C.2.2.2.2.2.2.1, List.mem_cons_self, C.2.2.2.2.2.2.1 _ hl9.2.1.2, C.2.2.2.2.2.2.1 _ hini, hmh, zN_of hpar, C.2.2.2.2.2.2.1 _ hl9.2.2.1⟩, C.2.2.2.2.2.2.1 _ hl9.2.2.2⟩ ⟨zPre_blind, zPre_at hA hE hK hP hD hS⟩ rfl (by rw [List.length_map]; exact hn9) hl.1 (by show List.map (zc G ad) (as.reverse ++ rest) = (as.map (zc G ad)).reverse ++ rest.map (zc G ad); rw [List.map_append, List.map_reverse]) (lv_room (by rw [zcats]; exact hrc)) hd ⟨by dsimp only; omega, by dsimp only; omega⟩
  have hf9 := zFree hD hS hA
  refine zCall hRun hS hf9 (fun v9 ad9 H1 locs1 hv1 had9 hP9 hD9 hS9 => ?_)
  cases hv1
  have kk2 := kk p l e R s m args below meth cd C A hA hE hK ad0 n0 ad9 H1 locs1 (cells + ce1) (slots + sl1) la (fun c hc => (had9 c (Nat.lt_of_lt_of_le hc hn)).trans (ha c hc)) (by dsimp only; have := Nat.le_of_ble_eq_true hgr; omega) hP9 hD9 hS9 (zL_ad had9 h1l hl) (by dsimp only; omega) (by dsimp only; omega)
  rw [List.map_append, zcs_ad had9 h1r] at kk2
  have e8 : v.toList.map (zc G ad9) = (v.map (zc G ad9)).toList := by cases v <;> rfl
  rw [e8] at kk2
  exact kk2
theorem Ev.callSN {G : zG} {M y : zM} {pc pc9 : Nat} {ls rest : List zSV} {sh sh1 : List (Nat × Nat)} {rf rf1 : Nat → Nat → Option Nat} {ia ia1 : Nat → Int → Int} {w w1 : (Nat → Int → Int) × (Nat → Int → Int)} {o : Option zSV ⊕ String} {h2 : zHp} {ce sl idx n : Nat} {v : Option zSV} {ce2 sl2 : Nat} (ce1 sl1 : Nat) (as : List zSV) (hf : zf M pc = some (.invokestatic idx, 3, pc9)) (hl9 : zLkSN M idx y n) (hn9 : as.length = n) (hac : as.all (fun v => zcat v == 1) = true) (hal : as.length ≤ y.2.2.1) (hrc : (rest.map zcat).sum ≤ 8) (h1l : ls.all (zOk sh.length) = true) (h1r : rest.all (zOk sh.length) = true) (hgr : Nat.ble sh.length sh1.length = true) (hce : ce1 + ce2 = ce) (hsl : sl1 + sl2 = sl)
    (ev : Ev G y 0 (zIn as y.2.2.1) [] (sh, rf, ia, w) (.inl v, (sh1, rf1, ia1, w1), ce1, sl1)) (kk : Ev G M pc9 ls (v.toList ++ rest) (sh1, rf1, ia1, w1) (o, h2, ce2, sl2)) : Ev G M pc ls (as.reverse ++ rest) (sh, rf, ia, w) (o, h2, ce, sl) := by
  intro p l e R s m args below meth cd C A hA hE hK ad0 n0 ad H locs cells slots la ha hn hP hD hS hl hcs hss
  obtain ⟨hd, rfl⟩ := zf_ok hf
  subst hce
  subst hsl
  dsimp only at hcs hss hn
  obtain ⟨hini, hpl, hmh, hpar, hfr, hlo⟩ := hl9.1
  obtain ⟨host, hnst⟩ := hl9.2.2.1
  have hRun := va_runSN (As := as.map (zc G ad)) (rest := rest.map (zc G ad)) (g := F0 m pc la (List.map (zc G ad) (as.reverse ++ rest))) (R := R) (cells := cells) (slots := slots) (e := e) (below := below) (meth := meth) (locs := locs) (p := p) (H := H) ⟨C.1, C.2.1, C.2.2.1, C.2.2.2.2.1, C.2.2.2.2.2.2.1⟩ (zMet_of (zMetX (sz := H.size) (ad := ad) hpl hl9.2.1.1 C.2.2.2.2.2.2.2.2.1 hac hal ev) zX_no) ⟨⟨⟨rfl, rfl, Nat.le_trans hfr C.2.2.2.2.2.2.2.2.2.1, Nat.le_trans hlo C.2.2.2.2.2.2.2.2.2.2.1, zWs_good hl9.2.1.2 C.2.2.2.2.2.2.1, List.mem_cons_self⟩, C.2.2.2.2.2.2.1 _ hl9.2.1.2, C.2.2.2.2.2.2.1 _ hini, hmh, zN_of hpar, va_Nw.use rfl (hE.1 _ hnst)⟩, C.2.2.2.2.2.2.1 _ hl9.2.2.2, trivial⟩ ⟨zPre_blind, zPre_at hA hE hK hP hD hS⟩ rfl (by rw [List.length_map]; exact hn9) hl.1 (by show List.map (zc G ad) (as.reverse ++ rest) = (as.map (zc G ad)).reverse ++ rest.map (zc G ad); rw [List.map_append, List.map_reverse]) (lv_room (by rw [zcats]; exact hrc)) hd ⟨by dsimp only; omega, by dsimp only; omega⟩
  have hf9 := zFree hD hS hA
  refine zCall hRun hS hf9 (fun v9 ad9 H1 locs1 hv1 had9 hP9 hD9 hS9 => ?_)
  cases hv1
  have kk2 := kk p l e R s m args below meth cd C A hA hE hK ad0 n0 ad9 H1 locs1 (cells + ce1) (slots + sl1) la (fun c hc => (had9 c (Nat.lt_of_lt_of_le hc hn)).trans (ha c hc)) (by dsimp only; have := Nat.le_of_ble_eq_true hgr; omega) hP9 hD9 hS9 (zL_ad had9 h1l hl) (by dsimp only; omega) (by dsimp only; omega)
  rw [List.map_append, zcs_ad had9 h1r] at kk2
  have e8 : v.toList.map (zc G ad9) = (v.map (zc G ad9)).toList := by cases v <;> rfl
  rw [e8] at kk2
  exact kk2
theorem Ev.callI {G : zG} {M y : zM} {pc pc9 : Nat} {ls rest : List zSV} {sh sh1 : List (Nat × Nat)} {rf rf1 : Nat → Nat → Option Nat} {ia ia1 : Nat → Int → Int} {w w1 : (Nat → Int → Int) × (Nat → Int → Int)} {o : Option zSV ⊕ String} {h2 : zHp} {ce sl idx n : Nat} {v : Option zSV} {ce2 sl2 : Nat} (c : Nat) (ce1 sl1 : Nat) (as : List zSV) (hf : zf M pc = some (.invokespecial idx, 3, pc9)) (hl9 : zLkI M idx y n) (hn9 : as.length = n) (hac : ((1, (c : Int)) :: as).all (fun v => zcat v == 1) = true) (hal : ((1, (c : Int)) :: as).length ≤ y.2.2.1) (hrc : (rest.map zcat).sum ≤ 8) (h1l : ls.all (zOk sh.length) = true) (h1r : rest.all (zOk sh.length) = true) (hgr : Nat.ble sh.length sh1.length = true) (hce : ce1 + ce2 = ce) (hsl : sl1 + sl2 = sl)
    (ev : Ev G y 0 (zIn ((1, (c : Int)) :: as) y.2.2.1) [] (sh, rf, ia, w) (.inl v, (sh1, rf1, ia1, w1), ce1, sl1)) (kk : Ev G M pc9 ls (v.toList ++ rest) (sh1, rf1, ia1, w1) (o, h2, ce2, sl2)) : Ev G M pc ls (as.reverse ++ (1, (c : Int)) :: rest) (sh, rf, ia, w) (o, h2, ce, sl) := by
  intro p l e R s m args below meth cd C A hA hE hK ad0 n0 ad H locs cells slots la ha hn hP hD hS hl hcs hss
  obtain ⟨hd, rfl⟩ := zf_ok hf
  subst hce
  subst hsl
  dsimp only at hcs hss hn
  obtain ⟨hini, hpl, hmh, hpar, hfr, hlo⟩ := hl9.1
  have hrn := hl9.2.2.2.2.2
  have hcb := hl9.2.1.2
  have hgd := zWs_good hcb C.2.2.2.2.2.2.1
  have hin0 : Cond.code y.1 y.2.1 y.2.2.1 y.2.2.2.1 ∈ zWs y := List.mem_cons_self
  have hcb2 := C.2.2.2.2.2.2.1 _ hcb
  rw [hrn] at hin0 hcb2
  have hRun := va_runI (As := as.map (zc G ad)) (b := ad c) (rest := rest.map (zc G ad)) (g := F0 m pc la (List.map (zc G ad) (as.reverse ++ (1, (c : Int)) :: rest))) (R := R) (cells := cells) (slots := slots) (e := e) (below := below) (meth := meth) (locs := locs) (p := p) (H := H) ⟨C.1, C.2.1, C.2.2.1, C.2.2.2.2.1, C.2.2.2.2.2.2.1⟩ (zMet_of (zMetX (sz := H.size) (ad := ad) hpl hl9.2.1.1 C.2.2.2.2.2.2.2.2.1 hac hal ev) zX_no) ⟨⟨rfl, rfl, Nat.le_trans hfr C.2.2.2.2.2.2.2.2.2.1, Nat.le_trans hlo C.2.2.2.2.2.2.2.2.2.2.1, hgd, hin0, hcb2, C.2.2.2.2.2.2.1 _ hini, hmh, zN_of hpar, C.2.2.2.2.2.2.1 _ hl9.2.2.1⟩, hl9.2.2.2.2.1, C.2.2.2.2.2.2.1 _ hl9.2.2.2.1⟩ ⟨zPre_blind, zPre_at hA hE hK hP hD hS⟩ rfl (by rw [List.length_map]; exact hn9) hl.1 (by show List.map (zc G ad) (as.reverse ++ (1, (c : Int)) :: rest) = (as.map (zc G ad)).reverse ++ .ref (ad c) :: rest.map (zc G ad); rw [List.map_append, List.map_reverse]; rfl) (lv_room (by rw [zcats]; exact hrc)) hd ⟨by dsimp only; omega, by dsimp only; omega⟩
  have hf9 := zFree hD hS hA
  refine zCall hRun hS hf9 (fun v9 ad9 H1 locs1 hv1 had9 hP9 hD9 hS9 => ?_)
  cases hv1
  have kk2 := kk p l e R s m args below meth cd C A hA hE hK ad0 n0 ad9 H1 locs1 (cells + ce1) (slots + sl1) la (fun c hc => (had9 c (Nat.lt_of_lt_of_le hc hn)).trans (ha c hc)) (by dsimp only; have := Nat.le_of_ble_eq_true hgr; omega) hP9 hD9 hS9 (zL_ad had9 h1l hl) (by dsimp only; omega) (by dsimp only; omega)
  rw [List.map_append, zcs_ad had9 h1r] at kk2
  have e8 : v.toList.map (zc G ad9) = (v.map (zc G ad9)).toList := by cases v <;> rfl
  rw [e8] at kk2
  exact kk2
theorem Ev.callIN {G : zG} {M y : zM} {pc pc9 : Nat} {ls rest : List zSV} {sh sh1 : List (Nat × Nat)} {rf rf1 : Nat → Nat → Option Nat} {ia ia1 : Nat → Int → Int} {w w1 : (Nat → Int → Int) × (Nat → Int → Int)} {o : Option zSV ⊕ String} {h2 : zHp} {ce sl idx n : Nat} {v : Option zSV} {ce2 sl2 : Nat} (c : Nat) (ce1 sl1 : Nat) (as : List zSV) (hf : zf M pc = some (.invokespecial idx, 3, pc9)) (hl9 : zLkIN M idx y n) (hn9 : as.length = n) (hac : ((1, (c : Int)) :: as).all (fun v => zcat v == 1) = true) (hal : ((1, (c : Int)) :: as).length ≤ y.2.2.1) (hrc : (rest.map zcat).sum ≤ 8) (h1l : ls.all (zOk sh.length) = true) (h1r : rest.all (zOk sh.length) = true) (hgr : Nat.ble sh.length sh1.length = true) (hce : ce1 + ce2 = ce) (hsl : sl1 + sl2 = sl)
    (ev : Ev G y 0 (zIn ((1, (c : Int)) :: as) y.2.2.1) [] (sh, rf, ia, w) (.inl v, (sh1, rf1, ia1, w1), ce1, sl1)) (kk : Ev G M pc9 ls (v.toList ++ rest) (sh1, rf1, ia1, w1) (o, h2, ce2, sl2)) : Ev G M pc ls (as.reverse ++ (1, (c : Int)) :: rest) (sh, rf, ia, w) (o, h2, ce, sl) := by
  intro p l e R s m args below meth cd C A hA hE hK ad0 n0 ad H locs cells slots la ha hn hP hD hS hl hcs hss
  obtain ⟨hd, rfl⟩ := zf_ok hf
  subst hce
  subst hsl
  dsimp only at hcs hss hn
  obtain ⟨hini, hpl, hmh, hpar, hfr, hlo⟩ := hl9.1
  obtain ⟨host, hnst⟩ := hl9.2.2.1
  have hrn := hl9.2.2.2.2.2
  have hcb := hl9.2.1.2
  have hgd := zWs_good hcb C.2.2.2.2.2.2.1
  have hin0 : Cond.code y.1 y.2.1 y.2.2.1 y.2.2.2.1 ∈ zWs y := List.mem_cons_self
  have hcb2 := C.2.2.2.2.2.2.1 _ hcb
  rw [hrn] at hin0 hcb2
  have hRun := va_runIN (As := as.map (zc G ad)) (b := ad c) (rest := rest.map (zc G ad)) (g := F0 m pc la (List.map (zc G ad) (as.reverse ++ (1, (c : Int)) :: rest))) (R := R) (cells := cells) (slots := slots) (e := e) (below := below) (meth := meth) (locs := locs) (p := p) (H := H) ⟨C.1, C.2.1, C.2.2.1, C.2.2.2.2.1, C.2.2.2.2.2.2.1⟩ (zMet_of (zMetX (sz := H.size) (ad := ad) hpl hl9.2.1.1 C.2.2.2.2.2.2.2.2.1 hac hal ev) zX_no) ⟨⟨⟨rfl, rfl, Nat.le_trans hfr C.2.2.2.2.2.2.2.2.2.1, Nat.le_trans hlo C.2.2.2.2.2.2.2.2.2.2.1, hgd, hin0⟩, hcb2, C.2.2.2.2.2.2.1 _ hini, hmh, zN_of hpar, va_Nw.use rfl (hE.1 _ hnst)⟩, hl9.2.2.2.2.1, C.2.2.2.2.2.2.1 _ hl9.2.2.2.1⟩ ⟨zPre_blind, zPre_at hA hE hK hP hD hS⟩ rfl (by rw [List.length_map]; exact hn9) hl.1 (by show List.map (zc G ad) (as.reverse ++ (1, (c : Int)) :: rest) = (as.map (zc G ad)).reverse ++ .ref (ad c) :: rest.map (zc G ad); rw [List.map_append, List.map_reverse]; rfl) (lv_room (by rw [zcats]; exact hrc)) hd ⟨by dsimp only; omega, by dsimp only; omega⟩
  have hf9 := zFree hD hS hA
  refine zCall hRun hS hf9 (fun v9 ad9 H1 locs1 hv1 had9 hP9 hD9 hS9 => ?_)
  cases hv1
  have kk2 := kk p l e R s m args below meth cd C A hA hE hK ad0 n0 ad9 H1 locs1 (cells + ce1) (slots + sl1) la (fun c hc => (had9 c (Nat.lt_of_lt_of_le hc hn)).trans (ha c hc)) (by dsimp only; have := Nat.le_of_ble_eq_true hgr; omega) hP9 hD9 hS9 (zL_ad had9 h1l hl) (by dsimp only; omega) (by dsimp only; omega)
  rw [List.map_append, zcs_ad had9 h1r] at kk2
  have e8 : v.toList.map (zc G ad9) = (v.map (zc G ad9)).toList := by cases v <;> rfl
  rw [e8] at kk2
  exact kk2
theorem Ev.callH {G : zG} {M y : zM} {pc pc9 : Nat} {ls rest : List zSV} {sh sh1 : List (Nat × Nat)} {rf rf1 : Nat → Nat → Option Nat} {ia ia1 : Nat → Int → Int} {w w1 : (Nat → Int → Int) × (Nat → Int → Int)} {o : Option zSV ⊕ String} {h2 : zHp} {ce sl idx n : Nat} {v : Option zSV} {ce2 sl2 : Nat} (ce1 sl1 : Nat) (as : List zSV) (hf : zf M pc = some (.invokestatic idx, 3, pc9)) (hl9 : zLkH M idx y n) (hn9 : as.length = n) (hac : as.all (fun v => zcat v == 1) = true) (hal : as.length ≤ y.2.2.1) (hrc : (rest.map zcat).sum ≤ 8) (h1l : ls.all (zOk sh.length) = true) (h1r : rest.all (zOk sh.length) = true) (hgr : Nat.ble sh.length sh1.length = true) (hce : ce1 + ce2 = ce) (hsl : sl1 + sl2 = sl)
    (ev : Ev G y 0 (zIn as y.2.2.1) [] (sh, rf, ia, w) (.inl v, (sh1, rf1, ia1, w1), ce1, sl1)) (kk : Ev G M pc9 ls (v.toList ++ rest) (sh1, rf1, ia1, w1) (o, h2, ce2, sl2)) : Ev G M pc ls (as.reverse ++ rest) (sh, rf, ia, w) (o, h2, ce, sl) := by
  intro p l e R s m args below meth cd C A hA hE hK ad0 n0 ad H locs cells slots la ha hn hP hD hS hl hcs hss
  obtain ⟨hd, rfl⟩ := zf_ok hf
  subst hce
  subst hsl
  dsimp only at hcs hss hn
  obtain ⟨hini, hpl, hmh, hpar, hfr, hlo⟩ := hl9.1
  have hRun := vx_runSW (hh := y.2.2.2.2.1) (As := as.map (zc G ad)) (rest := rest.map (zc G ad)) (g := F0 m pc la (List.map (zc G ad) (as.reverse ++ rest))) (R := R) (cells := cells) (slots := slots) (e := e) (below := below) (meth := meth) (locs := locs) (p := p) (H := H) ⟨C.1, C.2.1, C.2.2.1, C.2.2.2.2.1, C.2.2.2.2.2.2.1⟩ (zMet_of (zMetH (sz := H.size) (ad := ad) hpl C.2.2.2.2.2.2.2.2.1 hac hal ev) zX_no) ⟨⟨rfl, rfl, Nat.le_trans hfr C.2.2.2.2.2.2.2.2.2.1, Nat.le_trans hlo C.2.2.2.2.2.2.2.2.2.2.1, zWsH_good hl9.2.1 C.2.2.2.2.2.2.1, List.mem_cons_self⟩, C.2.2.2.2.2.2.1 _ hl9.2.1, C.2.2.2.2.2.2.1 _ hini, hmh, zN_of hpar, C.2.2.2.2.2.2.1 _ hl9.2.2.1, C.2.2.2.2.2.2.1 _ hl9.2.2.2⟩ ⟨zPre_blind, zPre_at hA hE hK hP hD hS⟩ rfl (by rw [List.length_map]; exact hn9) hl.1 (by show List.map (zc G ad) (as.reverse ++ rest) = (as.map (zc G ad)).reverse ++ rest.map (zc G ad); rw [List.map_append, List.map_reverse]) (lv_room (by rw [zcats]; exact hrc)) hd ⟨by dsimp only; omega, by dsimp only; omega⟩
  have hf9 := zFree hD hS hA
  refine zCall hRun hS hf9 (fun v9 ad9 H1 locs1 hv1 had9 hP9 hD9 hS9 => ?_)
  cases hv1
  have kk2 := kk p l e R s m args below meth cd C A hA hE hK ad0 n0 ad9 H1 locs1 (cells + ce1) (slots + sl1) la (fun c hc => (had9 c (Nat.lt_of_lt_of_le hc hn)).trans (ha c hc)) (by dsimp only; have := Nat.le_of_ble_eq_true hgr; omega) hP9 hD9 hS9 (zL_ad had9 h1l hl) (by dsimp only; omega) (by dsimp only; omega)
  rw [List.map_append, zcs_ad had9 h1r] at kk2
  have e8 : v.toList.map (zc G ad9) = (v.map (zc G ad9)).toList := by cases v <;> rfl
  rw [e8] at kk2
  exact kk2
end
section
/-! THROWS, THEIR PASSING ON, THEIR CATCHING; TEXT CONSTANTS; FLOATS (printed by wip/whole/gen/sim5.py) -/
def zEx : List String := ["java/lang/RuntimeException", "java/lang/Exception"]
/-- 'new E("..")' in the code of M -/
def zTh (M : zM) (ik ic : Nat) (cls : String) : Prop := Bundle.fit cls = true ∧ Cond.classLink M.1.cls ik cls ∈ zT ∧ Cond.initialized cls ∈ zT ∧ (∀ w ∈ (vx_atS M.1.cls ic cls zEx).filter goodWord, w ∈ zT) ∧ (∀ w ∈ (vx_atS M.1.cls ic cls zEx).filter (fun w => !goodWord w), w ∈ zNw) ∧ (∀ w ∈ Cond.classLink M.1.cls ik cls :: Cond.initialized cls :: vx_atS M.1.cls ic cls zEx, vx_ot w = true)
theorem zEx_fit : ∀ n ∈ zEx, Bundle.fit n = true := by decide +kernel
theorem zNw_ot {w : Cond} (h : w ∈ zNw) : w.onTables = true := by
  have h1 := (List.mem_filter.mp h).2
  cases w <;> first | rfl | (cases h1)
theorem Ev.throw {G : zG} {M : zM} {pc pc9 : Nat} {ls st : List zSV} {sh : List (Nat × Nat)} {rf : Nat → Nat → Option Nat} {ia : Nat → Int → Int} {w : (Nat → Int → Int) × (Nat → Int → Int)} {p1 p2 p3 p4 p5 ik ic is : Nat} {cls tx : String} (i : Nat) (hl9 : zTh M ik ic cls) (f0 : zf M pc = some (.new ik, 3, p1)) (f1 : zf M p1 = some (.dup, 1, p2)) (f2 : zf M p2 = some (.ldc is, 2, p3)) (f3 : zf M p3 = some (.invokespecial ic, 3, p4)) (f4 : zf M p4 = some (.athrow, 1, p5)) (hs9 : zSK[i]? = some (M.1.cls, is, tx)) (hh : M.2.2.2.2.1 = []) (hfr : 6 ≤ M.2.2.2.2.2.1) (hlo : (st.map zcat).sum + 82 ≤ M.2.2.2.2.2.2) :
    Ev G M pc ls st (sh, rf, ia, w) (.inr cls, (sh, rf, ia, w), 1, 6) := by
  intro p l e R s m args below meth cd C A hA hE hK ad0 n0 ad H locs cells slots la ha hn hP hD hS hl hcs hss
  obtain ⟨d0, rfl⟩ := zf_ok f0
  obtain ⟨d1, rfl⟩ := zf_ok f1
  obtain ⟨d2, rfl⟩ := zf_ok f2
  obtain ⟨d3, rfl⟩ := zf_ok f3
  obtain ⟨d4, rfl⟩ := zf_ok f4
  obtain ⟨hfit, hk, hini, hg1, hg2, hgood⟩ := hl9
  have hts := C.2.2.2.2.2.2.1
  have hat : ∀ w ∈ vx_atS M.1.cls ic cls zEx, w.before args s = true := vx_hat (B := zNw) (fun w hw => hts w (hg1 w hw)) hg2 (fun w hw => va_Nw.use (zNw_ot hw) (hE.1 w hw))
  refine vx_throwS (names := zEx) (A := A) (own := M.1.cls) (cls := cls) (text := tx) (sa := G.2.2.1 i) C.1 C.2.1 C.2.2.2.2.2.2.2.2.1 C.2.2.2.2.1 hfit zEx_fit (hts _ hk) (hts _ hini) (hE.2.2.1 i _ hs9) hat hgood hE.2.2.2.1 hE.2.2.2.2.1 hS (hl.1.trans C.2.2.1.symm) d0 d1 d2 d3 d4 (fun x hx => ?_) (Nat.lt_of_lt_of_le hfr C.2.2.2.2.2.2.2.2.2.1) (by rw [zcats]; exact Nat.le_trans hlo C.2.2.2.2.2.2.2.2.2.2.1) hcs hss C.2.2.2.2.2.1 (fun t hal hsz hq => ?_) hS.2.2 hcs hss
  · rw [C.2.2.2.2.2.2.2.1, hh] at hx
    cases hx
  · exact ⟨⟨ad, rfl, hP.kept (fun k q hk => hq _ (vx_lt hP hk)), hD, ha⟩, Nat.le_trans hS.1 hsz, fun q h1 h2 => (hq q (Nat.lt_of_lt_of_le h1 hS.1)).trans (hS.2.1 q h1 h2)⟩
theorem Ev.throwW {G : zG} {M : zM} {pc pc9 : Nat} {ls st : List zSV} {sh : List (Nat × Nat)} {rf : Nat → Nat → Option Nat} {ia : Nat → Int → Int} {w : (Nat → Int → Int) × (Nat → Int → Int)} {p1 p2 p3 p4 p5 ik ic is : Nat} {cls tx : String} (i : Nat) (hl9 : zTh M ik ic cls) (f0 : zf M pc = some (.new ik, 3, p1)) (f1 : zf M p1 = some (.dup, 1, p2)) (f2 : zf M p2 = some (.ldc_w is, 3, p3)) (f3 : zf M p3 = some (.invokespecial ic, 3, p4)) (f4 : zf M p4 = some (.athrow, 1, p5)) (hs9 : zSK[i]? = some (M.1.cls, is, tx)) (hh : M.2.2.2.2.1 = []) (hfr : 6 ≤ M.2.2.2.2.2.1) (hlo : (st.map zcat).sum + 82 ≤ M.2.2.2.2.2.2) :
    Ev G M pc ls st (sh, rf, ia, w) (.inr cls, (sh, rf, ia, w), 1, 6) := by
  intro p l e R s m args below meth cd C A hA hE hK ad0 n0 ad H locs cells slots la ha hn hP hD hS hl hcs hss
  obtain ⟨d0, rfl⟩ := zf_ok f0
  obtain ⟨d1, rfl⟩ := zf_ok f1
  obtain ⟨d2, rfl⟩ := zf_ok f2
  obtain ⟨d3, rfl⟩ := zf_ok f3
  obtain ⟨d4, rfl⟩ := zf_ok f4
  obtain ⟨hfit, hk, hini, hg1, hg2, hgood⟩ := hl9
  have hts := C.2.2.2.2.2.2.1
  have hat : ∀ w ∈ vx_atS M.1.cls ic cls zEx, w.before args s = true := vx_hat (B := zNw) (fun w hw => hts w (hg1 w hw)) hg2 (fun w hw => va_Nw.use (zNw_ot hw) (hE.1 w hw))
  refine vx_throwSW (names := zEx) (A := A) (own := M.1.cls) (cls := cls) (text := tx) (sa := G.2.2.1 i) C.1 C.2.1 C.2.2.2.2.2.2.2.2.1 C.2.2.2.2.1 hfit zEx_fit (hts _ hk) (hts _ hini) (hE.2.2.1 i _ hs9) hat hgood hE.2.2.2.1 hE.2.2.2.2.1 hS (hl.1.trans C.2.2.1.symm) d0 d1 d2 d3 d4 (fun x hx => ?_) (Nat.lt_of_lt_of_le hfr C.2.2.2.2.2.2.2.2.2.1) (by rw [zcats]; exact Nat.le_trans hlo C.2.2.2.2.2.2.2.2.2.2.1) hcs hss C.2.2.2.2.2.1 (fun t hal hsz hq => ?_) hS.2.2 hcs hss
  · rw [C.2.2.2.2.2.2.2.1, hh] at hx
    cases hx
  · exact ⟨⟨ad, rfl, hP.kept (fun k q hk => hq _ (vx_lt hP hk)), hD, ha⟩, Nat.le_trans hS.1 hsz, fun q h1 h2 => (hq q (Nat.lt_of_lt_of_le h1 hS.1)).trans (hS.2.1 q h1 h2)⟩
theorem Ev.passV {G : zG} {M y : zM} {pc pc9 : Nat} {ls rest : List zSV} {sh sh1 : List (Nat × Nat)} {rf rf1 : Nat → Nat → Option Nat} {ia ia1 : Nat → Int → Int} {w w1 : (Nat → Int → Int) × (Nat → Int → Int)} {ce sl idx n : Nat} {E : String} (c : Nat) (as : List zSV) (hf : zf M pc = some (.invokevirtual idx, 3, pc9)) (hl9 : zLkV M idx y n) (hn9 : as.length = n) (ci : Nat) (TT : u_T) (NN : Nat) (hcl : vwCl[ci]? = some (y.1.cls, TT, NN)) (hc : sh[c]? = some (0, ci)) (hac : ((1, (c : Int)) :: as).all (fun v => zcat v == 1) = true) (hal : ((1, (c : Int)) :: as).length ≤ y.2.2.1) (hrc : (rest.map zcat).sum ≤ 8) (hgr : Nat.ble sh.length sh1.length = true) (hh : M.2.2.2.2.1 = []) 
    (ev : Ev G y 0 (zIn ((1, (c : Int)) :: as) y.2.2.1) [] (sh, rf, ia, w) (.inr E, (sh1, rf1, ia1, w1), ce, sl)) : Ev G M pc ls (as.reverse ++ (1, (c : Int)) :: rest) (sh, rf, ia, w) (.inr E, (sh1, rf1, ia1, w1), ce, sl) := by
  intro p l e R s m args below meth cd C A hA hE hK ad0 n0 ad H locs cells slots la ha hn hP hD hS hl hcs hss
  obtain ⟨hd, rfl⟩ := zf_ok hf
  dsimp only at hcs hss hn
  obtain ⟨hini, hpl, hmh, hpar, hfr, hlo⟩ := hl9.1
  have hRun := vx_runV (As := as.map (zc G ad)) (b := ad c) (rest := rest.map (zc G ad)) (g := F0 m pc la (List.map (zc G ad) (as.reverse ++ (1, (c : Int)) :: rest))) (R := R) (cells := cells) (slots := slots) (e := e) (below := below) (meth := meth) (locs := locs) (p := p) (H := H) ⟨C.1, C.2.1, C.2.2.1, C.2.2.2.2.1, C.2.2.2.2.2.2.1⟩ (zMetX (sz := H.size) (ad := ad) hpl hl9.2.1.1 C.2.2.2.2.2.2.2.2.1 hac hal ev) (C := y.1.cls) ⟨⟨rfl, rfl, Nat.le_trans hfr C.2.2.2.2.2.2.2.2.2.1, Nat.le_trans hlo C.2.2.2.2.2.2.2.2.2.2.1, zWs_good hl9.2.1.2 C.2.2.2.2.2.2.1, List.mem_cons_self, C.2.2.2.2.2.2.1 _ hl9.2.1.2, C.2.2.2.2.2.2.1 _ hini, hmh, zN_of hpar, C.2.2.2.2.2.2.1 _ hl9.2.2.1⟩, C.2.2.2.2.2.2.1 _ hl9.2.2.2.1, C.2.2.2.2.2.2.1 _ hl9.2.2.2.2⟩ ⟨zPre_blind, va_recv (ci := ci) (q := (y.1.cls, TT, NN)) hK hP hcl (zW_obj hc), zPre_at hA hE hK hP hD hS⟩ rfl (by rw [List.length_map]; exact hn9) hl.1 (by show List.map (zc G ad) (as.reverse ++ (1, (c : Int)) :: rest) = (as.map (zc G ad)).reverse ++ .ref (ad c) :: rest.map (zc G ad); rw [List.map_append, List.map_reverse]; rfl) (lv_room (by rw [zcats]; exact hrc)) hd ⟨by dsimp only; omega, by dsimp only; omega⟩
  have hf9 := zFree hD hS hA
  refine zCallT hRun rfl hS hf9 (fun ce9 q9 ad9 H1 locs1 had9 hP9 hD9 hS9 hce9 hcv9 hcl9 => ?_)
  exact vx_out (E := E) (ce := ce9) (fun x hx => by rw [C.2.2.2.2.2.2.2.1, hh] at hx; cases hx) C.2.2.2.2.2.1 hce9 hcv9 hcl9 (fun t ht hal9 => ⟨⟨ad9, rfl, by rw [ht]; exact hP9, hD9, fun c hc => (had9 c (Nat.lt_of_lt_of_le hc hn)).trans (ha c hc)⟩, hS9.F ht⟩) hS9.2.2 hcs hss
theorem Ev.passS {G : zG} {M y : zM} {pc pc9 : Nat} {ls rest : List zSV} {sh sh1 : List (Nat × Nat)} {rf rf1 : Nat → Nat → Option Nat} {ia ia1 : Nat → Int → Int} {w w1 : (Nat → Int → Int) × (Nat → Int → Int)} {ce sl idx n : Nat} {E : String} (as : List zSV) (hf : zf M pc = some (.invokestatic idx, 3, pc9)) (hl9 : zLkS M idx y n) (hn9 : as.length = n) (hac : as.all (fun v => zcat v == 1) = true) (hal : as.length ≤ y.2.2.1) (hrc : (rest.map zcat).sum ≤ 8) (hgr : Nat.ble sh.length sh1.length = true) (hh : M.2.2.2.2.1 = []) 
    (ev : Ev G y 0 (zIn as y.2.2.1) [] (sh, rf, ia, w) (.inr E, (sh1, rf1, ia1, w1), ce, sl)) : Ev G M pc ls (as.reverse ++ rest) (sh, rf, ia, w) (.inr E, (sh1, rf1, ia1, w1), ce, sl) := by
  intro p l e R s m args below meth cd C A hA hE hK ad0 n0 ad H locs cells slots la ha hn hP hD hS hl hcs hss
  obtain ⟨hd, rfl⟩ := zf_ok hf
  dsimp only at hcs hss hn
  obtain ⟨hini, hpl, hmh, hpar, hfr, hlo⟩ := hl9.1
  have hRun := vx_runS (As := as.map (zc G ad)) (rest := rest.map (zc G ad)) (g := F0 m pc la (List.map (zc G ad) (as.reverse ++ rest))) (R := R) (cells := cells) (slots := slots) (e := e) (below := below) (meth := meth) (locs := locs) (p := p) (H := H) ⟨C.1, C.2.1, C.2.2.1, C.2.2.2.2.1, C.2.2.2.2.2.2.1⟩ (zMetX (sz := H.size) (ad := ad) hpl hl9.2.1.1 C.2.2.2.2.2.2.2.2.1 hac hal ev) ⟨⟨rfl, rfl, Nat.le_trans hfr C.2.2.2.2.2.2.2.2.2.1, Nat.le_trans hlo C.2.2.2.2.2.2.2.2.2.2.1, zWs_good hl9.2.1.2 C.2.2.2.2.2.2.1, List.mem_cons_self, C.2.2.2.2.2.2.1 _ hl9.2.1.2, C.2.2.2.2.2.2.1 _ hini, hmh, zN_of hpar, C.2.2.2.2.2.2.1 _ hl9.2.2.1⟩, C.2.2.2.2.2.2.1 _ hl9.2.2.2⟩ ⟨zPre_blind, zPre_at hA hE hK hP hD hS⟩ rfl (by rw [List.length_map]; exact hn9) hl.1 (by show List.map (zc G ad) (as.reverse ++ rest) = (as.map (zc G ad)).reverse ++ rest.map (zc G ad); rw [List.map_append, List.map_reverse]) (lv_room (by rw [zcats]; exact hrc)) hd ⟨by dsimp only; omega, by dsimp only; omega⟩
  have hf9 := zFree hD hS hA
  refine zCallT hRun rfl hS hf9 (fun ce9 q9 ad9 H1 locs1 had9 hP9 hD9 hS9 hce9 hcv9 hcl9 => ?_)
  exact vx_out (E := E) (ce := ce9) (fun x hx => by rw [C.2.2.2.2.2.2.2.1, hh] at hx; cases hx) C.2.2.2.2.2.1 hce9 hcv9 hcl9 (fun t ht hal9 => ⟨⟨ad9, rfl, by rw [ht]; exact hP9, hD9, fun c hc => (had9 c (Nat.lt_of_lt_of_le hc hn)).trans (ha c hc)⟩, hS9.F ht⟩) hS9.2.2 hcs hss
theorem Ev.catchV {ce1 sl1 : Nat} {G : zG} {M y : zM} {pc pc9 : Nat} {ls rest : List zSV} {sh sh1 : List (Nat × Nat)} {rf rf1 : Nat → Nat → Option Nat} {ia ia1 : Nat → Int → Int} {w w1 : (Nat → Int → Int) × (Nat → Int → Int)} {ce sl ce2 sl2 idx n p1 i9 : Nat} {o : Option zSV ⊕ String} {h2 : zHp} {E : String} (c : Nat) (as : List zSV) (hf : zf M pc = some (.invokevirtual idx, 3, pc9)) (hl9 : zLkV M idx y n) (hn9 : as.length = n) (ci : Nat) (TT : u_T) (NN : Nat) (hcl : vwCl[ci]? = some (y.1.cls, TT, NN)) (hc : sh[c]? = some (0, ci)) (hac : ((1, (c : Int)) :: as).all (fun v => zcat v == 1) = true) (hal : ((1, (c : Int)) :: as).length ≤ y.2.2.1) (hrc : (rest.map zcat).sum ≤ 8) (hgr : Nat.ble sh.length sh1.length = true) (pre suf : List (Nat × Nat × Nat × Nat)) (x9 : Nat × Nat × Nat × Nat) (name : String) (hh : M.2.2.2.2.1 = pre ++ x9 :: suf) (hpass : ∀ z ∈ pre, z.2.2.2 ≠ 0 ∧ ∃ nm : String, Cond.classLink M.1.cls z.2.2.2 nm ∈ zT ∧ (E, nm) ∈ zNc) (hcov : covers ⟨x9.1, x9.2.1, x9.2.2.1, x9.2.2.2⟩ pc = true) (h0 : x9.2.2.2 ≠ 0) (hlk : Cond.classLink M.1.cls x9.2.2.2 name ∈ zT) (hca : Cond.castable E name ∈ zNw) (hast : zf M x9.2.2.1 = some (.astore i9, 2, p1) ∨ ∃ k : Fin 4, (k : Nat) = i9 ∧ zf M x9.2.2.1 = some (.astore_n k, 1, p1)) (him : Nat.ble (i9 + 1) M.2.2.1 = true) (hce : ce1 + ce2 = ce) (hsl : sl1 + sl2 = sl) (kk : Ev G M p1 [] [] (sh1, rf1, ia1, w1) (o, h2, ce2, sl2)) 
    (ev : Ev G y 0 (zIn ((1, (c : Int)) :: as) y.2.2.1) [] (sh, rf, ia, w) (.inr E, (sh1, rf1, ia1, w1), ce1, sl1)) : Ev G M pc ls (as.reverse ++ (1, (c : Int)) :: rest) (sh, rf, ia, w) (o, h2, ce, sl) := by
  intro p l e R s m args below meth cd C A hA hE hK ad0 n0 ad H locs cells slots la ha hn hP hD hS hl hcs hss
  obtain ⟨hd, rfl⟩ := zf_ok hf
  dsimp only at hcs hss hn
  obtain ⟨hini, hpl, hmh, hpar, hfr, hlo⟩ := hl9.1
  subst hce
  subst hsl
  have hRun := vx_runV (As := as.map (zc G ad)) (b := ad c) (rest := rest.map (zc G ad)) (g := F0 m pc la (List.map (zc G ad) (as.reverse ++ (1, (c : Int)) :: rest))) (R := R) (cells := cells) (slots := slots) (e := e) (below := below) (meth := meth) (locs := locs) (p := p) (H := H) ⟨C.1, C.2.1, C.2.2.1, C.2.2.2.2.1, C.2.2.2.2.2.2.1⟩ (zMetX (sz := H.size) (ad := ad) hpl hl9.2.1.1 C.2.2.2.2.2.2.2.2.1 hac hal ev) (C := y.1.cls) ⟨⟨rfl, rfl, Nat.le_trans hfr C.2.2.2.2.2.2.2.2.2.1, Nat.le_trans hlo C.2.2.2.2.2.2.2.2.2.2.1, zWs_good hl9.2.1.2 C.2.2.2.2.2.2.1, List.mem_cons_self, C.2.2.2.2.2.2.1 _ hl9.2.1.2, C.2.2.2.2.2.2.1 _ hini, hmh, zN_of hpar, C.2.2.2.2.2.2.1 _ hl9.2.2.1⟩, C.2.2.2.2.2.2.1 _ hl9.2.2.2.1, C.2.2.2.2.2.2.1 _ hl9.2.2.2.2⟩ ⟨zPre_blind, va_recv (ci := ci) (q := (y.1.cls, TT, NN)) hK hP hcl (zW_obj hc), zPre_at hA hE hK hP hD hS⟩ rfl (by rw [List.length_map]; exact hn9) hl.1 (by show List.map (zc G ad) (as.reverse ++ (1, (c : Int)) :: rest) = (as.map (zc G ad)).reverse ++ .ref (ad c) :: rest.map (zc G ad); rw [List.map_append, List.map_reverse]; rfl) (lv_room (by rw [zcats]; exact hrc)) hd ⟨by dsimp only; omega, by dsimp only; omega⟩
  have hf9 := zFree hD hS hA
  refine zCallT hRun rfl hS hf9 (fun ce9 q9 ad9 H1 locs1 had9 hP9 hD9 hS9 hce9 hcv9 hcl9 => ?_)
  have hts := C.2.2.2.2.2.2.1
  refine vx_catch (E := E) (name := name) (ce := ce9) C.2.2.2.2.1 (tableOf pre) ⟨x9.1, x9.2.1, x9.2.2.1, x9.2.2.2⟩ (tableOf suf) (by rw [C.2.2.2.2.2.2.2.1, hh]; simp [tableOf]) (fun z hz => ?_) hcov h0 (hts _ hlk) (va_Nw.use rfl (hE.1 _ hca)) hce9 hcv9 hcl9 ?_
  · obtain ⟨z0, hz0, rfl⟩ := List.mem_map.mp hz
    obtain ⟨g1, nm9, g2, g3⟩ := hpass z0 hz0
    exact Or.inr ⟨g1, nm9, hts _ g2, hE.2.1 _ g3⟩
  · have hl0 : lv_has la M.2.2.1 [] := lv_less hl (fun q hq => by cases hq)
    have fin : ∀ (la9 : Array Slot), lv_has la9 M.2.2.1 [(i9, .ref q9)] → W p l e R s m args below meth cd H1 locs1 (cells + ce1) (slots + sl1) (vx_MQ below (zQ G A ad0 n0 (o, h2, ce1 + ce2, sl1 + sl2)) (zX G A ad0 n0 (o, h2, ce1 + ce2, sl1 + sl2)) args s R.cells R.slots A) (F0 m p1 la9 []) := by
      intro la9 hl9x
      exact kk p l e R s m args below meth cd C A hA hE hK ad0 n0 ad9 H1 locs1 (cells + ce1) (slots + sl1) la9 (fun c hc => (had9 c (Nat.lt_of_lt_of_le hc hn)).trans (ha c hc)) (by dsimp only; have := Nat.le_of_ble_eq_true hgr; omega) hP9 hD9 hS9 (lv_less hl9x (fun q hq => by cases hq)) (by dsimp only; omega) (by dsimp only; omega)
    rcases hast with hast | ⟨k9, hk9, hast⟩
    · obtain ⟨g1, rfl⟩ := zf_ok hast
      exact lv_astore C.1 C.2.1 g1 hl0 (Nat.le_of_ble_eq_true him) rfl (fun la9 hl9x => fin la9 hl9x)
    · obtain ⟨g1, rfl⟩ := zf_ok hast
      exact lv_astore_n C.1 C.2.1 g1 hk9 hl0 (Nat.le_of_ble_eq_true him) rfl (fun la9 hl9x => fin la9 hl9x)
theorem zStr {G : zG} {A : Nat → Prop} {U : State} {H : Heap} (h : zEnv G A U H) {i : Nat} (hi : i < 24) : va_O "java/lang/String" (G.2.2.1 i) A U H ∧ va_OF "java/lang/String" "coder" "B" (.int 0) (G.2.2.1 i) A U H ∧ va_OF "java/lang/String" "value" "[B" (.ref (G.2.2.2.1 i)) (G.2.2.1 i) A U H ∧ va_T .byte (G.2.2.2.1 i) (zSl.getD i 0) (fun j => .int ((zSb.getD i []).getD j 0)) A U H := h.2.2.2.2.2.1.1 i hi
theorem Ev.sVal {G : zG} {M : zM} {pc pc9 : Nat} {ls st : List zSV} {sh : List (Nat × Nat)} {rf : Nat → Nat → Option Nat} {ia : Nat → Int → Int} {O : zO} {w : (Nat → Int → Int) × (Nat → Int → Int)} {idx : Nat}
    (i : Nat) (hi : i < 24) (hf : zf M pc = some (.getfield idx, 3, pc9)) (hl9 : Cond.fieldLink M.1.cls idx "java/lang/String" "value" "[B" ∈ zT) (kk : Ev G M pc9 ls ((7, (i : Int)) :: st) (sh, rf, ia, w) O) : Ev G M pc ls ((2, (i : Int)) :: st) (sh, rf, ia, w) O := by
  intro p l e R s m args below meth cd C A hA hE hK ad0 n0 ad H locs cells slots la ha hn hP hD hS hl hcs hss
  obtain ⟨hd, rfl⟩ := zf_ok hf
  refine vk_getf C.1 C.2.1 (zStr hE hi).2.2.1 hS C.2.2.2.2.1 (C.2.2.2.2.2.2.1 _ hl9) (fun _ h9 => h9) hd ?_
  exact kk p l e R s m args below meth cd C A hA hE hK ad0 n0 ad H locs cells slots la ha hn hP hD hS hl hcs hss
theorem Ev.sCod {G : zG} {M : zM} {pc pc9 : Nat} {ls st : List zSV} {sh : List (Nat × Nat)} {rf : Nat → Nat → Option Nat} {ia : Nat → Int → Int} {O : zO} {w : (Nat → Int → Int) × (Nat → Int → Int)} {idx : Nat}
    (i : Nat) (hi : i < 24) (hf : zf M pc = some (.getfield idx, 3, pc9)) (hl9 : Cond.fieldLink M.1.cls idx "java/lang/String" "coder" "B" ∈ zT) (kk : Ev G M pc9 ls ((0, 0) :: st) (sh, rf, ia, w) O) : Ev G M pc ls ((2, (i : Int)) :: st) (sh, rf, ia, w) O := by
  intro p l e R s m args below meth cd C A hA hE hK ad0 n0 ad H locs cells slots la ha hn hP hD hS hl hcs hss
  obtain ⟨hd, rfl⟩ := zf_ok hf
  refine vk_getf C.1 C.2.1 (zStr hE hi).2.1 hS C.2.2.2.2.1 (C.2.2.2.2.2.2.1 _ hl9) (fun _ h9 => h9) hd ?_
  exact kk p l e R s m args below meth cd C A hA hE hK ad0 n0 ad H locs cells slots la ha hn hP hD hS hl hcs hss
theorem Ev.sLen {G : zG} {M : zM} {pc pc9 : Nat} {ls st : List zSV} {sh : List (Nat × Nat)} {rf : Nat → Nat → Option Nat} {ia : Nat → Int → Int} {O : zO} {w : (Nat → Int → Int) × (Nat → Int → Int)} 
    (i : Nat) (hi : i < 24) (hf : zf M pc = some (.arraylength, 1, pc9)) (kk : Ev G M pc9 ls ((0, ((zSl.getD i 0 : Nat) : Int)) :: st) (sh, rf, ia, w) O) : Ev G M pc ls ((7, (i : Int)) :: st) (sh, rf, ia, w) O := by
  intro p l e R s m args below meth cd C A hA hE hK ad0 n0 ad H locs cells slots la ha hn hP hD hS hl hcs hss
  obtain ⟨hd, rfl⟩ := zf_ok hf
  refine va_tlen C.1 C.2.1 (zStr hE hi).2.2.2 hS Int32.ofInt_eq_ofNat.symm hd ?_
  exact kk p l e R s m args below meth cd C A hA hE hK ad0 n0 ad H locs cells slots la ha hn hP hD hS hl hcs hss
theorem Ev.sByte {G : zG} {M : zM} {pc pc9 : Nat} {ls st : List zSV} {sh : List (Nat × Nat)} {rf : Nat → Nat → Option Nat} {ia : Nat → Int → Int} {O : zO} {w : (Nat → Int → Int) × (Nat → Int → Int)} 
    (i j : Nat) (b : Int) (hi : i < 24) (hf : zf M pc = some (.baload, 1, pc9)) (hj : j < zSl.getD i 0) (hj2 : zSl.getD i 0 ≤ 2147483647) (hb : (zSb.getD i []).getD j 0 = Int32.ofInt b) (kk : Ev G M pc9 ls ((0, b) :: st) (sh, rf, ia, w) O) : Ev G M pc ls ((0, (j : Int)) :: (7, (i : Int)) :: st) (sh, rf, ia, w) O := by
  intro p l e R s m args below meth cd C A hA hE hK ad0 n0 ad H locs cells slots la ha hn hP hD hS hl hcs hss
  obtain ⟨hd, rfl⟩ := zf_ok hf
  refine va_tb C.1 C.2.1 (zStr hE hi).2.2.2 hS (i := Int32.ofInt (j : Int)) (v := .int (Int32.ofInt b)) (z_in ⟨by omega, by omega⟩ hj2) ?_ hd ?_
  · rw [z_clamp ⟨by omega, by omega⟩, Int.toNat_natCast, hb]
  exact kk p l e R s m args below meth cd C A hA hE hK ad0 n0 ad H locs cells slots la ha hn hP hD hS hl hcs hss
theorem Ev.sComp {G : zG} {M : zM} {pc pc9 : Nat} {ls st : List zSV} {sh : List (Nat × Nat)} {rf : Nat → Nat → Option Nat} {ia : Nat → Int → Int} {O : zO} {w : (Nat → Int → Int) × (Nat → Int → Int)} {idx : Nat}
    (hf : zf M pc = some (.getstatic idx, 3, pc9)) (hl9 : Cond.fieldLink M.1.cls idx "java/lang/String" "COMPACT_STRINGS" "Z" ∈ zT) (kk : Ev G M pc9 ls ((0, 1) :: st) (sh, rf, ia, w) O) : Ev G M pc ls st (sh, rf, ia, w) O := by
  intro p l e R s m args below meth cd C A hA hE hK ad0 n0 ad H locs cells slots la ha hn hP hD hS hl hcs hss
  obtain ⟨hd, rfl⟩ := zf_ok hf
  refine va_gets C.1 C.2.1 hE.2.2.2.2.2.2.1 hS C.2.2.2.2.1 (C.2.2.2.2.2.2.1 _ hl9) (fun _ h9 => h9) hd ?_
  exact kk p l e R s m args below meth cd C A hA hE hK ad0 n0 ad H locs cells slots la ha hn hP hD hS hl hcs hss
theorem Ev.sForm {G : zG} {M : zM} {pc pc9 : Nat} {ls st : List zSV} {sh : List (Nat × Nat)} {rf : Nat → Nat → Option Nat} {ia : Nat → Int → Int} {O : zO} {w : (Nat → Int → Int) × (Nat → Int → Int)} {idx : Nat}
    (hf : zf M pc = some (.getstatic idx, 3, pc9)) (hl9 : Cond.fieldLink M.1.cls idx "jdk/internal/util/Preconditions" "SIOOBE_FORMATTER" "Ljava/util/function/BiFunction;" ∈ zT) (kk : Ev G M pc9 ls ((8, 0) :: st) (sh, rf, ia, w) O) : Ev G M pc ls st (sh, rf, ia, w) O := by
  intro p l e R s m args below meth cd C A hA hE hK ad0 n0 ad H locs cells slots la ha hn hP hD hS hl hcs hss
  obtain ⟨hd, rfl⟩ := zf_ok hf
  refine va_gets C.1 C.2.1 hE.2.2.2.2.2.2.2.1 hS C.2.2.2.2.1 (C.2.2.2.2.2.2.1 _ hl9) (fun _ h9 => h9) hd ?_
  exact kk p l e R s m args below meth cd C A hA hE hK ad0 n0 ad H locs cells slots la ha hn hP hD hS hl hcs hss
theorem Ev.retB {G : zG} {M : zM} {pc pc9 : Nat} {ls st : List zSV} {sh : List (Nat × Nat)} {rf : Nat → Nat → Option Nat} {ia : Nat → Int → Int} {w : (Nat → Int → Int) × (Nat → Int → Int)} {x : Int}
    (hf : zf M pc = some (.ireturn, 1, pc9)) (hr : M.2.2.2.1 = some .byte) (hx : (Int32.ofInt x).toInt8.toInt32 = Int32.ofInt x) : Ev G M pc ls [(0, x)] (sh, rf, ia, w) (.inl (some (0, x)), (sh, rf, ia, w), 0, 0) := by
  intro p l e R s m args below meth cd C A hA hE hK ad0 n0 ad H locs cells slots la ha hn hP hD hS hl hcs hss
  obtain ⟨hd, rfl⟩ := zf_ok hf
  refine W.widen (k := R.cells) (n := R.slots) hcs hss ?_
  refine vx_ret ?_
  exact W.zret (v := Int32.ofInt x) C.1 C.2.1 (C.2.2.2.1.trans hr) (by show Value.int _ = _; rw [hx]) (fun t ht hW => ⟨⟨some (0, x), ad, rfl, rfl, by rw [ht]; exact hP, hD, ha⟩, hS.F ht⟩) hS.2.2 hd C.2.2.2.2.2.1
theorem Ev.callVS {G : zG} {M y : zM} {pc pc9 : Nat} {ls rest : List zSV} {sh sh1 : List (Nat × Nat)} {rf rf1 : Nat → Nat → Option Nat} {ia ia1 : Nat → Int → Int} {w w1 : (Nat → Int → Int) × (Nat → Int → Int)} {o : Option zSV ⊕ String} {h2 : zHp} {ce sl idx n : Nat} {v : Option zSV} {ce2 sl2 : Nat} (i : Nat) (hi : i < 24) (ce1 sl1 : Nat) (as : List zSV) (hf : zf M pc = some (.invokevirtual idx, 3, pc9)) (hl9 : zLkV M idx y n) (hn9 : as.length = n) (hcl : y.1.cls = "java/lang/String") (hac : ((2, (i : Int)) :: as).all (fun v => zcat v == 1) = true) (hal : ((2, (i : Int)) :: as).length ≤ y.2.2.1) (hrc : (rest.map zcat).sum ≤ 8) (h1l : ls.all (zOk sh.length) = true) (h1r : rest.all (zOk sh.length) = true) (hgr : Nat.ble sh.length sh1.length = true) (hce : ce1 + ce2 = ce) (hsl : sl1 + sl2 = sl)
    (ev : Ev G y 0 (zIn ((2, (i : Int)) :: as) y.2.2.1) [] (sh, rf, ia, w) (.inl v, (sh1, rf1, ia1, w1), ce1, sl1)) (kk : Ev G M pc9 ls (v.toList ++ rest) (sh1, rf1, ia1, w1) (o, h2, ce2, sl2)) : Ev G M pc ls (as.reverse ++ (2, (i : Int)) :: rest) (sh, rf, ia, w) (o, h2, ce, sl) := by
  intro p l e R s m args below meth cd C A hA hE hK ad0 n0 ad H locs cells slots la ha hn hP hD hS hl hcs hss
  obtain ⟨hd, rfl⟩ := zf_ok hf
  subst hce
  subst hsl
  dsimp only at hcs hss hn
  obtain ⟨hini, hpl, hmh, hpar, hfr, hlo⟩ := hl9.1
  have hRun := va_runV (As := as.map (zc G ad)) (b := G.2.2.1 i) (rest := rest.map (zc G ad)) (g := F0 m pc la (List.map (zc G ad) (as.reverse ++ (2, (i : Int)) :: rest))) (R := R) (cells := cells) (slots := slots) (e := e) (below := below) (meth := meth) (locs := locs) (p := p) (H := H) ⟨C.1, C.2.1, C.2.2.1, C.2.2.2.2.1, C.2.2.2.2.2.2.1⟩ (zMet_of (zMetX (sz := H.size) (ad := ad) hpl hl9.2.1.1 C.2.2.2.2.2.2.2.2.1 hac hal ev) zX_no) (C := y.1.cls) ⟨⟨rfl, rfl, Nat.le_trans hfr C.2.2.2.2.2.2.2.2.2.1, Nat.le_trans hlo C.2.2.2.2.2.2.2.2.2.2.1, zWs_good hl9.2.1.2 C.2.2.2.2.2.2.1, List.mem_cons_self, C.2.2.2.2.2.2.1 _ hl9.2.1.2, C.2.2.2.2.2.2.1 _ hini, hmh, zN_of hpar, C.2.2.2.2.2.2.1 _ hl9.2.2.1⟩, C.2.2.2.2.2.2.1 _ hl9.2.2.2.1, C.2.2.2.2.2.2.1 _ hl9.2.2.2.2⟩ ⟨zPre_blind, by rw [hcl]; exact vk_recv hE.2.2.2.2.2.1 hi hS, zPre_at hA hE hK hP hD hS⟩ rfl (by rw [List.length_map]; exact hn9) hl.1 (by show List.map (zc G ad) (as.reverse ++ (2, (i : Int)) :: rest) = (as.map (zc G ad)).reverse ++ .ref (G.2.2.1 i) :: rest.map (zc G ad); rw [List.map_append, List.map_reverse]; rfl) (lv_room (by rw [zcats]; exact hrc)) hd ⟨by dsimp only; omega, by dsimp only; omega⟩
  have hf9 := zFree hD hS hA
  refine zCall hRun hS hf9 (fun v9 ad9 H1 locs1 hv1 had9 hP9 hD9 hS9 => ?_)
  cases hv1
  have kk2 := kk p l e R s m args below meth cd C A hA hE hK ad0 n0 ad9 H1 locs1 (cells + ce1) (slots + sl1) la (fun c hc => (had9 c (Nat.lt_of_lt_of_le hc hn)).trans (ha c hc)) (by dsimp only; have := Nat.le_of_ble_eq_true hgr; omega) hP9 hD9 hS9 (zL_ad had9 h1l hl) (by dsimp only; omega) (by dsimp only; omega)
  rw [List.map_append, zcs_ad had9 h1r] at kk2
  have e8 : v.toList.map (zc G ad9) = (v.map (zc G ad9)).toList := by cases v <;> rfl
  rw [e8] at kk2
  exact kk2
theorem z_u64 (b : UInt64) : UInt64.ofNat ((b.toNat : Nat) : Int).toNat = b := by
  rw [Int.toNat_natCast]
  exact UInt64.ofNat_toNat
theorem z_u32 (b : UInt32) : UInt32.ofNat ((b.toNat : Nat) : Int).toNat = b := by
  rw [Int.toNat_natCast]
  exact UInt32.ofNat_toNat
/-- a double's, a float's bits as a number -/
def zD (b : UInt64) : Int := ((b.toNat : Nat) : Int)
def zS (b : UInt32) : Int := ((b.toNat : Nat) : Int)
theorem zc_D {G : zG} {ad : Nat → Nat} {b : UInt64} : zc G ad (5, zD b) = .double b := congrArg Value.double (z_u64 b)
theorem zc_S {G : zG} {ad : Nat → Nat} {b : UInt32} : zc G ad (6, zS b) = .float b := congrArg Value.float (z_u32 b)
theorem Ev.i2d {G : zG} {M : zM} {pc pc9 : Nat} {ls st : List zSV} {sh : List (Nat × Nat)} {rf : Nat → Nat → Option Nat} {ia : Nat → Int → Int} {O : zO} {w : (Nat → Int → Int) × (Nat → Int → Int)} {x : Int}
    (hf : zf M pc = some (.i2d, 1, pc9))  (kk : Ev G M pc9 ls ((5, zD (FP.i2d (Int32.ofInt x))) :: st) (sh, rf, ia, w) O) : Ev G M pc ls ((0, x) :: st) (sh, rf, ia, w) O := by
  intro p l e R s m args below meth cd C A hA hE hK ad0 n0 ad H locs cells slots la ha hn hP hD hS hl hcs hss
  obtain ⟨hd, rfl⟩ := zf_ok hf
  have kk2 := kk p l e R s m args below meth cd C A hA hE hK ad0 n0 ad H locs cells slots la ha hn hP hD hS hl hcs hss
  rw [List.map_cons, zc_D] at kk2
  refine lv_i2d (x := Int32.ofInt x) C.1 C.2.1 hd ?_
  exact kk2
theorem Ev.i2f {G : zG} {M : zM} {pc pc9 : Nat} {ls st : List zSV} {sh : List (Nat × Nat)} {rf : Nat → Nat → Option Nat} {ia : Nat → Int → Int} {O : zO} {w : (Nat → Int → Int) × (Nat → Int → Int)} {x : Int}
    (hf : zf M pc = some (.i2f, 1, pc9))  (kk : Ev G M pc9 ls ((6, zS (FP.i2f (Int32.ofInt x))) :: st) (sh, rf, ia, w) O) : Ev G M pc ls ((0, x) :: st) (sh, rf, ia, w) O := by
  intro p l e R s m args below meth cd C A hA hE hK ad0 n0 ad H locs cells slots la ha hn hP hD hS hl hcs hss
  obtain ⟨hd, rfl⟩ := zf_ok hf
  have kk2 := kk p l e R s m args below meth cd C A hA hE hK ad0 n0 ad H locs cells slots la ha hn hP hD hS hl hcs hss
  rw [List.map_cons, zc_S] at kk2
  refine lv_i2f (x := Int32.ofInt x) C.1 C.2.1 hd ?_
  exact kk2
theorem Ev.ddiv {G : zG} {M : zM} {pc pc9 : Nat} {ls st : List zSV} {sh : List (Nat × Nat)} {rf : Nat → Nat → Option Nat} {ia : Nat → Int → Int} {O : zO} {w : (Nat → Int → Int) × (Nat → Int → Int)} {a b : UInt64}
    (hf : zf M pc = some (.ddiv, 1, pc9)) (hne : vf_n64 (FP.ddiv a b)) (kk : Ev G M pc9 ls ((5, zD (FP.ddiv a b)) :: st) (sh, rf, ia, w) O) : Ev G M pc ls ((5, zD b) :: (5, zD a) :: st) (sh, rf, ia, w) O := by
  intro p l e R s m args below meth cd C A hA hE hK ad0 n0 ad H locs cells slots la ha hn hP hD hS hl hcs hss
  obtain ⟨hd, rfl⟩ := zf_ok hf
  have kk2 := kk p l e R s m args below meth cd C A hA hE hK ad0 n0 ad H locs cells slots la ha hn hP hD hS hl hcs hss
  rw [List.map_cons, zc_D] at kk2
  rw [List.map_cons, List.map_cons, zc_D, zc_D]
  refine lv_ddiv C.1 C.2.1 hd hne ?_
  exact kk2
theorem Ev.fdiv {G : zG} {M : zM} {pc pc9 : Nat} {ls st : List zSV} {sh : List (Nat × Nat)} {rf : Nat → Nat → Option Nat} {ia : Nat → Int → Int} {O : zO} {w : (Nat → Int → Int) × (Nat → Int → Int)} {a b : UInt32}
    (hf : zf M pc = some (.fdiv, 1, pc9)) (hne : vf_n32 (FP.fdiv a b)) (kk : Ev G M pc9 ls ((6, zS (FP.fdiv a b)) :: st) (sh, rf, ia, w) O) : Ev G M pc ls ((6, zS b) :: (6, zS a) :: st) (sh, rf, ia, w) O := by
  intro p l e R s m args below meth cd C A hA hE hK ad0 n0 ad H locs cells slots la ha hn hP hD hS hl hcs hss
  obtain ⟨hd, rfl⟩ := zf_ok hf
  have kk2 := kk p l e R s m args below meth cd C A hA hE hK ad0 n0 ad H locs cells slots la ha hn hP hD hS hl hcs hss
  rw [List.map_cons, zc_S] at kk2
  rw [List.map_cons, List.map_cons, zc_S, zc_S]
  refine lv_fdiv C.1 C.2.1 hd hne ?_
  exact kk2
theorem Ev.f2d {G : zG} {M : zM} {pc pc9 : Nat} {ls st : List zSV} {sh : List (Nat × Nat)} {rf : Nat → Nat → Option Nat} {ia : Nat → Int → Int} {O : zO} {w : (Nat → Int → Int) × (Nat → Int → Int)} {a : UInt32}
    (hf : zf M pc = some (.f2d, 1, pc9)) (hne : vf_n64 (FP.f2d a)) (kk : Ev G M pc9 ls ((5, zD (FP.f2d a)) :: st) (sh, rf, ia, w) O) : Ev G M pc ls ((6, zS a) :: st) (sh, rf, ia, w) O := by
  intro p l e R s m args below meth cd C A hA hE hK ad0 n0 ad H locs cells slots la ha hn hP hD hS hl hcs hss
  obtain ⟨hd, rfl⟩ := zf_ok hf
  have kk2 := kk p l e R s m args below meth cd C A hA hE hK ad0 n0 ad H locs cells slots la ha hn hP hD hS hl hcs hss
  rw [List.map_cons, zc_D] at kk2
  rw [List.map_cons, zc_S]
  refine lv_f2d C.1 C.2.1 hd hne ?_
  exact kk2
theorem Ev.dconst0 {G : zG} {M : zM} {pc pc9 : Nat} {ls st : List zSV} {sh : List (Nat × Nat)} {rf : Nat → Nat → Option Nat} {ia : Nat → Int → Int} {O : zO} {w : (Nat → Int → Int) × (Nat → Int → Int)} 
    (hf : zf M pc = some (.dconst 0, 1, pc9)) (kk : Ev G M pc9 ls ((5, zD FP.dconst0) :: st) (sh, rf, ia, w) O) : Ev G M pc ls st (sh, rf, ia, w) O := by
  intro p l e R s m args below meth cd C A hA hE hK ad0 n0 ad H locs cells slots la ha hn hP hD hS hl hcs hss
  obtain ⟨hd, rfl⟩ := zf_ok hf
  have kk2 := kk p l e R s m args below meth cd C A hA hE hK ad0 n0 ad H locs cells slots la ha hn hP hD hS hl hcs hss
  rw [List.map_cons, zc_D] at kk2
  refine lv_dconst0 C.1 C.2.1 hd ?_
  exact kk2
theorem Ev.dcmp {G : zG} {M : zM} {pc pc9 : Nat} {ls st : List zSV} {sh : List (Nat × Nat)} {rf : Nat → Nat → Option Nat} {ia : Nat → Int → Int} {O : zO} {w : (Nat → Int → Int) × (Nat → Int → Int)} {a b : UInt64} {op : CmpOp}
    (hf : zf M pc = some (.dcmp op, 1, pc9)) (kk : Ev G M pc9 ls ((0, (Op.cmpValue (FP.dcmp a b) op).toInt) :: st) (sh, rf, ia, w) O) : Ev G M pc ls ((5, zD b) :: (5, zD a) :: st) (sh, rf, ia, w) O := by
  intro p l e R s m args below meth cd C A hA hE hK ad0 n0 ad H locs cells slots la ha hn hP hD hS hl hcs hss
  obtain ⟨hd, rfl⟩ := zf_ok hf
  have kk2 := kk p l e R s m args below meth cd C A hA hE hK ad0 n0 ad H locs cells slots la ha hn hP hD hS hl hcs hss
  rw [List.map_cons, show zc G ad (0, (Op.cmpValue (FP.dcmp a b) op).toInt) = .int (Op.cmpValue (FP.dcmp a b) op) from congrArg Value.int (Int32.ofInt_toInt _)] at kk2
  rw [List.map_cons, List.map_cons, zc_D, zc_D]
  refine lv_dcmp C.1 C.2.1 hd ?_
  exact kk2
end
section
/-! THE THROW OF A CLASS WHOSE OWN CONSTRUCTOR CALLS ITS SUPERCLASS BY A PLACE OF ITS OWN (the rows follow the library's chainS and ctorThrowS and the kit's vx_throwS) -/
def zChX (X : String) (ix : Nat) (rx : ByteArray) : List String → List Cond
  | [] => Bundle.passSAtoms X Bundle.tN ix rx
  | Y :: r => Bundle.passSAtoms X Y ix rx ++ Bundle.chainSAtoms Y r
theorem zChainX {args : Array Value} {s : State} {pl : Platform} (hpl : pl.magicAccessors = ({} : Platform).magicAccessors) {top : MethodId} (htop : s.methodNamed? (Bundle.initS Bundle.tN) = some top)
    {ix : Nat} {rx : ByteArray} (x0 : decode rx 0 = .ok (.aload_n 0, 1)) (x1 : decode rx 1 = .ok (.aload_n 1, 1)) (x2 : decode rx 2 = .ok (.invokespecial ix, 3)) (x5 : decode rx 5 = .ok (.return_, 1)) :
    ∀ (names : List String) (X : String), Bundle.fit X = true → (∀ n ∈ names, Bundle.fit n = true) → (∀ c ∈ zChX X ix rx names, c.before args s = true) →
      ∃ (P1 : PassC) (Ps : List PassC), Ps.length = names.length ∧ P1.LinksS pl s ∧ (∀ P, P ∈ Ps → P.LinksS pl s) ∧ s.methodNamed? (Bundle.initS X) = some P1.m ∧
        P1.sup = firstOf top (Ps.map (·.toPassT)) ∧ PassesOn top (Ps.map (·.toPassT)) := by
  intro names
  cases names with
  | nil =>
    intro X hX _ h
    obtain ⟨P, L, hm, hs⟩ := PassC.ofS_atoms (args := args) (s := s) hpl (X := X) (Y := Bundle.tN) (Bundle.fit_spec hX).1 (by decide) x0 x1 x2 x5 h
    exact ⟨P, [], rfl, L, (fun _ hP => by cases hP), hm, Option.some.inj (hs.symm.trans htop), trivial⟩
  | cons Y r =>
    intro X hX hn h
    obtain ⟨P, L, hm, hs⟩ := PassC.ofS_atoms (args := args) (s := s) hpl (X := X) (Y := Y) (Bundle.fit_spec hX).1 (Bundle.fit_spec (hn Y List.mem_cons_self)).2 x0 x1 x2 x5
      (fun c hc => h c (by simp only [zChX, List.mem_append]; exact Or.inl hc))
    obtain ⟨P', Ps, hlen, L', hL, hm', hsup, hpass⟩ := Bundle.chainS (args := args) hpl htop r Y (hn Y List.mem_cons_self) (fun n hn' => hn n (List.mem_cons_of_mem _ hn')) (fun c hc => h c (by simp only [zChX, List.mem_append]; exact Or.inr hc))
    refine ⟨P, P' :: Ps, by simp [hlen], L, ?_, hm, Option.some.inj (hs.symm.trans hm'), hsup, hpass⟩
    intro Q hQ
    rcases List.mem_cons.mp hQ with rfl | hQ
    · exact L'
    · exact hL Q hQ
def zAtX (own : String) (ic : Nat) (X : String) (ix : Nat) (rx : ByteArray) (names : List String) : List Cond :=
  Bundle.throwableAtoms ++ Bundle.throwableSAtoms ++ zChX X ix rx names ++
  [.methodLink own ic (Bundle.initS X), .instantiable X 6, .castable X X, .selects X Bundle.tFill0 Bundle.tFill0, .selects X Bundle.tFill Bundle.tFill,
   .lays X Bundle.tN "cause" "Ljava/lang/Throwable;", .lays X Bundle.tN "stackTrace" Bundle.steD, .lays X Bundle.tN "suppressedExceptions" Bundle.listD, .lays X Bundle.tN "detailMessage" "Ljava/lang/String;",
   .isRef (.static Bundle.tN "UNASSIGNED_STACK" Bundle.steD), .isRef (.static Bundle.tN "SUPPRESSED_SENTINEL" Bundle.listD),
   .fieldLink Bundle.tN 198 Bundle.tN "backtrace" "Ljava/lang/Object;", .lays Bundle.tN Bundle.tN "backtrace" "Ljava/lang/Object;", .lays X Bundle.tN "backtrace" "Ljava/lang/Object;"]
section ZCX
variable {p : Program} {l : Launch} {e : Env} {R : Room} {s : State} {m₀ : MethodId} {args : Array Value} {below : List Frame} {meth : Method} {c : Code} {W : State} {locs : List Loc} {cells slots : Nat}
set_option maxHeartbeats 4000000 in
theorem zCtorX (X : Stand p l e R s m₀ args below meth c W locs cells slots) (hexec : p.tables.exec = Jvm.exec) (htr : e.platform.stackTraces = false) {own cls : String} {names : List String} {ic ix : Nat} {rx : ByteArray}
    (x0 : decode rx 0 = .ok (.aload_n 0, 1)) (x1 : decode rx 1 = .ok (.aload_n 1, 1)) (x2 : decode rx 2 = .ok (.invokespecial ix, 3)) (x5 : decode rx 5 = .ok (.return_, 1))
    (hown : s.vm.findClass own = some m₀.cls) (hcls : Bundle.fit cls = true) (hnames : ∀ n ∈ names, Bundle.fit n = true)
    (h : ∀ a ∈ zAtX own ic cls ix rx names, a.before args s = true)
    (hlocs : ∀ x ∈ locs, ∀ cell, s.heap[x.base]? = some cell → cell.vm.isStatics = false)
    {a : Addr} {cX : ClassId} {kX : Class} (hfoundX : s.vm.findClass cls = some cX) (hkX : s.vm.classes[cX]? = some kX) (hcell : W.heap[a]? = some (freshCell cX kX)) (hnew : s.heap.size ≤ a)
    {msg : Value} (hmsg : msg.isRef = true)
    {g : JFrame} (hg : g.method = m₀) (hsize : g.locals.size = c.maxLocals) (hlocked : g.locked = none) (hentered : g.entered = []) {rest : List Value} (hstack : g.stack = msg :: .ref a :: .ref a :: rest)
    (hd6 : decode c.code g.pc = .ok (.invokespecial ic, 3)) (hd9 : decode c.code (g.pc + 3) = .ok (.athrow, 1)) (hout : ∀ x ∈ c.exceptionTable.toList, covers x (g.pc + 3) = false)
    (hRframes : names.length + 3 < R.frames) (hRlocals : 2 * g.monitorRoom + ((Value.ref a :: rest).map fun v => v.category).sum + (13 * (names.length + 1) + 42) ≤ R.locals) (hlocks : meth.locks = false := by first | assumption | exact BodyLoose.notSynchronized (by assumption) | exact Body.notSynchronized (by assumption)) :
    ∃ U : State, Steps p.tables e below (W.setTop g) U ∧ U.status = .running ∧ Ended U below (.threw a) ∧ s.WarmedH U.vm ∧ s.sameButNew ({ U with vm := s.vm } : State) locs cells slots ∧
      ∃ ce, U.heap[a]? = some ce ∧ Bundle.OwnCell args s cls a msg ce := by
  have howns : e.platform.frameOwnsMonitors = true := by rw [X.admits.platform]
  have hfin : e.platform.finalization = false := by rw [X.admits.platform]
  have hpl : e.platform.magicAccessors = ({} : Platform).magicAccessors := by rw [X.admits.platform]
  have a' : ∀ x, x ∈ zAtX own ic cls ix rx names → x.holds args s none s [] = true := fun x hx => h x hx
  obtain ⟨T, Z0, L, -, Y⟩ := ThrowableC.of_atoms (args := args) howns hfin hpl (fun x hx => h x (by simp [zAtX, hx]))
  obtain ⟨Z, M, LZ, LM, hnZ⟩ := Init0T.ofS_atoms (args := args) hpl L Y (fun x hx => h x (by simp [zAtX, hx]))
  obtain ⟨P1, Ps, hlen, L1, hL, hP1m, hlink1, hlink⟩ := zChainX (args := args) hpl hnZ x0 x1 x2 x5 names cls hcls hnames (fun x hx => h x (by simp [zAtX, hx]))
  have hfound : s.vm.findClass cls = some P1.m.cls := findClass_of_methodNamed hP1m
  cases Option.some.inj (hfoundX.symm.trans hfound)
  obtain ⟨c1, kX', hc1, hk, hord, -, -, hn6⟩ := Cond.instantiable_spec (a' (.instantiable cls 6) (by simp [zAtX]))
  cases Option.some.inj (hc1.symm.trans hfound)
  cases Option.some.inj (hkX.symm.trans hk)
  have hsel0 : selectMethod e.platform s.vm P1.m.cls T.fill0 = .method T.fill0 := by
    obtain ⟨c2, r2, m2, q1, q2, q3, q4, -⟩ := Cond.selects_spec (a' (.selects cls Bundle.tFill0 Bundle.tFill0) (by simp [zAtX]))
    cases Option.some.inj (q1.symm.trans hfound)
    cases Option.some.inj (q2.symm.trans (State.methodFound?_of_named Y.fill0 (by decide)))
    cases Option.some.inj (q3.symm.trans Y.fill0)
    rw [Launch.admits_selectMethod X.admits]; exact q4
  have hselF : selectMethod e.platform s.vm P1.m.cls T.fill = .method T.fill := by
    obtain ⟨c2, r2, m2, q1, q2, q3, q4, -⟩ := Cond.selects_spec (a' (.selects cls Bundle.tFill Bundle.tFill) (by simp [zAtX]))
    cases Option.some.inj (q1.symm.trans hfound)
    cases Option.some.inj (q2.symm.trans (State.methodFound?_of_named Y.fill (by decide)))
    cases Option.some.inj (q3.symm.trans Y.fill)
    rw [Launch.admits_selectMethod X.admits]; exact q4
  obtain ⟨cellS0, hcS0, hiss⟩ := Y.statics
  obtain ⟨u0, hu0⟩ := Cond.staticRefV Y.unassigned L.unassignedStatic L.statics hcS0 hiss (a' (.isRef (.static Bundle.tN "UNASSIGNED_STACK" Bundle.steD)) (by simp [zAtX]))
  obtain ⟨sen, hsen⟩ := Cond.staticRefV Y.sentinel L.sentinelStatic L.statics hcS0 hiss (a' (.isRef (.static Bundle.tN "SUPPRESSED_SENTINEL" Bundle.listD)) (by simp [zAtX]))
  obtain ⟨ci198, i198, fB, hk198, hg198, ha198, hsB, -, hnB, htB, hffB⟩ := Cond.ownField (t := .object "java/lang/Object") Y.found L.cls (by decide +kernel) (a' (.fieldLink Bundle.tN 198 Bundle.tN "backtrace" "Ljava/lang/Object;") (by simp [zAtX])) (a' (.lays Bundle.tN Bundle.tN "backtrace" "Ljava/lang/Object;") (by simp [zAtX])) e.platform hpl
  obtain ⟨cellS, hcS', heS, -, hkeep⟩ := X.same.2.2.2.2.2 T.aS cellS0 hcS0
  have hcellS : W.heap[T.aS]? = some cellS := hcS'
  have hout' : ∀ i, (⟨T.aS, i⟩ : Loc) ∉ locs := fun i hmem => by
    have := hlocs _ hmem cellS0 hcS0
    rw [hiss] at this; cases this
  have hknownS : cellS.vm ≠ .unknown := by
    rw [heS]; intro hu
    rw [show cellS0.vm = .unknown from hu] at hiss
    cases hiss
  have hneS : T.aS ≠ a := Nat.ne_of_lt (Nat.lt_of_lt_of_le (Array.getElem?_eq_some_iff.mp hcS0).1 hnew)
  obtain ⟨iM, hffM⟩ := Y.msg
  obtain ⟨tyC, dC, hdC, hdnC⟩ := Cond.laysAt hfound hk Y.cause (a' (.lays cls Bundle.tN "cause" "Ljava/lang/Throwable;") (by simp [zAtX]))
  obtain ⟨tyS, dS, hdS, hdnS⟩ := Cond.laysAt hfound hk Y.stack (a' (.lays cls Bundle.tN "stackTrace" Bundle.steD) (by simp [zAtX]))
  obtain ⟨tyP, dP, hdP, hdnP⟩ := Cond.laysAt hfound hk Y.supp (a' (.lays cls Bundle.tN "suppressedExceptions" Bundle.listD) (by simp [zAtX]))
  obtain ⟨tyM, dM, hdM, hdnM⟩ := Cond.laysAt hfound hk hffM (a' (.lays cls Bundle.tN "detailMessage" "Ljava/lang/String;") (by simp [zAtX]))
  obtain ⟨tyB, dB, hdB, hdnB⟩ := Cond.laysAt hfound hk hffB (a' (.lays cls Bundle.tN "backtrace" "Ljava/lang/Object;") (by simp [zAtX]))
  have bC := Cond.laysApart hdB hdC hdnB hdnC (by rw [hnB, Y.causeName]; decide)
  have bS := Cond.laysApart hdB hdS hdnB hdnS (by rw [hnB, Y.stackName]; decide)
  have bP := Cond.laysApart hdB hdP hdnB hdnP (by rw [hnB, Y.suppName]; decide)
  have hskip : SkipFacts T e.platform s (fun u => u) u0 ((preparedCellV T.toThrowableT (freshCell P1.m.cls kX) a u0 sen).withEntry W.cur) :=
    ⟨{ ci198 := ci198, i198 := i198, fBack := fB }, ⟨hk198, hg198, ha198, hsB⟩, by
      have := fresh_default (c := P1.m.cls) tyB
      rw [htB] at this
      simpa [preparedCellV, Cell.setSlot, Cell.withEntry, Array.getElem?_setIfInBounds, bC, bS, bP, bC.symm, bS.symm, bP.symm, defaultValue] using this, fun _ _ => rfl⟩
  obtain ⟨tm, methC, cdC, kC, vm₁, hnC, -, -, -, -, -, -, -, hW₁, st1⟩ := Steps.initColdS (tb := p.tables) (e := e) (below := below) (s := s) (U := W) X.here hexec X.warmed hpl hown (t := Bundle.initS cls) rfl rfl (Bundle.fit_spec hcls).2
    (a' (.methodLink own ic (Bundle.initS cls)) (by simp [zAtX])) (h (.instanceMethod (Bundle.initS cls)) (by cases names <;> simp [zAtX, zChX, Bundle.passSAtoms])) (bytes := rx) (maxL := 2) (h (.code (Bundle.initS cls) rx 2 none) (by cases names <;> simp [zAtX, zChX, Bundle.passSAtoms]))
    (f := g) hg (a := a) (msg := msg) (rest := .ref a :: rest) hstack hd6
  cases Option.some.inj (hnC.symm.trans hP1m)
  have X₁ := X.noted hW₁
  obtain ⟨vm₂, X₂, st2⟩ := X₁.ctorMessageOffV hexec (g := { g with stack := .ref a :: rest }) hg hsize T L Z LZ M LM (P1 :: Ps)
    (fun P hP => by rcases List.mem_cons.mp hP with rfl | hP; exact L1; exact hL P hP) ⟨hlink1, hlink⟩ (u0 := u0) (sen := sen) (self := a) hmsg (cell := freshCell P1.m.cls kX) (cellS := cellS)
    hcell (fun _ => by simp) (by simp) rfl rfl hsel0 hselF hcellS hneS hknownS (by rw [hkeep _ (hout' _)]; exact hu0) (by rw [hkeep _ (hout' _)]; exact hsen)
    (Takes.of_laid hk hord tyC (by rw [Y.causeType]; rfl)) (Takes.of_laid hk hord tyS (by rw [Y.stackType]; exact fits_refV_array _ u0)) (Takes.of_laid hk hord tyP (by rw [Y.suppType]; exact fits_refV_object _ sen))
    (Takes.of_laid hk hord tyM (by rw [Y.msgType]; exact fits_refV_object _ ⟨msg, hmsg⟩)) Y.objLocals hskip htr [] hd6
    (by simp only [List.length_cons, hlen]; omega) (by simp only [List.length_cons, hlen]; exact hRlocals)
  obtain ⟨hwalk, hrun, hended, hWU, hsame⟩ := X₂.athrowLeaves hexec (g := { g with stack := .ref a :: rest, pc := g.pc + 3 }) hg hlocked hentered hout (a := a) (rest := rest) rfl hd9
  obtain ⟨c3, c4, hc3, hc4, hasg⟩ := Cond.castable_spec (a' (.castable cls cls) (by simp [zAtX]))
  cases Option.some.inj (hc3.symm.trans hfound)
  cases Option.some.inj (hc4.symm.trans hfound)
  have hlt : a < ((W.setVm vm₁).setVm vm₂).heap.size := (Array.getElem?_eq_some_iff.mp hcell).1
  have hU := heapAt_setCell_self (s := (W.setVm vm₁).setVm vm₂) (plainBareV T.toThrowableT (freshCell P1.m.cls kX) a u0 sen msg) hlt
  have hnM : T.fMsg.name = "detailMessage" := (State.fieldFound?_type hffM (t := .object "java/lang/String") (by decide +kernel)).1
  have nCS := Cond.laysApart hdC hdS hdnC hdnS (by rw [Y.causeName, Y.stackName]; decide)
  have nCP := Cond.laysApart hdC hdP hdnC hdnP (by rw [Y.causeName, Y.suppName]; decide)
  have nCM := Cond.laysApart hdC hdM hdnC hdnM (by rw [Y.causeName, hnM]; decide)
  have nSP := Cond.laysApart hdS hdP hdnS hdnP (by rw [Y.stackName, Y.suppName]; decide)
  have nSM := Cond.laysApart hdS hdM hdnS hdnM (by rw [Y.stackName, hnM]; decide)
  have nPM := Cond.laysApart hdP hdM hdnP hdnM (by rw [Y.suppName, hnM]; decide)
  have lC : T.fCause.slot < kX.instanceTypes.size := (Array.getElem?_eq_some_iff.mp tyC).1
  have lS : T.fStack.slot < kX.instanceTypes.size := (Array.getElem?_eq_some_iff.mp tyS).1
  have lP : T.fSupp.slot < kX.instanceTypes.size := (Array.getElem?_eq_some_iff.mp tyP).1
  have lM : T.fMsg.slot < kX.instanceTypes.size := (Array.getElem?_eq_some_iff.mp tyM).1
  have evU : ∀ o, (Term.static Bundle.tN "UNASSIGNED_STACK" Bundle.steD).eval args s o [] s = some u0.v := by
    intro o
    simp [Term.eval, State.fieldNamed?, Y.unassigned, L.unassignedStatic, L.statics, hcS0, hiss, hu0]
  have evS : ∀ o, (Term.static Bundle.tN "SUPPRESSED_SENTINEL" Bundle.listD).eval args s o [] s = some sen.v := by
    intro o
    simp [Term.eval, State.fieldNamed?, Y.sentinel, L.sentinelStatic, L.statics, hcS0, hiss, hsen]
  refine ⟨_, st1 _ (fun acts => ?_), hrun, hended, hWU, hsame.weaken (fun y hy hlt' => ?_) (Nat.le_refl _) (Nat.le_refl _), _, hU, ?_⟩
  · rw [doInvoke_state]
    exact st2 _ hwalk
  · rcases List.mem_append.mp hy with h1 | h1
    · exact h1
    · exfalso
      have hb : y.base = a := by
        simp only [List.mem_cons, List.not_mem_nil, or_false] at h1
        rcases h1 with rfl | rfl | rfl | rfl | rfl <;> rfl
      rw [hb] at hlt'
      exact Nat.not_lt.mpr hnew hlt'
  · exact { cls := hfound, self := hasg, monitor := rfl, hash := rfl, vm := rfl, size := by simp [plainBareV, preparedCellV, Cell.setSlot, hn6]
            cause := ⟨_, _, _, _, Y.cause, by simp [plainBareV, preparedCellV, Cell.setSlot, nCS.symm, nCP.symm, nCM.symm, lC]⟩
            stack := ⟨_, _, _, _, u0, Y.stack, by simp [plainBareV, preparedCellV, Cell.setSlot, nSM.symm, lS], evU⟩
            supp := ⟨_, _, _, _, sen, Y.supp, by simp [plainBareV, preparedCellV, Cell.setSlot, nSP, nPM.symm, lP], evS⟩
            msg := ⟨_, _, _, _, hffM, by simp [plainBareV, preparedCellV, Cell.setSlot, lM]⟩
            other := fun O f d c k i fd hf hy n1 n2 n3 n4 => by
              obtain ⟨ty, dd, hdd, hddn⟩ := Cond.laysAt hfound hk hf hy
              have m1 := Cond.laysApart hdd hdC hddn hdnC (by rw [Y.causeName]; exact n1)
              have m2 := Cond.laysApart hdd hdS hddn hdnS (by rw [Y.stackName]; exact n2)
              have m3 := Cond.laysApart hdd hdP hddn hdnP (by rw [Y.suppName]; exact n3)
              have m4 := Cond.laysApart hdd hdM hddn hdnM (by rw [hnM]; exact n4)
              have := fresh_default (c := P1.m.cls) ty
              simpa [plainBareV, preparedCellV, Cell.setSlot, Array.getElem?_setIfInBounds, m1, m2, m3, m4, m1.symm, m2.symm, m3.symm, m4.symm] using this }
end ZCX
section ZTX
variable {p : Program} {l : Launch} {e : Env} {R : Room} {s : State} {m : MethodId} {args : Array Value} {below : List Frame} {meth : Method} {c : Code} {H : Heap} {locs : List Loc} {cells slots : Nat} {Q : State → Prop}
variable {mc ms : Nat} {free : Addr → Prop} {A0 A1 : Nat → Prop} {H0 : Heap} {a : Array Value} {ls : Array Slot} {st0 rest : List Value}
variable {Qc : Array Value → State → Outcome → State → Prop} {XC : String → State → State → Prop}
set_option maxHeartbeats 4000000 in
theorem zThrowX {cc : ByteArray} {pc : Nat} (hexec : p.tables.exec = Jvm.exec) (hb : c.code = cc) (hl : l.stackTraces = false) {own cls text : String} {names : List String} {ik is ic ix mc ms sa : Nat} {rx : ByteArray} (x0 : decode rx 0 = .ok (.aload_n 0, 1)) (x1 : decode rx 1 = .ok (.aload_n 1, 1)) (x2 : decode rx 2 = .ok (.invokespecial ix, 3)) (x5 : decode rx 5 = .ok (.return_, 1)) {A : Nat → Prop}
    (hown : s.vm.findClass own = some m.cls) (hcls : Bundle.fit cls = true) (hnames : ∀ n ∈ names, Bundle.fit n = true)
    (hk : (Cond.classLink own ik cls).before args s = true) (hini : (Cond.initialized cls).before args s = true) (hstr : vk_R own is text sa s) (hat : ∀ w ∈ (zAtX own ic cls ix rx names).filter vx_no, w.before args s = true)
    (hgood : ∀ w ∈ Cond.classLink own ik cls :: Cond.initialized cls :: (zAtX own ic cls ix rx names).filter vx_no, vx_ot w = true)
    (hU : vx_Zq Bundle.tN "UNASSIGNED_STACK" Bundle.steD A s s.heap) (hN : vx_Zq Bundle.tN "SUPPRESSED_SENTINEL" Bundle.listD A s s.heap) (hS : va_S A s.heap H locs) (hsize : ls.size = c.maxLocals)
    (d0 : decode cc pc = .ok (.new ik, 3)) (d3 : decode cc (pc + 3) = .ok (.dup, 1)) (d4 : decode cc (pc + 4) = .ok (.ldc is, 2)) (d6 : decode cc (pc + 6) = .ok (.invokespecial ic, 3)) (d9 : decode cc (pc + 9) = .ok (.athrow, 1))
    (hout : ∀ x ∈ c.exceptionTable.toList, covers x (pc + 9) = false)
    (hRframes : names.length + 3 < R.frames) (hRlocals : (rest.map fun v => v.category).sum + (13 * (names.length + 1) + 43) ≤ R.locals) (hRcells : cells + 1 ≤ R.cells) (hRslots : slots + 6 ≤ R.slots) (hlocks : meth.locks = false)
    (hx : ∀ t : State, s.vm.Alike t.vm → H.size ≤ t.heap.size → (∀ q : Nat, q < H.size → t.heap[q]? = H[q]?) → XC cls s t)
    (hf : ∀ z ∈ locs, free z.base) (hc : cells + 1 ≤ mc) (hs : slots + 6 ≤ ms) :
    W p l e R s m args below meth c H locs cells slots (vx_MQ below Qc XC args s mc ms free) (F0 m pc ls rest) := by
  intro T hT X
  have htr : e.platform.stackTraces = false := (show e.platform.stackTraces = l.stackTraces by rw [X.admits.platform]).trans hl
  have Y := vx_rebase X (R' := { frames := R.frames, locals := R.locals, cells := 1, slots := 6 }) (Nat.le_refl _) (Nat.le_refl _) hRcells hRslots
  obtain ⟨s', hA⟩ : ∃ z, z = (T.setVm s.vm).setFrames (.invoking m args :: below) := ⟨_, rfl⟩
  rw [← hA] at Y
  have hvm : s'.vm = s.vm := by rw [hA]; rfl
  have hhp : s'.heap = H := by rw [hA]; exact hT
  have hW0 : s.WarmedH s'.vm := by rw [hvm]; exact State.WarmedH.refl s
  have hat' : ∀ w ∈ (zAtX own ic cls ix rx names).filter vx_no, w.before args s' = true := fun w hw => vx_ot_at hW0 hvm.symm (hgood w (List.mem_cons_of_mem _ (List.mem_cons_of_mem _ hw))) (hat w hw)
  have hk' : (Cond.classLink own ik cls).before args s' = true := vx_ot_at hW0 hvm.symm (hgood _ List.mem_cons_self) hk
  have hini' : (Cond.initialized cls).before args s' = true := vx_ot_at hW0 hvm.symm (hgood _ (List.mem_cons_of_mem _ List.mem_cons_self)) hini
  have hU' : vx_Zq Bundle.tN "UNASSIGNED_STACK" Bundle.steD A s' s'.heap := by rw [hhp]; exact vx_Zq.moved hW0.alike (hU.kept hS.2.1)
  have hN' : vx_Zq Bundle.tN "SUPPRESSED_SENTINEL" Bundle.listD A s' s'.heap := by rw [hhp]; exact vx_Zq.moved hW0.alike (hN.kept hS.2.1)
  have h : ∀ w ∈ zAtX own ic cls ix rx names, w.before args s' = true := vx_own hat' (vx_isRefq hU'.1) (vx_isRefq hN'.1) hU'.2.word hN'.2.word
  have hown' : s'.vm.findClass own = some m.cls := by rw [hvm]; exact hown
  have hins : (Cond.instantiable cls 6).before args s' = true := h _ (by simp [zAtX])
  obtain ⟨vm₁, cX, kX, hfX, hkX, -, -, X₁, st1⟩ := Y.newCold hexec (own := own) (C := cls) (index := ik) (n := 6) hown' hk' hins hini'
    (g := F0 m pc ls rest) rfl (by rw [hb]; exact d0) (Nat.le_refl _) (Nat.le_refl _)
  generalize hT1 : (T.setVm vm₁).pushCell { cls := cX, slots := kX.instanceTypes.map defaultValue, vm := .none } = T1 at X₁ st1
  have hcat : (Value.ref T.heap.size).category = 1 := rfl
  have hcellA : T1.heap[T.heap.size]? = some (freshCell cX kX) := by rw [← hT1]; exact State.heap_pushCell_size _ _
  have d3' : decode c.code (pc + 3) = .ok (.dup, 1) := by rw [hb]; exact d3
  have d4' : decode c.code (pc + 4) = .ok (.ldc is, 2) := by rw [hb]; exact d4
  have hstr' : vk_R own is text sa s' := vk_R.warm hW0 hstr
  obtain ⟨U, hsteps, hrun, hend, hW, hsame, ce, hce, hO⟩ := zCtorX X₁ hexec htr x0 x1 x2 x5 (own := own) (cls := cls) (names := names) (ic := ic) hown' hcls hnames h (fun x hx => nomatch hx) hfX hkX hcellA (by rw [hhp, hT]; exact Nat.le_refl _) (msg := .ref sa) rfl
    (g := { method := m, pc := pc + 6, locals := ls, stack := .ref sa :: .ref T.heap.size :: .ref T.heap.size :: rest, locked := none }) rfl hsize rfl rfl (rest := rest) rfl
    (by rw [hb]; exact d6) (by rw [hb]; exact d9) hout hRframes (by simp only [List.map_cons, List.sum_cons, hcat]; omega) hlocks
  obtain ⟨f1, f2⟩ := vx_frame hsame
  rw [hhp] at f1 f2
  have hWs : s.WarmedH U.vm := State.WarmedH.trans hW0 hW
  have hcl : s.vm.findClass cls = some ce.cls := by
    have h9 := hO.cls
    rw [hvm] at h9
    exact h9
  have hall : s.sameButNew ({ U with vm := s.vm } : State) locs mc ms := by
    subst hA
    obtain ⟨e1, e2⟩ := hsame
    rw [State.setFrames_setFrames] at e1
    have h2 : (T.setVm s.vm).sameButNew ({ U with vm := s.vm } : State) [] (0 + 1) (0 + 6) := ⟨e1, e2⟩
    have h3 := X.same.trans h2
    rw [List.append_nil] at h3
    exact h3.mono hc hs
  refine ⟨U, ?_, .threw T.heap.size, hrun, hend, Or.inr ⟨T.heap.size, rfl, cls, ce, locs, hx U hWs.alike f1 (fun q hq => f2 q hq (fun z hz => nomatch hz)), hce, hO.vm, hcl, hWs, hall, hf⟩⟩
  refine st1 _ ?_
  show Steps p.tables e below (T1.setTop { method := m, pc := pc + 3, locals := ls, stack := .ref T.heap.size :: rest, locked := none }) _
  jvm_step X₁.here [X₁.here.top, hexec, d3', Value.category]
  exact X₁.ldcString hexec (own := own) (text := text) (index := is) (a := sa) hown' hstr'.1 hstr'.2
    (g := { method := m, pc := pc + 4, locals := ls, stack := .ref T.heap.size :: .ref T.heap.size :: rest, locked := none }) rfl d4' _ hsteps
end ZTX
/-- 'new NoSuchElementException("..")' in the code of M -/
def zThX (M : zM) (ik ic ix : Nat) (rx : ByteArray) (cls : String) : Prop := Bundle.fit cls = true ∧ Cond.classLink M.1.cls ik cls ∈ zT ∧ Cond.initialized cls ∈ zT ∧ (∀ w ∈ ((zAtX M.1.cls ic cls ix rx zEx).filter vx_no).filter goodWord, w ∈ zT) ∧ (∀ w ∈ ((zAtX M.1.cls ic cls ix rx zEx).filter vx_no).filter (fun w => !goodWord w), w ∈ zNw) ∧ (∀ w ∈ Cond.classLink M.1.cls ik cls :: Cond.initialized cls :: (zAtX M.1.cls ic cls ix rx zEx).filter vx_no, vx_ot w = true) ∧ decode rx 0 = .ok (.aload_n 0, 1) ∧ decode rx 1 = .ok (.aload_n 1, 1) ∧ decode rx 2 = .ok (.invokespecial ix, 3) ∧ decode rx 5 = .ok (.return_, 1)
theorem Ev.throwX {G : zG} {M : zM} {pc pc9 : Nat} {ls st : List zSV} {sh : List (Nat × Nat)} {rf : Nat → Nat → Option Nat} {ia : Nat → Int → Int} {w : (Nat → Int → Int) × (Nat → Int → Int)} {p1 p2 p3 p4 p5 ik ic is ix : Nat} {rx : ByteArray} {cls tx : String} (i : Nat) (hl9 : zThX M ik ic ix rx cls) (f0 : zf M pc = some (.new ik, 3, p1)) (f1 : zf M p1 = some (.dup, 1, p2)) (f2 : zf M p2 = some (.ldc is, 2, p3)) (f3 : zf M p3 = some (.invokespecial ic, 3, p4)) (f4 : zf M p4 = some (.athrow, 1, p5)) (hs9 : zSK[i]? = some (M.1.cls, is, tx)) (hh : M.2.2.2.2.1 = []) (hfr : 6 ≤ M.2.2.2.2.2.1) (hlo : (st.map zcat).sum + 82 ≤ M.2.2.2.2.2.2) :
    Ev G M pc ls st (sh, rf, ia, w) (.inr cls, (sh, rf, ia, w), 1, 6) := by
  intro p l e R s m args below meth cd C A hA hE hK ad0 n0 ad H locs cells slots la ha hn hP hD hS hl hcs hss
  obtain ⟨d0, rfl⟩ := zf_ok f0
  obtain ⟨d1, rfl⟩ := zf_ok f1
  obtain ⟨d2, rfl⟩ := zf_ok f2
  obtain ⟨d3, rfl⟩ := zf_ok f3
  obtain ⟨d4, rfl⟩ := zf_ok f4
  obtain ⟨hfit, hk, hini, hg1, hg2, hgood, x0, x1, x2, x5⟩ := hl9
  have hts := C.2.2.2.2.2.2.1
  have hat : ∀ w ∈ (zAtX M.1.cls ic cls ix rx zEx).filter vx_no, w.before args s = true := vx_hat (B := zNw) (fun w hw => hts w (hg1 w hw)) hg2 (fun w hw => va_Nw.use (zNw_ot hw) (hE.1 w hw))
  refine zThrowX (names := zEx) (A := A) (own := M.1.cls) (cls := cls) (text := tx) (sa := G.2.2.1 i) C.1 C.2.1 C.2.2.2.2.2.2.2.2.1 x0 x1 x2 x5 C.2.2.2.2.1 hfit zEx_fit (hts _ hk) (hts _ hini) (hE.2.2.1 i _ hs9) hat hgood hE.2.2.2.1 hE.2.2.2.2.1 hS (hl.1.trans C.2.2.1.symm) d0 d1 d2 d3 d4 (fun x hx => ?_) (Nat.lt_of_lt_of_le hfr C.2.2.2.2.2.2.2.2.2.1) (by rw [zcats]; exact Nat.le_trans hlo C.2.2.2.2.2.2.2.2.2.2.1) hcs hss C.2.2.2.2.2.1 (fun t hal hsz hq => ?_) hS.2.2 hcs hss
  · rw [C.2.2.2.2.2.2.2.1, hh] at hx
    cases hx
  · exact ⟨⟨ad, rfl, hP.kept (fun k q hk => hq _ (vx_lt hP hk)), hD, ha⟩, Nat.le_trans hS.1 hsz, fun q h1 h2 => (hq q (Nat.lt_of_lt_of_le h1 hS.1)).trans (hS.2.1 q h1 h2)⟩
end
section
/-! THE CELLS ONCE THE LAW HAS MADE EVERYTHING, AND THE RULES OVER THEM (printed by wip/whole/gen/steady.py) -/
def zSH : List (Nat × Nat) := [(0, 7), (0, 1), (0, 0), (0, 6), (1, 40), (1, 40), (1, 1240), (1, 1240), (1, 4), (0, 4), (0, 0), (0, 6), (1, 40), (1, 40), (1, 1240), (1, 1240), (1, 4), (0, 3), (1, 72), (0, 2), (2, 60), (1, 4), (0, 5), (2, 109), (0, 8), (1, 1968), (1, 15744), (1, 1968), (1, 1968), (1, 60), (2, 160), (1, 31), (1, 31), (1, 155), (3, 1), (4, 1)]
def zRF : Nat → Nat → Option Nat := fun c k => match c, k with
  | 0, 0 => some 1
  | 0, 1 => some 9
  | 0, 2 => some 2
  | 0, 3 => some 3
  | 0, 4 => some 10
  | 0, 6 => some 17
  | 0, 7 => some 19
  | 0, 9 => some 22
  | 1, 0 => some 2
  | 1, 1 => some 9
  | 1, 2 => some 3
  | 2, 0 => some 3
  | 2, 1 => some 8
  | 3, 1 => some 4
  | 3, 2 => some 5
  | 3, 3 => some 6
  | 3, 4 => some 7
  | 10, 0 => some 11
  | 10, 1 => some 16
  | 11, 1 => some 12
  | 11, 2 => some 13
  | 11, 3 => some 14
  | 11, 4 => some 15
  | 17, 0 => some 18
  | 19, 0 => some 20
  | 19, 4 => some 21
  | 22, 0 => some 23
  | 24, 0 => some 25
  | 24, 1 => some 26
  | 24, 2 => some 27
  | 24, 3 => some 28
  | 24, 12 => some 29
  | 24, 15 => some 30
  | 24, 17 => some 31
  | 24, 18 => some 32
  | 24, 20 => some 33
  | _, _ => none
/-- the heap with these ints and these longs and doubles -/
abbrev zH (ia : Nat → Int → Int) (w : (Nat → Int → Int) × (Nat → Int → Int)) : zHp := (zSH, zRF, ia, w)
theorem zr9 {x : Int} (h1 : -2147483648 ≤ x) (h2 : x ≤ 2147483647) : -2147483648 ≤ x ∧ x ≤ 2147483647 := ⟨h1, h2⟩
theorem Ev.gI {G : zG} {M : zM} {pc pc9 : Nat} {ls st : List zSV} {ia : Nat → Int → Int} {w : (Nat → Int → Int) × (Nat → Int → Int)} {O : zO} {idx ci : Nat} {t : FieldType} {fin : Bool}
    (c k : Nat) {v : Int} (hf : zf M pc = some (.getfield idx, 3, pc9)) (hl9 : zFl M idx ci k t fin) (hc : zSH[c]? = some (0, ci)) (hr : zR ci k = false) (hv : ia c (k : Int) = v) (kk : Ev G M pc9 ls ((0, v) :: st) (zH ia w) O) : Ev G M pc ls ((1, (c : Int)) :: st) (zH ia w) O := by
  subst hv
  exact Ev.getI c k hf hl9 hc hr kk
theorem Ev.gR {G : zG} {M : zM} {pc pc9 : Nat} {ls st : List zSV} {ia : Nat → Int → Int} {w : (Nat → Int → Int) × (Nat → Int → Int)} {O : zO} {idx ci : Nat} {t : FieldType} {fin : Bool}
    (c k q : Nat) (hf : zf M pc = some (.getfield idx, 3, pc9)) (hl9 : zFl M idx ci k t fin) (hc : zSH[c]? = some (0, ci)) (hr : zR ci k = true) (hq : zRF c k = some q) (kk : Ev G M pc9 ls ((1, (q : Int)) :: st) (zH ia w) O) : Ev G M pc ls ((1, (c : Int)) :: st) (zH ia w) O := by
  exact Ev.getR c k q hf hl9 hc hr hq kk
theorem Ev.pI {G : zG} {M : zM} {pc pc9 : Nat} {ls st : List zSV} {ia : Nat → Int → Int} {w : (Nat → Int → Int) × (Nat → Int → Int)} {O : zO} {idx ci : Nat} {t : FieldType} {x : Int}
    (c k : Nat) (hf : zf M pc = some (.putfield idx, 3, pc9)) (hl9 : zFl M idx ci k t false) (hc : zSH[c]? = some (0, ci)) (hr : zR ci k = false) (hx : zNar t x) (kk : Ev G M pc9 ls st (zH (zu ia c (k : Int) x) w) O) : Ev G M pc ls ((0, x) :: (1, (c : Int)) :: st) (zH ia w) O := by
  exact Ev.putI c k hf hl9 hc hr hx kk
theorem Ev.ld {G : zG} {M : zM} {pc pc9 : Nat} {ls st : List zSV} {ia : Nat → Int → Int} {w : (Nat → Int → Int) × (Nat → Int → Int)} {O : zO} {i : Int}
    (c n : Nat) {v : Int} (hf : zf M pc = some (.iaload, 1, pc9)) (hc : zSH[c]? = some (1, n)) (hn2 : Nat.ble n 2147483647 = true) (hi : 0 ≤ i ∧ i < (n : Int)) (hv : ia c i = v) (kk : Ev G M pc9 ls ((0, v) :: st) (zH ia w) O) : Ev G M pc ls ((0, i) :: (1, (c : Int)) :: st) (zH ia w) O := by
  subst hv
  exact Ev.iaload c n hf hc (Nat.le_of_ble_eq_true hn2) hi kk
theorem Ev.cld {G : zG} {M : zM} {pc pc9 : Nat} {ls st : List zSV} {ia : Nat → Int → Int} {w : (Nat → Int → Int) × (Nat → Int → Int)} {O : zO} {i : Int}
    (c n : Nat) {v : Int} (hf : zf M pc = some (.caload, 1, pc9)) (hc : zSH[c]? = some (2, n)) (hn2 : Nat.ble n 2147483647 = true) (hi : 0 ≤ i ∧ i < (n : Int)) (hv : ia c i = v) (kk : Ev G M pc9 ls ((0, v) :: st) (zH ia w) O) : Ev G M pc ls ((0, i) :: (1, (c : Int)) :: st) (zH ia w) O := by
  subst hv
  exact Ev.caload c n hf hc (Nat.le_of_ble_eq_true hn2) hi kk
theorem Ev.stI {G : zG} {M : zM} {pc pc9 : Nat} {ls st : List zSV} {ia : Nat → Int → Int} {w : (Nat → Int → Int) × (Nat → Int → Int)} {O : zO} {i x : Int}
    (c n : Nat) (hf : zf M pc = some (.iastore, 1, pc9)) (hc : zSH[c]? = some (1, n)) (hn2 : Nat.ble n 2147483647 = true) (hi : 0 ≤ i ∧ i < (n : Int)) (kk : Ev G M pc9 ls st (zH (zu ia c i x) w) O) : Ev G M pc ls ((0, x) :: (0, i) :: (1, (c : Int)) :: st) (zH ia w) O := by
  exact Ev.iastore c n hf hc (Nat.le_of_ble_eq_true hn2) hi kk
theorem Ev.stC {G : zG} {M : zM} {pc pc9 : Nat} {ls st : List zSV} {ia : Nat → Int → Int} {w : (Nat → Int → Int) × (Nat → Int → Int)} {O : zO} {i x : Int}
    (c n : Nat) (hf : zf M pc = some (.castore, 1, pc9)) (hc : zSH[c]? = some (2, n)) (hn2 : Nat.ble n 2147483647 = true) (hi : 0 ≤ i ∧ i < (n : Int)) (hx : 0 ≤ x ∧ x ≤ 65535) (kk : Ev G M pc9 ls st (zH (zu ia c i x) w) O) : Ev G M pc ls ((0, x) :: (0, i) :: (1, (c : Int)) :: st) (zH ia w) O := by
  exact Ev.castore c n hf hc (Nat.le_of_ble_eq_true hn2) hi hx kk
theorem Ev.al {G : zG} {M : zM} {pc pc9 : Nat} {ls st : List zSV} {ia : Nat → Int → Int} {w : (Nat → Int → Int) × (Nat → Int → Int)} {O : zO} 
    (c n : Nat) (hf : zf M pc = some (.arraylength, 1, pc9)) (hc : zSH[c]? = some (1, n)) (kk : Ev G M pc9 ls ((0, (n : Int)) :: st) (zH ia w) O) : Ev G M pc ls ((1, (c : Int)) :: st) (zH ia w) O := by
  exact Ev.alen c n hf hc (Or.inl rfl) kk
theorem Ev.cp {G : zG} {M : zM} {pc pc9 : Nat} {ls st : List zSV} {ia : Nat → Int → Int} {w : (Nat → Int → Int) × (Nat → Int → Int)} {O : zO} {idx : Nat} {sp dp n : Int}
    (c0 c1 n0a n1 : Nat) (hf : zf M pc = some (.invokestatic idx, 3, pc9)) (hl9 : Cond.methodLink M.1.cls idx arraycopyName ∈ zT) (z9 : Cond.native arraycopyName ∈ zT ∧ Cond.static arraycopyName ∈ zT ∧ Cond.initialized "java/lang/System" ∈ zT) (hc0 : zSH[c0]? = some (1, n0a)) (hc1 : zSH[c1]? = some (1, n1)) (h0n : Nat.ble n0a 2147483647 = true) (h1n : Nat.ble n1 2147483647 = true) (h1 : 0 ≤ sp ∧ 0 ≤ dp ∧ 0 ≤ n ∧ sp + n ≤ (n0a : Int) ∧ dp + n ≤ (n1 : Int)) (hfr : Nat.ble 1 M.2.2.2.2.2.1 = true) (hlo : Nat.ble ((st.map zcat).sum + 18) M.2.2.2.2.2.2 = true) (kk : Ev G M pc9 ls st (zH (zcp ia c0 sp c1 dp n) w) O) : Ev G M pc ls ((0, n) :: (0, dp) :: (1, (c1 : Int)) :: (0, sp) :: (1, (c0 : Int)) :: st) (zH ia w) O := by
  exact Ev.copy c0 c1 n0a n1 hf hl9 z9.1 z9.2.1 z9.2.2 hc0 hc1 (Nat.le_of_ble_eq_true h0n) (Nat.le_of_ble_eq_true h1n) h1 (Nat.le_of_ble_eq_true hfr) (Nat.le_of_ble_eq_true hlo) kk
theorem Ev.rI {G : zG} {M : zM} {pc pc9 : Nat} {ls st : List zSV} {ia : Nat → Int → Int} {w : (Nat → Int → Int) × (Nat → Int → Int)} {O : zO} {x v : Int}
    (hf : zf M pc = some (.ireturn, 1, pc9)) (hr : M.2.2.2.1 = some .int) (hv : x = v) : Ev G M pc ls [(0, x)] (zH ia w) (.inl (some (0, v)), zH ia w, 0, 0) := by
  subst hv
  exact Ev.retI (st := []) (O := (.inl none, zH ia w, 0, 0)) hf hr trivial
theorem Ev.rZ {G : zG} {M : zM} {pc pc9 : Nat} {ls st : List zSV} {ia : Nat → Int → Int} {w : (Nat → Int → Int) × (Nat → Int → Int)} {O : zO} {x v : Int}
    (hf : zf M pc = some (.ireturn, 1, pc9)) (hr : M.2.2.2.1 = some .boolean) (hx : x = 0 ∨ x = 1) (hv : x = v) : Ev G M pc ls [(0, x)] (zH ia w) (.inl (some (0, v)), zH ia w, 0, 0) := by
  subst hv
  exact Ev.retI (st := []) (O := (.inl none, zH ia w, 0, 0)) hf hr hx
theorem Ev.rC {G : zG} {M : zM} {pc pc9 : Nat} {ls st : List zSV} {ia : Nat → Int → Int} {w : (Nat → Int → Int) × (Nat → Int → Int)} {O : zO} {x v : Int}
    (hf : zf M pc = some (.ireturn, 1, pc9)) (hr : M.2.2.2.1 = some .char) (hx : 0 ≤ x ∧ x ≤ 65535) (hv : x = v) : Ev G M pc ls [(0, x)] (zH ia w) (.inl (some (0, v)), zH ia w, 0, 0) := by
  subst hv
  exact Ev.retI (st := []) (O := (.inl none, zH ia w, 0, 0)) hf hr hx
theorem Ev.rV {G : zG} {M : zM} {pc pc9 : Nat} {ls st : List zSV} {ia : Nat → Int → Int} {w : (Nat → Int → Int) × (Nat → Int → Int)} {O : zO} 
    (hf : zf M pc = some (.return_, 1, pc9)) (hr : M.2.2.2.1 = none) : Ev G M pc ls [] (zH ia w) (.inl none, zH ia w, 0, 0) := by
  exact Ev.retV (st := []) (O := (.inl none, zH ia w, 0, 0)) hf hr
theorem Ev.cVi {G : zG} {M y : zM} {pc pc9 : Nat} {ls : List zSV} {ia ia1 : Nat → Int → Int} {w w1 : (Nat → Int → Int) × (Nat → Int → Int)} {o : Option zSV ⊕ String} {h2 : zHp} {ce sl idx n : Nat} {u : zSV} (c : Nat) (as rest : List zSV) (hf : zf M pc = some (.invokevirtual idx, 3, pc9)) (hl9 : zLkV M idx y n) (ci : Nat) (TT : u_T) (NN : Nat) (hcl : vwCl[ci]? = some (y.1.cls, TT, NN)) (hc : zSH[c]? = some (0, ci)) (hac : (Nat.beq as.length n && as.all (fun v => zcat v == 1) && Nat.ble (as.length + 1) y.2.2.1 && Nat.ble (rest.map zcat).sum 8 && ls.all (zOk 36) && rest.all (zOk 36)) = true)
    (ev : Ev G y 0 (zIn ((1, (c : Int)) :: as) y.2.2.1) [] (zH ia w) (.inl (some u), zH ia1 w1, 0, 0)) (kk : Ev G M pc9 ls (u :: rest) (zH ia1 w1) (o, h2, ce, sl)) : Ev G M pc ls (as.reverse ++ (1, (c : Int)) :: rest) (zH ia w) (o, h2, ce, sl) := by
  simp only [Bool.and_eq_true] at hac
  obtain ⟨⟨⟨⟨⟨g1, g2⟩, g3⟩, g4⟩, g5⟩, g6⟩ := hac
  exact Ev.callV c 0 0 as hf hl9 (Nat.eq_of_beq_eq_true g1) ci TT NN hcl hc (by simpa [zcat] using g2) (Nat.le_of_ble_eq_true g3) (Nat.le_of_ble_eq_true g4) g5 g6 (Nat.ble_self_eq_true _) (Nat.zero_add _) (Nat.zero_add _) ev kk
theorem Ev.cVv {G : zG} {M y : zM} {pc pc9 : Nat} {ls : List zSV} {ia ia1 : Nat → Int → Int} {w w1 : (Nat → Int → Int) × (Nat → Int → Int)} {o : Option zSV ⊕ String} {h2 : zHp} {ce sl idx n : Nat}  (c : Nat) (as rest : List zSV) (hf : zf M pc = some (.invokevirtual idx, 3, pc9)) (hl9 : zLkV M idx y n) (ci : Nat) (TT : u_T) (NN : Nat) (hcl : vwCl[ci]? = some (y.1.cls, TT, NN)) (hc : zSH[c]? = some (0, ci)) (hac : (Nat.beq as.length n && as.all (fun v => zcat v == 1) && Nat.ble (as.length + 1) y.2.2.1 && Nat.ble (rest.map zcat).sum 8 && ls.all (zOk 36) && rest.all (zOk 36)) = true)
    (ev : Ev G y 0 (zIn ((1, (c : Int)) :: as) y.2.2.1) [] (zH ia w) (.inl none, zH ia1 w1, 0, 0)) (kk : Ev G M pc9 ls rest (zH ia1 w1) (o, h2, ce, sl)) : Ev G M pc ls (as.reverse ++ (1, (c : Int)) :: rest) (zH ia w) (o, h2, ce, sl) := by
  simp only [Bool.and_eq_true] at hac
  obtain ⟨⟨⟨⟨⟨g1, g2⟩, g3⟩, g4⟩, g5⟩, g6⟩ := hac
  exact Ev.callV c 0 0 as hf hl9 (Nat.eq_of_beq_eq_true g1) ci TT NN hcl hc (by simpa [zcat] using g2) (Nat.le_of_ble_eq_true g3) (Nat.le_of_ble_eq_true g4) g5 g6 (Nat.ble_self_eq_true _) (Nat.zero_add _) (Nat.zero_add _) ev kk
theorem Ev.cSi {G : zG} {M y : zM} {pc pc9 : Nat} {ls : List zSV} {ia ia1 : Nat → Int → Int} {w w1 : (Nat → Int → Int) × (Nat → Int → Int)} {o : Option zSV ⊕ String} {h2 : zHp} {ce sl idx n : Nat} {u : zSV} (as rest : List zSV) (hf : zf M pc = some (.invokestatic idx, 3, pc9)) (hl9 : zLkS M idx y n) (hac : (Nat.beq as.length n && as.all (fun v => zcat v == 1) && Nat.ble as.length y.2.2.1 && Nat.ble (rest.map zcat).sum 8 && ls.all (zOk 36) && rest.all (zOk 36)) = true)
    (ev : Ev G y 0 (zIn as y.2.2.1) [] (zH ia w) (.inl (some u), zH ia1 w1, 0, 0)) (kk : Ev G M pc9 ls (u :: rest) (zH ia1 w1) (o, h2, ce, sl)) : Ev G M pc ls (as.reverse ++ rest) (zH ia w) (o, h2, ce, sl) := by
  simp only [Bool.and_eq_true] at hac
  obtain ⟨⟨⟨⟨⟨g1, g2⟩, g3⟩, g4⟩, g5⟩, g6⟩ := hac
  exact Ev.callS 0 0 as hf hl9 (Nat.eq_of_beq_eq_true g1) g2 (Nat.le_of_ble_eq_true g3) (Nat.le_of_ble_eq_true g4) g5 g6 (Nat.ble_self_eq_true _) (Nat.zero_add _) (Nat.zero_add _) ev kk
theorem Ev.cSv {G : zG} {M y : zM} {pc pc9 : Nat} {ls : List zSV} {ia ia1 : Nat → Int → Int} {w w1 : (Nat → Int → Int) × (Nat → Int → Int)} {o : Option zSV ⊕ String} {h2 : zHp} {ce sl idx n : Nat}  (as rest : List zSV) (hf : zf M pc = some (.invokestatic idx, 3, pc9)) (hl9 : zLkS M idx y n) (hac : (Nat.beq as.length n && as.all (fun v => zcat v == 1) && Nat.ble as.length y.2.2.1 && Nat.ble (rest.map zcat).sum 8 && ls.all (zOk 36) && rest.all (zOk 36)) = true)
    (ev : Ev G y 0 (zIn as y.2.2.1) [] (zH ia w) (.inl none, zH ia1 w1, 0, 0)) (kk : Ev G M pc9 ls rest (zH ia1 w1) (o, h2, ce, sl)) : Ev G M pc ls (as.reverse ++ rest) (zH ia w) (o, h2, ce, sl) := by
  simp only [Bool.and_eq_true] at hac
  obtain ⟨⟨⟨⟨⟨g1, g2⟩, g3⟩, g4⟩, g5⟩, g6⟩ := hac
  exact Ev.callS 0 0 as hf hl9 (Nat.eq_of_beq_eq_true g1) g2 (Nat.le_of_ble_eq_true g3) (Nat.le_of_ble_eq_true g4) g5 g6 (Nat.ble_self_eq_true _) (Nat.zero_add _) (Nat.zero_add _) ev kk
theorem Ev.cSNi {G : zG} {M y : zM} {pc pc9 : Nat} {ls : List zSV} {ia ia1 : Nat → Int → Int} {w w1 : (Nat → Int → Int) × (Nat → Int → Int)} {o : Option zSV ⊕ String} {h2 : zHp} {ce sl idx n : Nat} {u : zSV} (as rest : List zSV) (hf : zf M pc = some (.invokestatic idx, 3, pc9)) (hl9 : zLkSN M idx y n) (hac : (Nat.beq as.length n && as.all (fun v => zcat v == 1) && Nat.ble as.length y.2.2.1 && Nat.ble (rest.map zcat).sum 8 && ls.all (zOk 36) && rest.all (zOk 36)) = true)
    (ev : Ev G y 0 (zIn as y.2.2.1) [] (zH ia w) (.inl (some u), zH ia1 w1, 0, 0)) (kk : Ev G M pc9 ls (u :: rest) (zH ia1 w1) (o, h2, ce, sl)) : Ev G M pc ls (as.reverse ++ rest) (zH ia w) (o, h2, ce, sl) := by
  simp only [Bool.and_eq_true] at hac
  obtain ⟨⟨⟨⟨⟨g1, g2⟩, g3⟩, g4⟩, g5⟩, g6⟩ := hac
  exact Ev.callSN 0 0 as hf hl9 (Nat.eq_of_beq_eq_true g1) g2 (Nat.le_of_ble_eq_true g3) (Nat.le_of_ble_eq_true g4) g5 g6 (Nat.ble_self_eq_true _) (Nat.zero_add _) (Nat.zero_add _) ev kk
theorem Ev.cSNv {G : zG} {M y : zM} {pc pc9 : Nat} {ls : List zSV} {ia ia1 : Nat → Int → Int} {w w1 : (Nat → Int → Int) × (Nat → Int → Int)} {o : Option zSV ⊕ String} {h2 : zHp} {ce sl idx n : Nat}  (as rest : List zSV) (hf : zf M pc = some (.invokestatic idx, 3, pc9)) (hl9 : zLkSN M idx y n) (hac : (Nat.beq as.length n && as.all (fun v => zcat v == 1) && Nat.ble as.length y.2.2.1 && Nat.ble (rest.map zcat).sum 8 && ls.all (zOk 36) && rest.all (zOk 36)) = true)
    (ev : Ev G y 0 (zIn as y.2.2.1) [] (zH ia w) (.inl none, zH ia1 w1, 0, 0)) (kk : Ev G M pc9 ls rest (zH ia1 w1) (o, h2, ce, sl)) : Ev G M pc ls (as.reverse ++ rest) (zH ia w) (o, h2, ce, sl) := by
  simp only [Bool.and_eq_true] at hac
  obtain ⟨⟨⟨⟨⟨g1, g2⟩, g3⟩, g4⟩, g5⟩, g6⟩ := hac
  exact Ev.callSN 0 0 as hf hl9 (Nat.eq_of_beq_eq_true g1) g2 (Nat.le_of_ble_eq_true g3) (Nat.le_of_ble_eq_true g4) g5 g6 (Nat.ble_self_eq_true _) (Nat.zero_add _) (Nat.zero_add _) ev kk
theorem Ev.cHi {G : zG} {M y : zM} {pc pc9 : Nat} {ls : List zSV} {ia ia1 : Nat → Int → Int} {w w1 : (Nat → Int → Int) × (Nat → Int → Int)} {o : Option zSV ⊕ String} {h2 : zHp} {ce sl idx n : Nat} {u : zSV} (as rest : List zSV) (hf : zf M pc = some (.invokestatic idx, 3, pc9)) (hl9 : zLkH M idx y n) (hac : (Nat.beq as.length n && as.all (fun v => zcat v == 1) && Nat.ble as.length y.2.2.1 && Nat.ble (rest.map zcat).sum 8 && ls.all (zOk 36) && rest.all (zOk 36)) = true)
    (ev : Ev G y 0 (zIn as y.2.2.1) [] (zH ia w) (.inl (some u), zH ia1 w1, 0, 0)) (kk : Ev G M pc9 ls (u :: rest) (zH ia1 w1) (o, h2, ce, sl)) : Ev G M pc ls (as.reverse ++ rest) (zH ia w) (o, h2, ce, sl) := by
  simp only [Bool.and_eq_true] at hac
  obtain ⟨⟨⟨⟨⟨g1, g2⟩, g3⟩, g4⟩, g5⟩, g6⟩ := hac
  exact Ev.callH 0 0 as hf hl9 (Nat.eq_of_beq_eq_true g1) g2 (Nat.le_of_ble_eq_true g3) (Nat.le_of_ble_eq_true g4) g5 g6 (Nat.ble_self_eq_true _) (Nat.zero_add _) (Nat.zero_add _) ev kk
theorem Ev.cHv {G : zG} {M y : zM} {pc pc9 : Nat} {ls : List zSV} {ia ia1 : Nat → Int → Int} {w w1 : (Nat → Int → Int) × (Nat → Int → Int)} {o : Option zSV ⊕ String} {h2 : zHp} {ce sl idx n : Nat}  (as rest : List zSV) (hf : zf M pc = some (.invokestatic idx, 3, pc9)) (hl9 : zLkH M idx y n) (hac : (Nat.beq as.length n && as.all (fun v => zcat v == 1) && Nat.ble as.length y.2.2.1 && Nat.ble (rest.map zcat).sum 8 && ls.all (zOk 36) && rest.all (zOk 36)) = true)
    (ev : Ev G y 0 (zIn as y.2.2.1) [] (zH ia w) (.inl none, zH ia1 w1, 0, 0)) (kk : Ev G M pc9 ls rest (zH ia1 w1) (o, h2, ce, sl)) : Ev G M pc ls (as.reverse ++ rest) (zH ia w) (o, h2, ce, sl) := by
  simp only [Bool.and_eq_true] at hac
  obtain ⟨⟨⟨⟨⟨g1, g2⟩, g3⟩, g4⟩, g5⟩, g6⟩ := hac
  exact Ev.callH 0 0 as hf hl9 (Nat.eq_of_beq_eq_true g1) g2 (Nat.le_of_ble_eq_true g3) (Nat.le_of_ble_eq_true g4) g5 g6 (Nat.ble_self_eq_true _) (Nat.zero_add _) (Nat.zero_add _) ev kk
theorem Ev.xV {G : zG} {M y : zM} {pc pc9 : Nat} {ls : List zSV} {ia ia1 : Nat → Int → Int} {w w1 : (Nat → Int → Int) × (Nat → Int → Int)} {E : String} {idx n : Nat} (c : Nat) (as rest : List zSV) (hf : zf M pc = some (.invokevirtual idx, 3, pc9)) (hl9 : zLkV M idx y n) (ci : Nat) (TT : u_T) (NN : Nat) (hcl : vwCl[ci]? = some (y.1.cls, TT, NN)) (hc : zSH[c]? = some (0, ci)) (hac : (Nat.beq as.length n && as.all (fun v => zcat v == 1) && Nat.ble (as.length + 1) y.2.2.1 && Nat.ble (rest.map zcat).sum 8) = true) (hh : M.2.2.2.2.1 = [])
    (ev : Ev G y 0 (zIn ((1, (c : Int)) :: as) y.2.2.1) [] (zH ia w) (.inr E, zH ia1 w1, 1, 6)) : Ev G M pc ls (as.reverse ++ (1, (c : Int)) :: rest) (zH ia w) (.inr E, zH ia1 w1, 1, 6) := by
  simp only [Bool.and_eq_true] at hac
  obtain ⟨⟨⟨g1, g2⟩, g3⟩, g4⟩ := hac
  exact Ev.passV c as hf hl9 (Nat.eq_of_beq_eq_true g1) ci TT NN hcl hc (by simpa [zcat] using g2) (Nat.le_of_ble_eq_true g3) (Nat.le_of_ble_eq_true g4) (Nat.ble_self_eq_true _) hh ev
theorem Ev.xS {G : zG} {M y : zM} {pc pc9 : Nat} {ls : List zSV} {ia ia1 : Nat → Int → Int} {w w1 : (Nat → Int → Int) × (Nat → Int → Int)} {E : String} {idx n : Nat} (as rest : List zSV) (hf : zf M pc = some (.invokestatic idx, 3, pc9)) (hl9 : zLkS M idx y n) (hac : (Nat.beq as.length n && as.all (fun v => zcat v == 1) && Nat.ble as.length y.2.2.1 && Nat.ble (rest.map zcat).sum 8) = true) (hh : M.2.2.2.2.1 = [])
    (ev : Ev G y 0 (zIn as y.2.2.1) [] (zH ia w) (.inr E, zH ia1 w1, 1, 6)) : Ev G M pc ls (as.reverse ++ rest) (zH ia w) (.inr E, zH ia1 w1, 1, 6) := by
  simp only [Bool.and_eq_true] at hac
  obtain ⟨⟨⟨g1, g2⟩, g3⟩, g4⟩ := hac
  exact Ev.passS as hf hl9 (Nat.eq_of_beq_eq_true g1) g2 (Nat.le_of_ble_eq_true g3) (Nat.le_of_ble_eq_true g4) (Nat.ble_self_eq_true _) hh ev
/-! SUMS -/
def zsN (f : Int → Int) : Nat → Int
  | 0 => 0
  | n + 1 => zsN f n + f (n : Int)
/-- the sum of f over 0 .. k - 1 -/
def zsum (f : Int → Int) (k : Int) : Int := zsN f k.toNat
theorem zsum_0 {f : Int → Int} : zsum f 0 = 0 := rfl
theorem zsum_s {f : Int → Int} {k : Int} (h : 0 ≤ k) : zsum f (k + 1) = zsum f k + f k := by
  obtain ⟨n, rfl⟩ := Int.eq_ofNat_of_zero_le h
  show zsN f ((n : Int) + 1).toNat = zsN f ((n : Int)).toNat + f n
  rw [show ((n : Int) + 1).toNat = n + 1 by omega, Int.toNat_natCast]
  rfl
theorem zsN_congr {f g : Int → Int} : ∀ n : Nat, (∀ j : Int, 0 ≤ j → j < n → f j = g j) → zsN f n = zsN g n
  | 0, _ => rfl
  | n + 1, h => by
    show zsN f n + f n = zsN g n + g n
    rw [zsN_congr n (fun j h1 h2 => h j h1 (by omega)), h n (by omega) (by omega)]
theorem zsum_congr {f g : Int → Int} {k : Int} (h : ∀ j : Int, 0 ≤ j → j < k → f j = g j) : zsum f k = zsum g k := zsN_congr _ (fun j h1 h2 => h j h1 (by omega))
theorem zsN_le {f : Int → Int} {m M : Int} : ∀ n : Nat, (∀ j : Int, 0 ≤ j → j < n → m ≤ f j ∧ f j ≤ M) → m * n ≤ zsN f n ∧ zsN f n ≤ M * n
  | 0, _ => ⟨by simp [zsN], by simp [zsN]⟩
  | n + 1, h => by
    obtain ⟨h1, h2⟩ := zsN_le n (fun j h1 h2 => h j h1 (by omega))
    obtain ⟨h3, h4⟩ := h n (by omega) (by omega)
    have e1 : m * ((n + 1 : Nat) : Int) = m * n + m := by rw [Int.natCast_succ, Int.mul_add, Int.mul_one]
    have e2 : M * ((n + 1 : Nat) : Int) = M * n + M := by rw [Int.natCast_succ, Int.mul_add, Int.mul_one]
    rw [e1, e2]
    show m * n + m ≤ zsN f n + f n ∧ zsN f n + f n ≤ M * n + M
    omega
theorem zsum_le {f : Int → Int} {m M k : Int} (hk : 0 ≤ k) (h : ∀ j : Int, 0 ≤ j → j < k → m ≤ f j ∧ f j ≤ M) : m * k ≤ zsum f k ∧ zsum f k ≤ M * k := by
  obtain ⟨n, rfl⟩ := Int.eq_ofNat_of_zero_le hk
  exact zsN_le n (fun j h1 h2 => h j h1 (by omega))
theorem zu_same {ia : Nat → Int → Int} {c : Nat} {i x : Int} : zu ia c i x c i = x := by
  unfold zu
  rw [if_pos ⟨rfl, rfl⟩]
theorem zu_cell {ia : Nat → Int → Int} {c c' : Nat} {i i' x : Int} (h : c' ≠ c) : zu ia c i x c' i' = ia c' i' := by
  unfold zu
  rw [if_neg (fun e => h e.1)]
theorem zu_place {ia : Nat → Int → Int} {c c' : Nat} {i i' x : Int} (h : i' ≠ i) : zu ia c i x c' i' = ia c' i' := by
  unfold zu
  rw [if_neg (fun e => h e.2)]
/-- the lowest and the highest line of a span -/
def zlow (s : Int) : Int := if s = 0 then 0 else if s ≤ 2 then (s - 1) * 8 else if s ≤ 6 then (s - 3) * 4 else if s ≤ 14 then (s - 7) * 2 else s - 15
def zhig (s : Int) : Int := if s = 0 then 15 else if s ≤ 2 then (s - 1) * 8 + 7 else if s ≤ 6 then (s - 3) * 4 + 3 else if s ≤ 14 then (s - 7) * 2 + 1 else s - 15
end

section
-- ===== PART A: goes FIRST, ahead of the names: the tables' words, and 'selects' of the private methods out of them =====
/-- a private method of a class that the tables say can be made, by its rows of tables_1 -/
def lw_okq (q : MethodName × Nat) : Prop := (q.1.cls ≠ "java/lang/invoke/MethodHandle" ∧ q.1.cls ≠ "java/lang/invoke/VarHandle") ∧ Cond.instantiable q.1.cls q.2 ∈ tables_1 ∧ Cond.privateMethod q.1 ∈ tables_1 ∧ Cond.instanceMethod q.1 ∈ tables_1
theorem lw_p0 : lw_okq (⟨"SkiPasses", "allShares", "()I"⟩, 9) := ⟨⟨by decide +kernel, by decide +kernel⟩, List.mem_of_getElem? (i := 27) (by decide +kernel), List.mem_of_getElem? (i := 205) (by decide +kernel), List.mem_of_getElem? (i := 206) (by decide +kernel)⟩
theorem lw_p1 : lw_okq (⟨"SkiPasses", "sharesOf", "(I)I"⟩, 9) := ⟨⟨by decide +kernel, by decide +kernel⟩, List.mem_of_getElem? (i := 27) (by decide +kernel), List.mem_of_getElem? (i := 209) (by decide +kernel), List.mem_of_getElem? (i := 210) (by decide +kernel)⟩
theorem lw_p2 : lw_okq (⟨"java/lang/Throwable", "fillInStackTrace", "(I)Ljava/lang/Throwable;"⟩, 6) := ⟨⟨by decide +kernel, by decide +kernel⟩, List.mem_of_getElem? (i := 340) (by decide +kernel), List.mem_of_getElem? (i := 338) (by decide +kernel), List.mem_of_getElem? (i := 339) (by decide +kernel)⟩
theorem lw_p3 : lw_okq (⟨"SkiPasses$History", "nextPlace", "()LSkiPasses$Resort;"⟩, 3) := ⟨⟨by decide +kernel, by decide +kernel⟩, List.mem_of_getElem? (i := 82) (by decide +kernel), List.mem_of_getElem? (i := 394) (by decide +kernel), List.mem_of_getElem? (i := 395) (by decide +kernel)⟩
theorem lw_p4 : lw_okq (⟨"SkiPasses", "existingGate", "(I)LSkiPasses$Gate;"⟩, 9) := ⟨⟨by decide +kernel, by decide +kernel⟩, List.mem_of_getElem? (i := 27) (by decide +kernel), List.mem_of_getElem? (i := 514) (by decide +kernel), List.mem_of_getElem? (i := 515) (by decide +kernel)⟩
theorem lw_p5 : lw_okq (⟨"SkiPasses", "existingProduct", "(I)LSkiPasses$Product;"⟩, 9) := ⟨⟨by decide +kernel, by decide +kernel⟩, List.mem_of_getElem? (i := 27) (by decide +kernel), List.mem_of_getElem? (i := 561) (by decide +kernel), List.mem_of_getElem? (i := 562) (by decide +kernel)⟩
theorem lw_p6 : lw_okq (⟨"SkiPasses$Resort", "countClosed", "(LSkiPasses$Gate;II)V"⟩, 9) := ⟨⟨by decide +kernel, by decide +kernel⟩, List.mem_of_getElem? (i := 35) (by decide +kernel), List.mem_of_getElem? (i := 606) (by decide +kernel), List.mem_of_getElem? (i := 607) (by decide +kernel)⟩
theorem lw_p7 : lw_okq (⟨"SkiPasses$Resort", "insertCard", "(LSkiPasses$Product;LSkiPasses$Ride;)I"⟩, 9) := ⟨⟨by decide +kernel, by decide +kernel⟩, List.mem_of_getElem? (i := 35) (by decide +kernel), List.mem_of_getElem? (i := 677) (by decide +kernel), List.mem_of_getElem? (i := 678) (by decide +kernel)⟩
theorem lw_p8 : lw_okq (⟨"SkiPasses$Resort", "putCard", "(LSkiPasses$Card;)V"⟩, 9) := ⟨⟨by decide +kernel, by decide +kernel⟩, List.mem_of_getElem? (i := 35) (by decide +kernel), List.mem_of_getElem? (i := 716) (by decide +kernel), List.mem_of_getElem? (i := 717) (by decide +kernel)⟩
theorem lw_p9 : lw_okq (⟨"SkiPasses", "existingCard", "(I)LSkiPasses$Card;"⟩, 9) := ⟨⟨by decide +kernel, by decide +kernel⟩, List.mem_of_getElem? (i := 27) (by decide +kernel), List.mem_of_getElem? (i := 728) (by decide +kernel), List.mem_of_getElem? (i := 729) (by decide +kernel)⟩
theorem lw_p10 : lw_okq (⟨"SkiPasses$Resort", "reasonOfWay", "(LSkiPasses$Ride;LSkiPasses$Gate;)I"⟩, 9) := ⟨⟨by decide +kernel, by decide +kernel⟩, List.mem_of_getElem? (i := 35) (by decide +kernel), List.mem_of_getElem? (i := 771) (by decide +kernel), List.mem_of_getElem? (i := 772) (by decide +kernel)⟩
theorem lw_p11 : lw_okq (⟨"SkiPasses$Resort", "closedDaysOf", "(LSkiPasses$Card;)I"⟩, 9) := ⟨⟨by decide +kernel, by decide +kernel⟩, List.mem_of_getElem? (i := 35) (by decide +kernel), List.mem_of_getElem? (i := 968) (by decide +kernel), List.mem_of_getElem? (i := 969) (by decide +kernel)⟩
theorem lw_p12 : lw_okq (⟨"SkiPasses$Text", "sign", "()C"⟩, 7) := ⟨⟨by decide +kernel, by decide +kernel⟩, List.mem_of_getElem? (i := 102) (by decide +kernel), List.mem_of_getElem? (i := 1106) (by decide +kernel), List.mem_of_getElem? (i := 1107) (by decide +kernel)⟩
theorem lw_p13 : lw_okq (⟨"SkiPasses$Text", "takeSale", "()Z"⟩, 7) := ⟨⟨by decide +kernel, by decide +kernel⟩, List.mem_of_getElem? (i := 102) (by decide +kernel), List.mem_of_getElem? (i := 1110) (by decide +kernel), List.mem_of_getElem? (i := 1111) (by decide +kernel)⟩
theorem lw_p14 : lw_okq (⟨"SkiPasses$Text", "takeDigit", "()Z"⟩, 7) := ⟨⟨by decide +kernel, by decide +kernel⟩, List.mem_of_getElem? (i := 102) (by decide +kernel), List.mem_of_getElem? (i := 1114) (by decide +kernel), List.mem_of_getElem? (i := 1115) (by decide +kernel)⟩
theorem lw_p15 : lw_okq (⟨"SkiPasses$Text", "takeNumber", "()Z"⟩, 7) := ⟨⟨by decide +kernel, by decide +kernel⟩, List.mem_of_getElem? (i := 102) (by decide +kernel), List.mem_of_getElem? (i := 1122) (by decide +kernel), List.mem_of_getElem? (i := 1123) (by decide +kernel)⟩
def lw_privs_1 : List (MethodName × Nat) := [(⟨"SkiPasses", "allShares", "()I"⟩, 9), (⟨"SkiPasses", "sharesOf", "(I)I"⟩, 9), (⟨"java/lang/Throwable", "fillInStackTrace", "(I)Ljava/lang/Throwable;"⟩, 6), (⟨"SkiPasses$History", "nextPlace", "()LSkiPasses$Resort;"⟩, 3), (⟨"SkiPasses", "existingGate", "(I)LSkiPasses$Gate;"⟩, 9), (⟨"SkiPasses", "existingProduct", "(I)LSkiPasses$Product;"⟩, 9), (⟨"SkiPasses$Resort", "countClosed", "(LSkiPasses$Gate;II)V"⟩, 9), (⟨"SkiPasses$Resort", "insertCard", "(LSkiPasses$Product;LSkiPasses$Ride;)I"⟩, 9), (⟨"SkiPasses$Resort", "putCard", "(LSkiPasses$Card;)V"⟩, 9), (⟨"SkiPasses", "existingCard", "(I)LSkiPasses$Card;"⟩, 9), (⟨"SkiPasses$Resort", "reasonOfWay", "(LSkiPasses$Ride;LSkiPasses$Gate;)I"⟩, 9), (⟨"SkiPasses$Resort", "closedDaysOf", "(LSkiPasses$Card;)I"⟩, 9), (⟨"SkiPasses$Text", "sign", "()C"⟩, 7), (⟨"SkiPasses$Text", "takeSale", "()Z"⟩, 7), (⟨"SkiPasses$Text", "takeDigit", "()Z"⟩, 7), (⟨"SkiPasses$Text", "takeNumber", "()Z"⟩, 7)]
theorem lw_r1 : ∀ q ∈ lw_privs_1, lw_okq q := List.forall_mem_cons.mpr ⟨lw_p0, List.forall_mem_cons.mpr ⟨lw_p1, List.forall_mem_cons.mpr ⟨lw_p2, List.forall_mem_cons.mpr ⟨lw_p3, List.forall_mem_cons.mpr ⟨lw_p4, List.forall_mem_cons.mpr ⟨lw_p5, List.forall_mem_cons.mpr ⟨lw_p6, List.forall_mem_cons.mpr ⟨lw_p7, List.forall_mem_cons.mpr ⟨lw_p8, List.forall_mem_cons.mpr ⟨lw_p9, List.forall_mem_cons.mpr ⟨lw_p10, List.forall_mem_cons.mpr ⟨lw_p11, List.forall_mem_cons.mpr ⟨lw_p12, List.forall_mem_cons.mpr ⟨lw_p13, List.forall_mem_cons.mpr ⟨lw_p14, List.forall_mem_cons.mpr ⟨lw_p15, fun _ h => absurd h List.not_mem_nil⟩⟩⟩⟩⟩⟩⟩⟩⟩⟩⟩⟩⟩⟩⟩⟩
theorem lw_p16 : lw_okq (⟨"SkiPasses", "firstRefusedOrder", "()I"⟩, 9) := ⟨⟨by decide +kernel, by decide +kernel⟩, List.mem_of_getElem? (i := 27) (by decide +kernel), List.mem_of_getElem? (i := 1132) (by decide +kernel), List.mem_of_getElem? (i := 1133) (by decide +kernel)⟩
theorem lw_p17 : lw_okq (⟨"SkiPasses", "carriesOut", "(CI)Z"⟩, 9) := ⟨⟨by decide +kernel, by decide +kernel⟩, List.mem_of_getElem? (i := 27) (by decide +kernel), List.mem_of_getElem? (i := 1138) (by decide +kernel), List.mem_of_getElem? (i := 1139) (by decide +kernel)⟩
theorem lw_p18 : lw_okq (⟨"SkiPasses", "orderSale", "(II)Z"⟩, 9) := ⟨⟨by decide +kernel, by decide +kernel⟩, List.mem_of_getElem? (i := 27) (by decide +kernel), List.mem_of_getElem? (i := 1142) (by decide +kernel), List.mem_of_getElem? (i := 1143) (by decide +kernel)⟩
theorem lw_p19 : lw_okq (⟨"SkiPasses", "orderBlock", "(IZ)Z"⟩, 9) := ⟨⟨by decide +kernel, by decide +kernel⟩, List.mem_of_getElem? (i := 27) (by decide +kernel), List.mem_of_getElem? (i := 1146) (by decide +kernel), List.mem_of_getElem? (i := 1147) (by decide +kernel)⟩
theorem lw_p20 : lw_okq (⟨"SkiPasses", "orderReplacement", "(I)Z"⟩, 9) := ⟨⟨by decide +kernel, by decide +kernel⟩, List.mem_of_getElem? (i := 27) (by decide +kernel), List.mem_of_getElem? (i := 1150) (by decide +kernel), List.mem_of_getElem? (i := 1151) (by decide +kernel)⟩
theorem lw_p21 : lw_okq (⟨"SkiPasses", "orderClosing", "(IZ)Z"⟩, 9) := ⟨⟨by decide +kernel, by decide +kernel⟩, List.mem_of_getElem? (i := 27) (by decide +kernel), List.mem_of_getElem? (i := 1154) (by decide +kernel), List.mem_of_getElem? (i := 1155) (by decide +kernel)⟩
theorem lw_p22 : lw_okq (⟨"SkiPasses", "orderWait", "(I)Z"⟩, 9) := ⟨⟨by decide +kernel, by decide +kernel⟩, List.mem_of_getElem? (i := 27) (by decide +kernel), List.mem_of_getElem? (i := 1158) (by decide +kernel), List.mem_of_getElem? (i := 1159) (by decide +kernel)⟩
theorem lw_p23 : lw_okq (⟨"SkiPassesModel", "fail", "(I)I"⟩, 18) := ⟨⟨by decide +kernel, by decide +kernel⟩, List.mem_of_getElem? (i := 1207) (by decide +kernel), List.mem_of_getElem? (i := 1283) (by decide +kernel), List.mem_of_getElem? (i := 1284) (by decide +kernel)⟩
theorem lw_p24 : lw_okq (⟨"SkiPassesModel", "changes", "()V"⟩, 18) := ⟨⟨by decide +kernel, by decide +kernel⟩, List.mem_of_getElem? (i := 1207) (by decide +kernel), List.mem_of_getElem? (i := 1287) (by decide +kernel), List.mem_of_getElem? (i := 1288) (by decide +kernel)⟩
theorem lw_p25 : lw_okq (⟨"SkiPassesModel", "keepTried", "()V"⟩, 18) := ⟨⟨by decide +kernel, by decide +kernel⟩, List.mem_of_getElem? (i := 1207) (by decide +kernel), List.mem_of_getElem? (i := 1291) (by decide +kernel), List.mem_of_getElem? (i := 1292) (by decide +kernel)⟩
theorem lw_p26 : lw_okq (⟨"SkiPassesModel", "remember", "()V"⟩, 18) := ⟨⟨by decide +kernel, by decide +kernel⟩, List.mem_of_getElem? (i := 1207) (by decide +kernel), List.mem_of_getElem? (i := 1295) (by decide +kernel), List.mem_of_getElem? (i := 1296) (by decide +kernel)⟩
theorem lw_p27 : lw_okq (⟨"SkiPassesModel", "isGate", "(I)Z"⟩, 18) := ⟨⟨by decide +kernel, by decide +kernel⟩, List.mem_of_getElem? (i := 1207) (by decide +kernel), List.mem_of_getElem? (i := 1307) (by decide +kernel), List.mem_of_getElem? (i := 1308) (by decide +kernel)⟩
theorem lw_p28 : lw_okq (⟨"SkiPassesModel", "g", "(II)I"⟩, 18) := ⟨⟨by decide +kernel, by decide +kernel⟩, List.mem_of_getElem? (i := 1207) (by decide +kernel), List.mem_of_getElem? (i := 1311) (by decide +kernel), List.mem_of_getElem? (i := 1312) (by decide +kernel)⟩
theorem lw_p29 : lw_okq (⟨"SkiPassesModel", "ridesAt", "(I)I"⟩, 18) := ⟨⟨by decide +kernel, by decide +kernel⟩, List.mem_of_getElem? (i := 1207) (by decide +kernel), List.mem_of_getElem? (i := 1315) (by decide +kernel), List.mem_of_getElem? (i := 1316) (by decide +kernel)⟩
theorem lw_p30 : lw_okq (⟨"SkiPassesModel", "rideOf", "(II)I"⟩, 18) := ⟨⟨by decide +kernel, by decide +kernel⟩, List.mem_of_getElem? (i := 1207) (by decide +kernel), List.mem_of_getElem? (i := 1319) (by decide +kernel), List.mem_of_getElem? (i := 1320) (by decide +kernel)⟩
theorem lw_p31 : lw_okq (⟨"SkiPassesModel", "today", "()I"⟩, 18) := ⟨⟨by decide +kernel, by decide +kernel⟩, List.mem_of_getElem? (i := 1207) (by decide +kernel), List.mem_of_getElem? (i := 1323) (by decide +kernel), List.mem_of_getElem? (i := 1324) (by decide +kernel)⟩
def lw_privs_2 : List (MethodName × Nat) := [(⟨"SkiPasses", "firstRefusedOrder", "()I"⟩, 9), (⟨"SkiPasses", "carriesOut", "(CI)Z"⟩, 9), (⟨"SkiPasses", "orderSale", "(II)Z"⟩, 9), (⟨"SkiPasses", "orderBlock", "(IZ)Z"⟩, 9), (⟨"SkiPasses", "orderReplacement", "(I)Z"⟩, 9), (⟨"SkiPasses", "orderClosing", "(IZ)Z"⟩, 9), (⟨"SkiPasses", "orderWait", "(I)Z"⟩, 9), (⟨"SkiPassesModel", "fail", "(I)I"⟩, 18), (⟨"SkiPassesModel", "changes", "()V"⟩, 18), (⟨"SkiPassesModel", "keepTried", "()V"⟩, 18), (⟨"SkiPassesModel", "remember", "()V"⟩, 18), (⟨"SkiPassesModel", "isGate", "(I)Z"⟩, 18), (⟨"SkiPassesModel", "g", "(II)I"⟩, 18), (⟨"SkiPassesModel", "ridesAt", "(I)I"⟩, 18), (⟨"SkiPassesModel", "rideOf", "(II)I"⟩, 18), (⟨"SkiPassesModel", "today", "()I"⟩, 18)]
theorem lw_r2 : ∀ q ∈ lw_privs_2, lw_okq q := List.forall_mem_cons.mpr ⟨lw_p16, List.forall_mem_cons.mpr ⟨lw_p17, List.forall_mem_cons.mpr ⟨lw_p18, List.forall_mem_cons.mpr ⟨lw_p19, List.forall_mem_cons.mpr ⟨lw_p20, List.forall_mem_cons.mpr ⟨lw_p21, List.forall_mem_cons.mpr ⟨lw_p22, List.forall_mem_cons.mpr ⟨lw_p23, List.forall_mem_cons.mpr ⟨lw_p24, List.forall_mem_cons.mpr ⟨lw_p25, List.forall_mem_cons.mpr ⟨lw_p26, List.forall_mem_cons.mpr ⟨lw_p27, List.forall_mem_cons.mpr ⟨lw_p28, List.forall_mem_cons.mpr ⟨lw_p29, List.forall_mem_cons.mpr ⟨lw_p30, List.forall_mem_cons.mpr ⟨lw_p31, fun _ h => absurd h List.not_mem_nil⟩⟩⟩⟩⟩⟩⟩⟩⟩⟩⟩⟩⟩⟩⟩⟩
theorem lw_p32 : lw_okq (⟨"SkiPassesModel", "closedOn", "(II)I"⟩, 18) := ⟨⟨by decide +kernel, by decide +kernel⟩, List.mem_of_getElem? (i := 1207) (by decide +kernel), List.mem_of_getElem? (i := 1327) (by decide +kernel), List.mem_of_getElem? (i := 1328) (by decide +kernel)⟩
theorem lw_p33 : lw_okq (⟨"SkiPassesModel", "closedInAll", "(I)I"⟩, 18) := ⟨⟨by decide +kernel, by decide +kernel⟩, List.mem_of_getElem? (i := 1207) (by decide +kernel), List.mem_of_getElem? (i := 1331) (by decide +kernel), List.mem_of_getElem? (i := 1332) (by decide +kernel)⟩
theorem lw_p34 : lw_okq (⟨"SkiPassesModel", "isProduct", "(I)Z"⟩, 18) := ⟨⟨by decide +kernel, by decide +kernel⟩, List.mem_of_getElem? (i := 1207) (by decide +kernel), List.mem_of_getElem? (i := 1339) (by decide +kernel), List.mem_of_getElem? (i := 1340) (by decide +kernel)⟩
theorem lw_p35 : lw_okq (⟨"SkiPassesModel", "p", "(II)I"⟩, 18) := ⟨⟨by decide +kernel, by decide +kernel⟩, List.mem_of_getElem? (i := 1207) (by decide +kernel), List.mem_of_getElem? (i := 1343) (by decide +kernel), List.mem_of_getElem? (i := 1344) (by decide +kernel)⟩
theorem lw_p36 : lw_okq (⟨"SkiPassesModel", "gatesOf", "(I)I"⟩, 18) := ⟨⟨by decide +kernel, by decide +kernel⟩, List.mem_of_getElem? (i := 1207) (by decide +kernel), List.mem_of_getElem? (i := 1347) (by decide +kernel), List.mem_of_getElem? (i := 1348) (by decide +kernel)⟩
theorem lw_p37 : lw_okq (⟨"SkiPassesModel", "cardsWith", "(IZ)I"⟩, 18) := ⟨⟨by decide +kernel, by decide +kernel⟩, List.mem_of_getElem? (i := 1207) (by decide +kernel), List.mem_of_getElem? (i := 1354) (by decide +kernel), List.mem_of_getElem? (i := 1355) (by decide +kernel)⟩
theorem lw_p38 : lw_okq (⟨"SkiPassesModel", "c", "(II)I"⟩, 18) := ⟨⟨by decide +kernel, by decide +kernel⟩, List.mem_of_getElem? (i := 1207) (by decide +kernel), List.mem_of_getElem? (i := 1358) (by decide +kernel), List.mem_of_getElem? (i := 1359) (by decide +kernel)⟩
theorem lw_p39 : lw_okq (⟨"SkiPassesModel", "wayOf", "(II)I"⟩, 18) := ⟨⟨by decide +kernel, by decide +kernel⟩, List.mem_of_getElem? (i := 1207) (by decide +kernel), List.mem_of_getElem? (i := 1366) (by decide +kernel), List.mem_of_getElem? (i := 1367) (by decide +kernel)⟩
theorem lw_p40 : lw_okq (⟨"SkiPassesModel", "advanceProblem", "(I)I"⟩, 18) := ⟨⟨by decide +kernel, by decide +kernel⟩, List.mem_of_getElem? (i := 1207) (by decide +kernel), List.mem_of_getElem? (i := 1374) (by decide +kernel), List.mem_of_getElem? (i := 1375) (by decide +kernel)⟩
theorem lw_p41 : lw_okq (⟨"SkiPassesModel", "goesOn", "(I)V"⟩, 18) := ⟨⟨by decide +kernel, by decide +kernel⟩, List.mem_of_getElem? (i := 1207) (by decide +kernel), List.mem_of_getElem? (i := 1379) (by decide +kernel), List.mem_of_getElem? (i := 1380) (by decide +kernel)⟩
theorem lw_p42 : lw_okq (⟨"SkiPassesModel", "hourNow", "()I"⟩, 18) := ⟨⟨by decide +kernel, by decide +kernel⟩, List.mem_of_getElem? (i := 1207) (by decide +kernel), List.mem_of_getElem? (i := 1387) (by decide +kernel), List.mem_of_getElem? (i := 1388) (by decide +kernel)⟩
theorem lw_p43 : lw_okq (⟨"SkiPassesModel", "closedGates", "()I"⟩, 18) := ⟨⟨by decide +kernel, by decide +kernel⟩, List.mem_of_getElem? (i := 1207) (by decide +kernel), List.mem_of_getElem? (i := 1391) (by decide +kernel), List.mem_of_getElem? (i := 1392) (by decide +kernel)⟩
theorem lw_p44 : lw_okq (⟨"SkiPassesModel", "isClosed", "(II)Z"⟩, 18) := ⟨⟨by decide +kernel, by decide +kernel⟩, List.mem_of_getElem? (i := 1207) (by decide +kernel), List.mem_of_getElem? (i := 1407) (by decide +kernel), List.mem_of_getElem? (i := 1408) (by decide +kernel)⟩
theorem lw_p45 : lw_okq (⟨"SkiPassesModel", "sellProblem", "(I)I"⟩, 18) := ⟨⟨by decide +kernel, by decide +kernel⟩, List.mem_of_getElem? (i := 1207) (by decide +kernel), List.mem_of_getElem? (i := 1415) (by decide +kernel), List.mem_of_getElem? (i := 1416) (by decide +kernel)⟩
theorem lw_p46 : lw_okq (⟨"SkiPassesModel", "comesCard", "(II)I"⟩, 18) := ⟨⟨by decide +kernel, by decide +kernel⟩, List.mem_of_getElem? (i := 1207) (by decide +kernel), List.mem_of_getElem? (i := 1419) (by decide +kernel), List.mem_of_getElem? (i := 1420) (by decide +kernel)⟩
theorem lw_p47 : lw_okq (⟨"SkiPassesModel", "setC", "(III)V"⟩, 18) := ⟨⟨by decide +kernel, by decide +kernel⟩, List.mem_of_getElem? (i := 1207) (by decide +kernel), List.mem_of_getElem? (i := 1423) (by decide +kernel), List.mem_of_getElem? (i := 1424) (by decide +kernel)⟩
def lw_privs_3 : List (MethodName × Nat) := [(⟨"SkiPassesModel", "closedOn", "(II)I"⟩, 18), (⟨"SkiPassesModel", "closedInAll", "(I)I"⟩, 18), (⟨"SkiPassesModel", "isProduct", "(I)Z"⟩, 18), (⟨"SkiPassesModel", "p", "(II)I"⟩, 18), (⟨"SkiPassesModel", "gatesOf", "(I)I"⟩, 18), (⟨"SkiPassesModel", "cardsWith", "(IZ)I"⟩, 18), (⟨"SkiPassesModel", "c", "(II)I"⟩, 18), (⟨"SkiPassesModel", "wayOf", "(II)I"⟩, 18), (⟨"SkiPassesModel", "advanceProblem", "(I)I"⟩, 18), (⟨"SkiPassesModel", "goesOn", "(I)V"⟩, 18), (⟨"SkiPassesModel", "hourNow", "()I"⟩, 18), (⟨"SkiPassesModel", "closedGates", "()I"⟩, 18), (⟨"SkiPassesModel", "isClosed", "(II)Z"⟩, 18), (⟨"SkiPassesModel", "sellProblem", "(I)I"⟩, 18), (⟨"SkiPassesModel", "comesCard", "(II)I"⟩, 18), (⟨"SkiPassesModel", "setC", "(III)V"⟩, 18)]
theorem lw_r3 : ∀ q ∈ lw_privs_3, lw_okq q := List.forall_mem_cons.mpr ⟨lw_p32, List.forall_mem_cons.mpr ⟨lw_p33, List.forall_mem_cons.mpr ⟨lw_p34, List.forall_mem_cons.mpr ⟨lw_p35, List.forall_mem_cons.mpr ⟨lw_p36, List.forall_mem_cons.mpr ⟨lw_p37, List.forall_mem_cons.mpr ⟨lw_p38, List.forall_mem_cons.mpr ⟨lw_p39, List.forall_mem_cons.mpr ⟨lw_p40, List.forall_mem_cons.mpr ⟨lw_p41, List.forall_mem_cons.mpr ⟨lw_p42, List.forall_mem_cons.mpr ⟨lw_p43, List.forall_mem_cons.mpr ⟨lw_p44, List.forall_mem_cons.mpr ⟨lw_p45, List.forall_mem_cons.mpr ⟨lw_p46, List.forall_mem_cons.mpr ⟨lw_p47, fun _ h => absurd h List.not_mem_nil⟩⟩⟩⟩⟩⟩⟩⟩⟩⟩⟩⟩⟩⟩⟩⟩
theorem lw_p48 : lw_okq (⟨"SkiPassesModel", "isCard", "(I)Z"⟩, 18) := ⟨⟨by decide +kernel, by decide +kernel⟩, List.mem_of_getElem? (i := 1207) (by decide +kernel), List.mem_of_getElem? (i := 1431) (by decide +kernel), List.mem_of_getElem? (i := 1432) (by decide +kernel)⟩
theorem lw_p49 : lw_okq (⟨"SkiPassesModel", "refusalBy", "(II)I"⟩, 18) := ⟨⟨by decide +kernel, by decide +kernel⟩, List.mem_of_getElem? (i := 1207) (by decide +kernel), List.mem_of_getElem? (i := 1435) (by decide +kernel), List.mem_of_getElem? (i := 1436) (by decide +kernel)⟩
theorem lw_p50 : lw_okq (⟨"SkiPassesModel", "isValid", "(I)Z"⟩, 18) := ⟨⟨by decide +kernel, by decide +kernel⟩, List.mem_of_getElem? (i := 1207) (by decide +kernel), List.mem_of_getElem? (i := 1439) (by decide +kernel), List.mem_of_getElem? (i := 1440) (by decide +kernel)⟩
theorem lw_p51 : lw_okq (⟨"SkiPassesModel", "ridesOn", "(I)I"⟩, 18) := ⟨⟨by decide +kernel, by decide +kernel⟩, List.mem_of_getElem? (i := 1207) (by decide +kernel), List.mem_of_getElem? (i := 1443) (by decide +kernel), List.mem_of_getElem? (i := 1444) (by decide +kernel)⟩
theorem lw_p52 : lw_okq (⟨"SkiPassesModel", "rideAt", "(II)I"⟩, 18) := ⟨⟨by decide +kernel, by decide +kernel⟩, List.mem_of_getElem? (i := 1207) (by decide +kernel), List.mem_of_getElem? (i := 1447) (by decide +kernel), List.mem_of_getElem? (i := 1448) (by decide +kernel)⟩
theorem lw_p53 : lw_okq (⟨"SkiPassesModel", "daysOf", "(IZ)I"⟩, 18) := ⟨⟨by decide +kernel, by decide +kernel⟩, List.mem_of_getElem? (i := 1207) (by decide +kernel), List.mem_of_getElem? (i := 1451) (by decide +kernel), List.mem_of_getElem? (i := 1452) (by decide +kernel)⟩
theorem lw_p54 : lw_okq (⟨"SkiPassesModel", "stateProblem", "(I)I"⟩, 18) := ⟨⟨by decide +kernel, by decide +kernel⟩, List.mem_of_getElem? (i := 1207) (by decide +kernel), List.mem_of_getElem? (i := 1471) (by decide +kernel), List.mem_of_getElem? (i := 1472) (by decide +kernel)⟩
theorem lw_p55 : lw_okq (⟨"SkiPassesModel", "isGone", "(I)Z"⟩, 18) := ⟨⟨by decide +kernel, by decide +kernel⟩, List.mem_of_getElem? (i := 1207) (by decide +kernel), List.mem_of_getElem? (i := 1475) (by decide +kernel), List.mem_of_getElem? (i := 1476) (by decide +kernel)⟩
theorem lw_p56 : lw_okq (⟨"SkiPassesModel", "replaceProblem", "(I)I"⟩, 18) := ⟨⟨by decide +kernel, by decide +kernel⟩, List.mem_of_getElem? (i := 1207) (by decide +kernel), List.mem_of_getElem? (i := 1483) (by decide +kernel), List.mem_of_getElem? (i := 1484) (by decide +kernel)⟩
theorem lw_p57 : lw_okq (⟨"SkiPassesModel", "replaces", "(I)I"⟩, 18) := ⟨⟨by decide +kernel, by decide +kernel⟩, List.mem_of_getElem? (i := 1207) (by decide +kernel), List.mem_of_getElem? (i := 1487) (by decide +kernel), List.mem_of_getElem? (i := 1488) (by decide +kernel)⟩
theorem lw_p58 : lw_okq (⟨"SkiPassesModel", "lastOf", "(I)I"⟩, 18) := ⟨⟨by decide +kernel, by decide +kernel⟩, List.mem_of_getElem? (i := 1207) (by decide +kernel), List.mem_of_getElem? (i := 1495) (by decide +kernel), List.mem_of_getElem? (i := 1496) (by decide +kernel)⟩
theorem lw_p59 : lw_okq (⟨"SkiPassesModel", "leftOn", "(I)I"⟩, 18) := ⟨⟨by decide +kernel, by decide +kernel⟩, List.mem_of_getElem? (i := 1207) (by decide +kernel), List.mem_of_getElem? (i := 1499) (by decide +kernel), List.mem_of_getElem? (i := 1500) (by decide +kernel)⟩
theorem lw_p60 : lw_okq (⟨"SkiPassesModel", "refundOf", "(I)I"⟩, 18) := ⟨⟨by decide +kernel, by decide +kernel⟩, List.mem_of_getElem? (i := 1207) (by decide +kernel), List.mem_of_getElem? (i := 1511) (by decide +kernel), List.mem_of_getElem? (i := 1512) (by decide +kernel)⟩
theorem lw_p61 : lw_okq (⟨"SkiPassesModel", "shareOf", "(II)I"⟩, 18) := ⟨⟨by decide +kernel, by decide +kernel⟩, List.mem_of_getElem? (i := 1207) (by decide +kernel), List.mem_of_getElem? (i := 1523) (by decide +kernel), List.mem_of_getElem? (i := 1524) (by decide +kernel)⟩
theorem lw_p62 : lw_okq (⟨"SkiPassesModel", "keptOf", "(I)I"⟩, 18) := ⟨⟨by decide +kernel, by decide +kernel⟩, List.mem_of_getElem? (i := 1207) (by decide +kernel), List.mem_of_getElem? (i := 1527) (by decide +kernel), List.mem_of_getElem? (i := 1528) (by decide +kernel)⟩
theorem lw_p63 : lw_okq (⟨"SkiPassesModel", "ridesOf", "(II)I"⟩, 18) := ⟨⟨by decide +kernel, by decide +kernel⟩, List.mem_of_getElem? (i := 1207) (by decide +kernel), List.mem_of_getElem? (i := 1531) (by decide +kernel), List.mem_of_getElem? (i := 1532) (by decide +kernel)⟩
def lw_privs_4 : List (MethodName × Nat) := [(⟨"SkiPassesModel", "isCard", "(I)Z"⟩, 18), (⟨"SkiPassesModel", "refusalBy", "(II)I"⟩, 18), (⟨"SkiPassesModel", "isValid", "(I)Z"⟩, 18), (⟨"SkiPassesModel", "ridesOn", "(I)I"⟩, 18), (⟨"SkiPassesModel", "rideAt", "(II)I"⟩, 18), (⟨"SkiPassesModel", "daysOf", "(IZ)I"⟩, 18), (⟨"SkiPassesModel", "stateProblem", "(I)I"⟩, 18), (⟨"SkiPassesModel", "isGone", "(I)Z"⟩, 18), (⟨"SkiPassesModel", "replaceProblem", "(I)I"⟩, 18), (⟨"SkiPassesModel", "replaces", "(I)I"⟩, 18), (⟨"SkiPassesModel", "lastOf", "(I)I"⟩, 18), (⟨"SkiPassesModel", "leftOn", "(I)I"⟩, 18), (⟨"SkiPassesModel", "refundOf", "(I)I"⟩, 18), (⟨"SkiPassesModel", "shareOf", "(II)I"⟩, 18), (⟨"SkiPassesModel", "keptOf", "(I)I"⟩, 18), (⟨"SkiPassesModel", "ridesOf", "(II)I"⟩, 18)]
theorem lw_r4 : ∀ q ∈ lw_privs_4, lw_okq q := List.forall_mem_cons.mpr ⟨lw_p48, List.forall_mem_cons.mpr ⟨lw_p49, List.forall_mem_cons.mpr ⟨lw_p50, List.forall_mem_cons.mpr ⟨lw_p51, List.forall_mem_cons.mpr ⟨lw_p52, List.forall_mem_cons.mpr ⟨lw_p53, List.forall_mem_cons.mpr ⟨lw_p54, List.forall_mem_cons.mpr ⟨lw_p55, List.forall_mem_cons.mpr ⟨lw_p56, List.forall_mem_cons.mpr ⟨lw_p57, List.forall_mem_cons.mpr ⟨lw_p58, List.forall_mem_cons.mpr ⟨lw_p59, List.forall_mem_cons.mpr ⟨lw_p60, List.forall_mem_cons.mpr ⟨lw_p61, List.forall_mem_cons.mpr ⟨lw_p62, List.forall_mem_cons.mpr ⟨lw_p63, fun _ h => absurd h List.not_mem_nil⟩⟩⟩⟩⟩⟩⟩⟩⟩⟩⟩⟩⟩⟩⟩⟩
theorem lw_p64 : lw_okq (⟨"SkiPassesModel", "sharesOf", "(I)I"⟩, 18) := ⟨⟨by decide +kernel, by decide +kernel⟩, List.mem_of_getElem? (i := 1207) (by decide +kernel), List.mem_of_getElem? (i := 1539) (by decide +kernel), List.mem_of_getElem? (i := 1540) (by decide +kernel)⟩
theorem lw_p65 : lw_okq (⟨"SkiPassesModel", "ridesOfPartner", "(I)I"⟩, 18) := ⟨⟨by decide +kernel, by decide +kernel⟩, List.mem_of_getElem? (i := 1207) (by decide +kernel), List.mem_of_getElem? (i := 1543) (by decide +kernel), List.mem_of_getElem? (i := 1544) (by decide +kernel)⟩
theorem lw_p66 : lw_okq (⟨"SkiPassesModel", "gatesOfPartner", "(I)I"⟩, 18) := ⟨⟨by decide +kernel, by decide +kernel⟩, List.mem_of_getElem? (i := 1207) (by decide +kernel), List.mem_of_getElem? (i := 1547) (by decide +kernel), List.mem_of_getElem? (i := 1548) (by decide +kernel)⟩
theorem lw_p67 : lw_okq (⟨"SkiPassesModel", "cardsOfPartner", "(I)I"⟩, 18) := ⟨⟨by decide +kernel, by decide +kernel⟩, List.mem_of_getElem? (i := 1207) (by decide +kernel), List.mem_of_getElem? (i := 1551) (by decide +kernel), List.mem_of_getElem? (i := 1552) (by decide +kernel)⟩
theorem lw_p68 : lw_okq (⟨"SkiPassesModel", "sharesInAll", "()I"⟩, 18) := ⟨⟨by decide +kernel, by decide +kernel⟩, List.mem_of_getElem? (i := 1207) (by decide +kernel), List.mem_of_getElem? (i := 1559) (by decide +kernel), List.mem_of_getElem? (i := 1560) (by decide +kernel)⟩
theorem lw_p69 : lw_okq (⟨"SkiPassesModel", "sumOf", "(I)I"⟩, 18) := ⟨⟨by decide +kernel, by decide +kernel⟩, List.mem_of_getElem? (i := 1207) (by decide +kernel), List.mem_of_getElem? (i := 1563) (by decide +kernel), List.mem_of_getElem? (i := 1564) (by decide +kernel)⟩
theorem lw_p70 : lw_okq (⟨"SkiPassesModel", "orders", "(Z)I"⟩, 18) := ⟨⟨by decide +kernel, by decide +kernel⟩, List.mem_of_getElem? (i := 1207) (by decide +kernel), List.mem_of_getElem? (i := 1587) (by decide +kernel), List.mem_of_getElem? (i := 1588) (by decide +kernel)⟩
theorem lw_p71 : lw_okq (⟨"SkiPassesModel", "readsOrder", "()V"⟩, 18) := ⟨⟨by decide +kernel, by decide +kernel⟩, List.mem_of_getElem? (i := 1207) (by decide +kernel), List.mem_of_getElem? (i := 1591) (by decide +kernel), List.mem_of_getElem? (i := 1592) (by decide +kernel)⟩
theorem lw_p72 : lw_okq (⟨"SkiPassesModel", "isLetter", "()Z"⟩, 18) := ⟨⟨by decide +kernel, by decide +kernel⟩, List.mem_of_getElem? (i := 1207) (by decide +kernel), List.mem_of_getElem? (i := 1595) (by decide +kernel), List.mem_of_getElem? (i := 1596) (by decide +kernel)⟩
theorem lw_p73 : lw_okq (⟨"SkiPassesModel", "isAt", "(CC)Z"⟩, 18) := ⟨⟨by decide +kernel, by decide +kernel⟩, List.mem_of_getElem? (i := 1207) (by decide +kernel), List.mem_of_getElem? (i := 1599) (by decide +kernel), List.mem_of_getElem? (i := 1600) (by decide +kernel)⟩
theorem lw_p74 : lw_okq (⟨"SkiPassesModel", "readsNumber", "()V"⟩, 18) := ⟨⟨by decide +kernel, by decide +kernel⟩, List.mem_of_getElem? (i := 1207) (by decide +kernel), List.mem_of_getElem? (i := 1603) (by decide +kernel), List.mem_of_getElem? (i := 1604) (by decide +kernel)⟩
theorem lw_p75 : lw_okq (⟨"SkiPassesModel", "digit", "()I"⟩, 18) := ⟨⟨by decide +kernel, by decide +kernel⟩, List.mem_of_getElem? (i := 1207) (by decide +kernel), List.mem_of_getElem? (i := 1607) (by decide +kernel), List.mem_of_getElem? (i := 1608) (by decide +kernel)⟩
theorem lw_p76 : lw_okq (⟨"SkiPassesModel", "carriesOut", "()Z"⟩, 18) := ⟨⟨by decide +kernel, by decide +kernel⟩, List.mem_of_getElem? (i := 1207) (by decide +kernel), List.mem_of_getElem? (i := 1611) (by decide +kernel), List.mem_of_getElem? (i := 1612) (by decide +kernel)⟩
theorem lw_p77 : lw_okq (⟨"SkiPassesModel", "sells", "()Z"⟩, 18) := ⟨⟨by decide +kernel, by decide +kernel⟩, List.mem_of_getElem? (i := 1207) (by decide +kernel), List.mem_of_getElem? (i := 1615) (by decide +kernel), List.mem_of_getElem? (i := 1616) (by decide +kernel)⟩
def lw_privs_5 : List (MethodName × Nat) := [(⟨"SkiPassesModel", "sharesOf", "(I)I"⟩, 18), (⟨"SkiPassesModel", "ridesOfPartner", "(I)I"⟩, 18), (⟨"SkiPassesModel", "gatesOfPartner", "(I)I"⟩, 18), (⟨"SkiPassesModel", "cardsOfPartner", "(I)I"⟩, 18), (⟨"SkiPassesModel", "sharesInAll", "()I"⟩, 18), (⟨"SkiPassesModel", "sumOf", "(I)I"⟩, 18), (⟨"SkiPassesModel", "orders", "(Z)I"⟩, 18), (⟨"SkiPassesModel", "readsOrder", "()V"⟩, 18), (⟨"SkiPassesModel", "isLetter", "()Z"⟩, 18), (⟨"SkiPassesModel", "isAt", "(CC)Z"⟩, 18), (⟨"SkiPassesModel", "readsNumber", "()V"⟩, 18), (⟨"SkiPassesModel", "digit", "()I"⟩, 18), (⟨"SkiPassesModel", "carriesOut", "()Z"⟩, 18), (⟨"SkiPassesModel", "sells", "()Z"⟩, 18)]
theorem lw_r5 : ∀ q ∈ lw_privs_5, lw_okq q := List.forall_mem_cons.mpr ⟨lw_p64, List.forall_mem_cons.mpr ⟨lw_p65, List.forall_mem_cons.mpr ⟨lw_p66, List.forall_mem_cons.mpr ⟨lw_p67, List.forall_mem_cons.mpr ⟨lw_p68, List.forall_mem_cons.mpr ⟨lw_p69, List.forall_mem_cons.mpr ⟨lw_p70, List.forall_mem_cons.mpr ⟨lw_p71, List.forall_mem_cons.mpr ⟨lw_p72, List.forall_mem_cons.mpr ⟨lw_p73, List.forall_mem_cons.mpr ⟨lw_p74, List.forall_mem_cons.mpr ⟨lw_p75, List.forall_mem_cons.mpr ⟨lw_p76, List.forall_mem_cons.mpr ⟨lw_p77, fun _ h => absurd h List.not_mem_nil⟩⟩⟩⟩⟩⟩⟩⟩⟩⟩⟩⟩⟩⟩
def lw_privs : List (MethodName × Nat) := lw_privs_1 ++ (lw_privs_2 ++ (lw_privs_3 ++ (lw_privs_4 ++ (lw_privs_5))))
def lw_tbl : List Cond := k2_sels lw_privs ++ tables_1
theorem lw_privs_ok : ∀ q ∈ lw_privs, lw_okq q := by
  show ∀ q ∈ lw_privs_1 ++ (lw_privs_2 ++ (lw_privs_3 ++ (lw_privs_4 ++ (lw_privs_5)))), lw_okq q
  exact List.forall_mem_append.mpr ⟨lw_r1, List.forall_mem_append.mpr ⟨lw_r2, List.forall_mem_append.mpr ⟨lw_r3, List.forall_mem_append.mpr ⟨lw_r4, lw_r5⟩⟩⟩⟩
/-- the streams that the claim lets the run draw from -/
abbrev lw_cs : List Choice := [Jvm.Choice.named "NaN.bits"]
theorem lw_bits : nanBits ∈ lw_cs := by first | decide | exact List.mem_cons_self | simp [lw_cs, nanBits]
-- ===== end of PART A; then your names; then what follows =====
/-! THE CLAIM OUT OF ONE WALK OF THE LAW'S BODY. Your part is whole_start (and what it stands on); all else here is the same for every law, but numbers. -/
def R_law : String := "SkiPassesLaw"
def lw_P (b : Addr) (xs : List Int32) (args : Array Value) (s : State) : Prop := args = #[.ref b] ∧ s.IntsAt b xs ∧ xs.length ≤ 3584 ∧ (Jvm.Cond.and given_1 narrow_1).before args s = true
/-- what a walk over the start with the record d0 says of its end, said of the start itself -/
theorem lw_closed {s t : State} {o : Outcome} {d0 : Drawn} {L : List Loc} {k n : Nat} (hd0 : s.drawn.sameBut d0 lw_cs) (hv : ∃ v, o = .returned v) (hW : (s.setDrawn d0).WarmedH t.vm) (hs : (s.setDrawn d0).sameButNew ({ t with vm := s.vm } : State) L k n) : State.butDraws s t lw_cs (fun t1 => Framed s o t1 L k n) := by
  have h2 : t.drawn = d0 := congrArg State.drawn hs.1
  refine ⟨⟨hv, hW, State.sameButNew.setDrawn hs s.drawn⟩, ?_, by decide⟩
  rw [h2]
  exact hd0
def lw_Q (_ : Array Value) (s : State) (o : Outcome) (t : State) : Prop := o = .returned (some (.int 1)) ∧ State.butDraws s t lw_cs (fun t1 => Framed s o t1 [] 603072 7219305)
def lw_Z (below : List Frame) (a : Array Value) (s : State) : State → Prop := fun t => ∃ o, t.status = .running ∧ Ended t below o ∧ lw_Q a s o t
/-- the law's own end, with 1 on the stack, nothing written that was there before, its room as the claim has it; d0: the record of draws at this point (at the entry s.drawn: begin with 'refine W.base ?_' and 'have hd0 := Drawn.sameBut.refl s.drawn lw_cs') -/
theorem lw_ret {p : Program} {l : Launch} {e : Env} {s : State} {m : MethodId} {below : List Frame} {meth : Method} {c : Code} {b : Nat} {d0 : Drawn} (hd0 : s.drawn.sameBut d0 lw_cs) (hx : p.tables.exec = Jvm.exec) (hb : c.code = code) (hr : meth.sig.returnType = ret) (hlocks : meth.locks = false) {pc : Nat} {H : Heap} {ls : Array Slot} (hdg : decode code pc = .ok (.ireturn, 1)) : W p l e room_1 (s.setDrawn d0) m #[Value.ref b] below meth c H [] 603072 7219305 (lw_Z below #[Value.ref b] s) (F0 m pc ls [.int 1]) := by
  intro T hT X
  obtain ⟨fs, hret, hrun, hended, hW, hframe⟩ := X.leave (v := some (.int 1)) (hlocks := hlocks) (fun h => by rw [hr] at h; cases h)
  have hmeth' : T.vm.method? m = some meth := X.method'
  refine ⟨T.setFrames fs, ?_, .returned (some (.int 1)), hrun, hended, rfl, lw_closed hd0 ⟨_, rfl⟩ hW hframe⟩
  jvm_step X.here [X.here.top, hx, hb, hdg, hmeth', hr, ret, narrow_b1]
  (try refine ⟨rfl, ?_⟩); (try refine ⟨rfl, ?_⟩)
  first | (intro acts; rw [hret _ acts rfl rfl rfl]) | rw [hret _ _ rfl rfl rfl]
  exact Steps.refl _
/-- what holds at the law's entry: the machine, the code, the tables' words (any of lw_tbl by 'hts w (by decide +kernel)'), the script of L ints xs at the cell b, what the Statement gives of the start (any of its parts by flat_of_before) -/
def lw_At (p : Program) (s : State) (m : MethodId) (meth : Method) (c : Code) (b L : Nat) (xs : Nat → Int32) : Prop :=
  p.tables.exec = Jvm.exec ∧ c.code = code ∧ meth.sig.returnType = ret ∧ c.maxLocals = 9 ∧ s.vm.findClass R_law = some m.cls ∧ (∀ w ∈ lw_tbl, w.before #[Value.ref b] s = true) ∧ va_X b L xs s s.heap ∧ b < s.heap.size ∧ meth.locks = false ∧ (Jvm.Cond.and given_1 narrow_1).before #[Value.ref b] s = true
-- ===== YOUR PART BEGINS =====
end
section
/-! ===== BEGIN words of one list among another's, by their places ===== -/
theorem goodIn_r {big : List Cond} (ws : List Cond) (ps : List Nat) (hp : ws = ps.filterMap (fun i => big[i]?)) (h : ws.all goodWord = true) : GoodIn big ws := by
  intro w hw
  have h1 := List.all_eq_true.mp h w hw
  rw [hp] at hw
  obtain ⟨i, -, hi⟩ := List.mem_filterMap.mp hw
  have hm : w ∈ big := by first | exact List.mem_of_getElem? hi | exact List.getElem?_mem hi
  exact ⟨hm, good_of_word h1⟩
theorem goodIn_app {big a b : List Cond} (ha : GoodIn big a) (hb : GoodIn big b) : GoodIn big (a ++ b) := fun w h => (List.mem_append.mp h).elim (ha w) (hb w)
theorem goodIn_ca {big a b : List Cond} {c : Cond} (ha : GoodIn big (c :: a)) (hb : GoodIn big b) : GoodIn big (c :: (a ++ b)) := fun w h => (List.mem_cons.mp h).elim (fun e => ha w (List.mem_cons.mpr (Or.inl e))) (fun h => (List.mem_append.mp h).elim (fun h => ha w (List.mem_cons.mpr (Or.inr h))) (hb w))
theorem goodIn_sub {big ws : List Cond} (hm : ∀ w ∈ ws, w ∈ big) (h : ws.all goodWord = true) : GoodIn big ws := fun w hw => ⟨hm w hw, good_of_word (List.all_eq_true.mp h w hw)⟩
/-! ===== END ===== -/
/-! ===== BEGIN exceptions that leave a method, and their catching by the caller (launches without stack traces) ===== -/
section VXA
/-! The laws vx_back, vx_callV, vx_callS, vx_callSW, vx_throw0, vx_throwS follow proofs of the library, with one case more: JvmDerived/Free/Laws.lean (Back.of_free), Shelf42/LK1.lean (callV, callS), Shelf/KitTraced.lean (throwNew0V, throwNewS). -/
/-- where a method has thrown q: the class by its name, the cell, what was written, the world -/
def vx_T (XC : String → State → State → Prop) (st : State) (q : Addr) (t : State) (mc ms : Nat) (free : Addr → Prop) : Prop :=
  ∃ (E : String) (ce : Cell) (L : List Loc), XC E st t ∧ t.heap[q]? = some ce ∧ ce.vm = .none ∧ st.vm.findClass E = some ce.cls ∧ st.WarmedH t.vm ∧ st.sameButNew ({ t with vm := st.vm } : State) L mc ms ∧ ∀ z ∈ L, free z.base
def vx_Q (Qc : Array Value → State → Outcome → State → Prop) (XC : String → State → State → Prop) (mc ms : Nat) (free : Addr → Prop) : Array Value → State → Outcome → State → Prop := fun a st o t =>
  (Qc a st o t ∧ ∃ L, FrameEnd st o t L mc ms ∧ ∀ q ∈ L, free q.base) ∨ ∃ q, o = .threw q ∧ vx_T XC st q t mc ms free
/-- a callee that returns or throws -/
def vx_Met (l : Launch) (y : MethodName) (ws : List Cond) (rm : Room) (Pc : Array Value → State → Prop) (Qc : Array Value → State → Outcome → State → Prop) (XC : String → State → State → Prop) (mc ms : Nat) (free : Addr → Prop) : Prop :=
  MetFree l y (headSpec ws rm) Pc (fun _ _ _ _ _ => True) (vx_Q Qc XC mc ms free)
def vx_Post (XC : String → State → State → Prop) (mc ms : Nat) (free : Addr → Prop) : Pt → Array Value → Addr → Pt → Prop := fun A a q B =>
  ∃ (g : JFrame) (mk : MethodId) (t : State) (L : List Loc) (E : String) (ce : Cell), B.U.heap = t.heap ∧ B.U.vm = t.vm ∧ XC E (A.U.calling g mk a) t ∧ t.heap[q]? = some ce ∧ ce.vm = .none ∧ A.U.vm.findClass E = some ce.cls ∧ B.locs = A.locs ++ L ∧ (∀ z ∈ L, free z.base) ∧ B.cells = A.cells + mc ∧ B.slots = A.slots + ms
def vx_Back (l : Launch) (R : Room) (p : Program) (e : Env) (below : List Frame) (s : State) (sargs : Array Value) (y : MethodName) (len W9 : Nat)
    (Pre : Pt → Array Value → Prop) (Post : Pt → Array Value → Option Value → Pt → Prop) (PostX : Pt → Array Value → Addr → Pt → Prop) : Prop :=
  ∀ (m : MethodId) (meth : Method) (c : Code) (A : Pt) (g : JFrame) (ig : Instr) (mk : MethodId) (a : Array Value),
    Stand p l e R s m sargs below meth c A.U A.locs A.cells A.slots → g.method = m → g.locals.size = c.maxLocals → decode c.code g.pc = .ok (ig, len) →
    2 * g.monitorRoom + (g.stack.map fun v => v.category).sum ≤ W9 → A.U.methodNamed? y = some mk → Pre A a →
    (∃ (v : Option Value) (B : Pt), Stand p l e R s m sargs below meth c B.U B.locs B.cells B.slots ∧ Post A a v B ∧
      Steps p.tables e below (doInvoke e (A.U.setTop g) [] mk a).1 (B.U.setTop { g with pc := g.pc + len, stack := v.toList ++ g.stack })) ∨
    (∃ (q : Addr) (B : Pt), Stand p l e R s m sargs below meth c B.U B.locs B.cells B.slots ∧ PostX A a q B ∧
      Steps p.tables e below (doInvoke e (A.U.setTop g) [] mk a).1 ((B.U.setTop g).pushFrame (.throwing q)))
section Payer
variable {l : Launch} {R : Room} {p : Program} {e : Env} {below : List Frame} {s : State} {sargs : Array Value} {y : MethodName} {len W9 : Nat}
theorem vx_back {ws : List Cond} {rm : Room} {Pc : Array Value → State → Prop} {Qc : Array Value → State → Outcome → State → Prop} {XC : String → State → State → Prop} {mc ms : Nat} {free : Addr → Prop} {bytes : ByteArray} {maxL : Nat} {ret : Option FieldType}
    (hM : vx_Met l y ws rm Pc Qc XC mc ms free) (hblind : FrameBlind Pc) (hrc : rm.cells = mc) (hrs : rm.slots = ms)
    (hframes : rm.frames + 1 ≤ R.frames) (hlocals : W9 + (maxL + 11) + rm.locals ≤ R.locals)
    (hws : ∀ w ∈ ws, ∀ a' U, s.WarmedH U.vm → w.before a' U = true) (hcode : Cond.code y bytes maxL ret ∈ ws) (hinit : ∀ a' U, s.WarmedH U.vm → (Cond.initialized y.cls).before a' U = true) :
    vx_Back l R p e below s sargs y len W9 (PreOf R mc ms Pc) (PostOf Qc mc ms free) (vx_Post XC mc ms free) := by
  intro m meth c A g ig mk a X hg hsize hdg hW hn hp
  have h1 : (headSpec ws rm).pre.before a A.U = true := atoms_intro fun w hw => hws w hw _ _ X.warmed
  have h2 : (Cond.code y bytes maxL ret).before a A.U = true := hws _ hcode _ _ X.warmed
  have h3 : (Cond.initialized y.cls).before a A.U = true := hinit _ _ X.warmed
  have h4 : A.cells + (headSpec ws rm).room.cells ≤ R.cells := by rw [show (headSpec ws rm).room.cells = mc from hrc]; exact hp.1
  have h5 : A.slots + (headSpec ws rm).room.slots ≤ R.slots := by rw [show (headSpec ws rm).room.slots = ms from hrs]; exact hp.2.1
  have hPc : Pc a (A.U.calling g mk a) := hblind _ _ _ _ hp.2.2
  obtain ⟨U, Ls, c0, s0⟩ := A
  dsimp only [Pt.U, Pt.locs, Pt.cells, Pt.slots] at h1 h2 h3 h4 h5 X hn hPc ⊢
  obtain ⟨methY, cY, hmY, hcY, -, hlY, -, -, -, -⟩ := Cond.code_spec hn h2
  obtain ⟨kY, hkY, -⟩ := className_of_methodNamed hn
  have hinitY : kY.init = .initialized := Cond.initialized_spec (findClass_of_methodNamed hn) hkY h3
  have h : At U g.method c below := by rw [hg]; exact X.here
  have hlocals9 : W9 + (maxL + 11) + (headSpec ws rm).room.locals ≤ R.locals := hlocals
  have happ : (headSpec ws rm).appliesLoose y e.platform (U.calling g mk a) = true :=
    Spec.appliesLoose_calling (g := g) h hdg hn hkY hinitY
      (X.room_calling (g := g) (R' := (headSpec ws rm).room) hsize hmY hcY hframes (by rw [hlY]; omega) h4 h5) h1
  obtain ⟨mid, hmid⟩ := h.above
  have hfr : (U.setTop g).frames = (.java g :: mid) ++ below := by rw [State.frames_setTop' g h.top, hmid]; rfl
  obtain ⟨o, s₂, hsteps, -, hend, hq⟩ := Steps.callFree hM p X.admits X.cas X.clock (acts := []) hfr happ hPc trivial
  have hq' : vx_Q Qc XC mc ms free a (U.calling g mk a) o s₂ := hq
  rw [State.frames_setTop' g h.top] at hend
  obtain ⟨g₀, hg0⟩ := Option.isSome_iff_exists.mp h.top
  obtain ⟨r, hr⟩ := State.topJava?_eq_some.mp hg0
  have hr' : (({ U with heap := s₂.heap, slotsUsed := s₂.slotsUsed } : State).setVm s₂.vm).frames = .java g₀ :: r := hr
  rcases hq' with ⟨hqc, L, hfe, hL⟩ | ⟨q, rfl, E, ce, L, hx, hce, hcv, hcl, hW₂, hsm, hL⟩
  · obtain ⟨⟨v, rfl⟩, hW₂, e2, q2, q3, q4, q5, q6⟩ := id hfe
    have e3 : s₂ = ({ (U.calling g mk a).setFrames s₂.frames with heap := s₂.heap, slotsUsed := s₂.slotsUsed } : State).setVm s₂.vm := by
      have : s₂ = ({ s₂ with vm := (U.calling g mk a).vm } : State).setVm s₂.vm := rfl
      rw [e2] at this
      exact this
    obtain ⟨c₂, i₂, len₂, hc₂, hd₂, hf₂⟩ := hend
    have hW' : U.WarmedH s₂.vm := hW₂
    have hcc : c₂ = c := by
      have h1 : s₂.code? g.method = U.code? g.method := by
        rw [State.code?_eq, State.code?_eq, hW'.alike.method?]
      exact Option.some.inj (hc₂.symm.trans (h1.trans h.code))
    subst hcc
    have hlen : len₂ = len := by rw [hdg] at hd₂; cases hd₂; rfl
    subst hlen
    have hs₂ : s₂ = (({ U with heap := s₂.heap, slotsUsed := s₂.slotsUsed } : State).setVm s₂.vm).setTop { g with pc := g.pc + len₂, stack := v.toList ++ g.stack } := by
      refine e3.trans ?_
      rw [hf₂, State.calling_eq h.top, State.setFrames_setFrames, State.setTop_of_frames _ hr', hr]
      rfl
    have hsame : U.sameButNew ({ U with heap := s₂.heap, slotsUsed := s₂.slotsUsed } : State) L mc ms := by
      refine ⟨?_, q2, q3, q4, q5, q6⟩
      obtain ⟨t, ht, -⟩ := State.frames_cons hr
      show ({ U with heap := s₂.heap, slotsUsed := s₂.slotsUsed } : State) = { U.setFrames U.frames with heap := s₂.heap, slotsUsed := s₂.slotsUsed }
      rw [State.setFrames_self ht]
    subst hg
    refine Or.inl ⟨v, ⟨(({ U with heap := s₂.heap, slotsUsed := s₂.slotsUsed } : State).setVm s₂.vm), Ls ++ L, c0 + mc, s0 + ms⟩,
      ⟨X.admits, X.cas, X.clock, X.frames, X.room, X.hears, X.method, X.code, (X.here.setHeapUsed s₂.heap s₂.slotsUsed).setVm hW'.alike, X.tail, State.WarmedH.trans X.warmed hW', X.limits, X.bytes, X.same.trans (hsame.setVm s.vm)⟩,
      ⟨g, mk, s₂, L, rfl, rfl, hqc, rfl, hL, rfl, rfl⟩, ?_⟩
    show Steps p.tables e below _ ((({ U with heap := s₂.heap, slotsUsed := s₂.slotsUsed } : State).setVm s₂.vm).setTop { g with pc := g.pc + len₂, stack := v.toList ++ g.stack })
    rw [← hs₂]
    exact hsteps
  · obtain ⟨e2, q2, q3, q4, q5, q6⟩ := id hsm
    have e3 : s₂ = ({ (U.calling g mk a).setFrames s₂.frames with heap := s₂.heap, slotsUsed := s₂.slotsUsed } : State).setVm s₂.vm := by
      have : s₂ = ({ s₂ with vm := (U.calling g mk a).vm } : State).setVm s₂.vm := rfl
      rw [e2] at this
      exact this
    have hf₂ : s₂.frames = .throwing q :: .java g :: U.frames.tail := hend
    have hW' : U.WarmedH s₂.vm := hW₂
    have hs₂ : s₂ = ((({ U with heap := s₂.heap, slotsUsed := s₂.slotsUsed } : State).setVm s₂.vm).setTop g).pushFrame (.throwing q) := by
      refine e3.trans ?_
      rw [hf₂, State.calling_eq h.top, State.setFrames_setFrames, State.pushFrame, State.frames_setTop _ hr', State.setTop_of_frames _ hr', State.setFrames_setFrames, hr]
      rfl
    have hsame : U.sameButNew ({ U with heap := s₂.heap, slotsUsed := s₂.slotsUsed } : State) L mc ms := by
      refine ⟨?_, q2, q3, q4, q5, q6⟩
      obtain ⟨t, ht, -⟩ := State.frames_cons hr
      show ({ U with heap := s₂.heap, slotsUsed := s₂.slotsUsed } : State) = { U.setFrames U.frames with heap := s₂.heap, slotsUsed := s₂.slotsUsed }
      rw [State.setFrames_self ht]
    subst hg
    refine Or.inr ⟨q, ⟨(({ U with heap := s₂.heap, slotsUsed := s₂.slotsUsed } : State).setVm s₂.vm), Ls ++ L, c0 + mc, s0 + ms⟩,
      ⟨X.admits, X.cas, X.clock, X.frames, X.room, X.hears, X.method, X.code, (X.here.setHeapUsed s₂.heap s₂.slotsUsed).setVm hW'.alike, X.tail, State.WarmedH.trans X.warmed hW', X.limits, X.bytes, X.same.trans (hsame.setVm s.vm)⟩,
      ⟨g, mk, s₂, L, E, ce, rfl, rfl, hx, hce, hcv, hcl, rfl, hL, rfl, rfl⟩, ?_⟩
    show Steps p.tables e below _ (((({ U with heap := s₂.heap, slotsUsed := s₂.slotsUsed } : State).setVm s₂.vm).setTop g).pushFrame (.throwing q))
    rw [← hs₂]
    exact hsteps
end Payer
section Calls
variable {p : Program} {l : Launch} {e : Env} {R : Room} {s : State} {m : MethodId} {args : Array Value} {below : List Frame} {meth : Method} {c : Code} {T : State} {locs : List Loc} {cells slots : Nat}
theorem vx_callV (X : Stand p l e R s m args below meth c T locs cells slots) (hexec : p.tables.exec = Jvm.exec) {own C : String} {index : Nat} {y : MethodName} {bytes : ByteArray} {maxL : Nat} {ret : Option FieldType}
    (hown : s.vm.findClass own = some m.cls) (hlink : (Cond.methodLink own index y).before args s = true) (hinst : (Cond.instanceMethod y).before args s = true) (hsel : (Cond.selects C y y).before args s = true)
    (hcode : (Cond.code y bytes maxL ret).before args s = true) (hy : y.cls ≠ "java/lang/invoke/MethodHandle" ∧ y.cls ≠ "java/lang/invoke/VarHandle")
    {W9 : Nat} {Pre : Pt → Array Value → Prop} {Post : Pt → Array Value → Option Value → Pt → Prop} {PostX : Pt → Array Value → Addr → Pt → Prop} (hK : vx_Back l R p e below s args y 3 W9 Pre Post PostX)
    {b : Addr} {cellB : Cell} (hcell : T.heap[b]? = some cellB) (hobj : cellB.vm.isStatics = false) (hcls : s.vm.findClass C = some cellB.cls)
    {g : JFrame} (hg : g.method = m) (hsize : g.locals.size = c.maxLocals) {argsL rest : List Value} (hlen : ∀ sig, parseMethodDescriptor y.desc = some sig → argsL.length = sig.parameters.length)
    (hstack : g.stack = argsL.reverse ++ .ref b :: rest) (hW : 2 * g.monitorRoom + (rest.map fun v => v.category).sum ≤ W9) (hdg : decode c.code g.pc = .ok (.invokevirtual index, 3))
    (hpre : ∀ vm₁, s.WarmedH vm₁ → Pre ⟨T.setVm vm₁, locs, cells, slots⟩ (Value.ref b :: argsL).toArray) :
    (∃ (v : Option Value) (vm₁ : Vm) (B : Pt), s.WarmedH vm₁ ∧ Stand p l e R s m args below meth c B.U B.locs B.cells B.slots ∧ Post ⟨T.setVm vm₁, locs, cells, slots⟩ (Value.ref b :: argsL).toArray v B ∧
      ∀ target, Steps p.tables e below (B.U.setTop { g with pc := g.pc + 3, stack := v.toList ++ rest }) target → Steps p.tables e below (T.setTop g) target) ∨
    (∃ (q : Addr) (vm₁ : Vm) (B : Pt), s.WarmedH vm₁ ∧ Stand p l e R s m args below meth c B.U B.locs B.cells B.slots ∧ PostX ⟨T.setVm vm₁, locs, cells, slots⟩ (Value.ref b :: argsL).toArray q B ∧
      Steps p.tables e below (T.setTop g) ((B.U.setTop { g with stack := rest }).pushFrame (.throwing q))) := by
  obtain ⟨mk, methM, hnamed, hmethM, hstM, habM⟩ := Cond.instanceMethod_spec hinst
  obtain ⟨methM', cM, hmethM', -, -, -, -, -, -, hsigM⟩ := Cond.code_spec hnamed hcode
  cases hmethM.symm.trans hmethM'
  obtain ⟨c2, r2, m2, q1, q2, q3, q4, kP, hkP, hkPi⟩ := Cond.selects_spec hsel
  cases hcls.symm.trans q1
  cases (State.methodFound?_of_named hnamed hy).symm.trans q2
  cases hnamed.symm.trans q3
  have hselP : selectMethod e.platform s.vm cellB.cls mk = .method mk := by rw [Launch.admits_selectMethod X.admits]; exact q4
  obtain ⟨vm₁, X₁, hstep₁⟩ := X.invokevirtual hexec hown hlink hnamed hmethM hstM hkP hkPi hy (a := b) (cell := cellB) hcell
    (fun z h => by rw [h] at hobj; cases hobj) hselP hmethM habM hkP hkPi (g := g) hg (argsL := argsL) (rest := rest) (hlen _ hsigM) hstack hdg
  rcases hK m meth c ⟨T.setVm vm₁, locs, cells, slots⟩ { g with stack := rest } (.invokevirtual index) mk (Value.ref b :: argsL).toArray X₁ hg hsize hdg hW (X₁.named hnamed) (hpre vm₁ X₁.warmed) with ⟨v, B, X', hpost, hsteps⟩ | ⟨q, B, X', hpost, hsteps⟩
  · exact Or.inl ⟨v, vm₁, B, X₁.warmed, X', hpost, fun target h => hstep₁ _ fun acts => by rw [doInvoke_state]; exact hsteps.trans h⟩
  · exact Or.inr ⟨q, vm₁, B, X₁.warmed, X', hpost, hstep₁ _ fun acts => by rw [doInvoke_state]; exact hsteps⟩
theorem vx_callS (X : Stand p l e R s m args below meth c T locs cells slots) (hexec : p.tables.exec = Jvm.exec) {own : String} {index : Nat} {y : MethodName} {bytes : ByteArray} {maxL : Nat} {ret : Option FieldType}
    (hown : s.vm.findClass own = some m.cls) (hlink : (Cond.methodLink own index y).before args s = true) (hstat : (Cond.static y).before args s = true) (hinit : (Cond.initialized y.cls).before args s = true)
    (hcode : (Cond.code y bytes maxL ret).before args s = true) (hy : y.cls ≠ "java/lang/invoke/MethodHandle" ∧ y.cls ≠ "java/lang/invoke/VarHandle")
    {W9 : Nat} {Pre : Pt → Array Value → Prop} {Post : Pt → Array Value → Option Value → Pt → Prop} {PostX : Pt → Array Value → Addr → Pt → Prop} (hK : vx_Back l R p e below s args y 3 W9 Pre Post PostX)
    {g : JFrame} (hg : g.method = m) (hsize : g.locals.size = c.maxLocals) {argsL rest : List Value} (hlen : ∀ sig, parseMethodDescriptor y.desc = some sig → argsL.length = sig.parameters.length)
    (hstack : g.stack = argsL.reverse ++ rest) (hW : 2 * g.monitorRoom + (rest.map fun v => v.category).sum ≤ W9) (hdg : decode c.code g.pc = .ok (.invokestatic index, 3))
    (hpre : ∀ vm₁, s.WarmedH vm₁ → Pre ⟨T.setVm vm₁, locs, cells, slots⟩ argsL.toArray) :
    (∃ (v : Option Value) (vm₁ : Vm) (B : Pt), s.WarmedH vm₁ ∧ Stand p l e R s m args below meth c B.U B.locs B.cells B.slots ∧ Post ⟨T.setVm vm₁, locs, cells, slots⟩ argsL.toArray v B ∧
      ∀ target, Steps p.tables e below (B.U.setTop { g with pc := g.pc + 3, stack := v.toList ++ rest }) target → Steps p.tables e below (T.setTop g) target) ∨
    (∃ (q : Addr) (vm₁ : Vm) (B : Pt), s.WarmedH vm₁ ∧ Stand p l e R s m args below meth c B.U B.locs B.cells B.slots ∧ PostX ⟨T.setVm vm₁, locs, cells, slots⟩ argsL.toArray q B ∧
      Steps p.tables e below (T.setTop g) ((B.U.setTop { g with stack := rest }).pushFrame (.throwing q))) := by
  obtain ⟨mk, hnamed⟩ := Cond.code_named hcode
  obtain ⟨methM, cM, hmethM, -, -, -, -, -, -, hsigM⟩ := Cond.code_spec hnamed hcode
  have hstatic : methM.isStatic = true := Cond.static_spec hnamed hmethM hstat
  obtain ⟨kP, hkP, -⟩ := className_of_methodNamed hnamed
  have hinitP : kP.init = .initialized := Cond.initialized_spec (findClass_of_methodNamed hnamed) hkP hinit
  obtain ⟨vm₁, X₁, hstep₁⟩ := X.invokestatic hexec hown hlink hnamed hmethM hstatic hkP hinitP hy (g := g) hg (argsL := argsL) (rest := rest) (hlen _ hsigM) hstack hdg
  rcases hK m meth c ⟨T.setVm vm₁, locs, cells, slots⟩ { g with stack := rest } (.invokestatic index) mk argsL.toArray X₁ hg hsize hdg hW (X₁.named hnamed) (hpre vm₁ X₁.warmed) with ⟨v, B, X', hpost, hsteps⟩ | ⟨q, B, X', hpost, hsteps⟩
  · exact Or.inl ⟨v, vm₁, B, X₁.warmed, X', hpost, fun target h => hstep₁ _ fun acts => by rw [doInvoke_state]; exact hsteps.trans h⟩
  · exact Or.inr ⟨q, vm₁, B, X₁.warmed, X', hpost, hstep₁ _ fun acts => by rw [doInvoke_state]; exact hsteps⟩
end Calls
theorem vx_cls {s : State} {T : State} {vm₁ : Vm} {E : String} {k : ClassId} (hW : s.WarmedH vm₁) (h : (T.setVm vm₁).vm.findClass E = some k) : s.vm.findClass E = some k := by
  have h1 : vm₁.findClass E = some k := h
  rw [hW.alike.findClass] at h1
  exact h1
/-- the method's frame g, with q thrown over it -/
def vx_W (p : Program) (l : Launch) (e : Env) (R : Room) (s : State) (m : MethodId) (args : Array Value) (below : List Frame) (meth : Method) (c : Code) (H : Heap) (locs : List Loc) (cells slots : Nat) (Q : State → Prop) (g : JFrame) (q : Addr) : Prop :=
  ∀ T : State, T.heap = H → Stand p l e R s m args below meth c T locs cells slots → ∃ t, Steps p.tables e below ((T.setTop g).pushFrame (.throwing q)) t ∧ Q t
def vx_Run (p : Program) (l : Launch) (e : Env) (R : Room) (s : State) (m : MethodId) (args : Array Value) (below : List Frame) (meth : Method) (c : Code) (H : Heap) (locs : List Loc) (cells slots mc ms : Nat) (g : JFrame) (rest : List Value) (Qa : State → Outcome → State → Prop) (XC : String → State → State → Prop) (free : Addr → Prop) : Prop :=
  ∀ T : State, T.heap = H → Stand p l e R s m args below meth c T locs cells slots →
    (∃ (v : Option Value) (st₀ t T' : State) (L : List Loc), st₀.heap = H ∧ Stand p l e R s m args below meth c T' (locs ++ L) (cells + mc) (slots + ms) ∧ (∀ q ∈ L, free q.base) ∧ T'.heap = t.heap ∧ T'.vm = t.vm ∧ Qa st₀ (.returned v) t ∧
      Goes p e below T g T' { g with pc := g.pc + 3, stack := v.toList ++ rest }) ∨
    (∃ (q : Addr) (st₀ t T' : State) (L : List Loc) (E : String) (ce : Cell), st₀.heap = H ∧ Stand p l e R s m args below meth c T' (locs ++ L) (cells + mc) (slots + ms) ∧ (∀ z ∈ L, free z.base) ∧ T'.heap = t.heap ∧ T'.vm = t.vm ∧ XC E st₀ t ∧ t.heap[q]? = some ce ∧ ce.vm = .none ∧ s.vm.findClass E = some ce.cls ∧
      Steps p.tables e below (T.setTop g) ((T'.setTop { g with stack := rest }).pushFrame (.throwing q)))
def vx_X {S : Type} (px : S → Prop) (B : String → S → State → Prop) (A : Nat → Prop) : String → State → State → Prop := fun E st t => ∃ u : S, px u ∧ B E u t ∧ va_F A st t
section Runs
variable {p : Program} {l : Launch} {e : Env} {R : Room} {s : State} {m : MethodId} {args : Array Value} {below : List Frame} {meth : Method} {c : Code} {H : Heap} {locs : List Loc} {cells slots : Nat}
variable {y : MethodName} {bytes cc : ByteArray} {maxL nL mc ms n index : Nat} {ret : Option FieldType} {ws : List Cond} {rm : Room} {Pc : Array Value → State → Prop} {Qc : Array Value → State → Outcome → State → Prop} {XC : String → State → State → Prop} {free : Addr → Prop} {Ts : List Cond} {own C : String} {b : Addr} {As rest : List Value} {g : JFrame}
theorem vx_callBack (cb : CallB R s args own index y bytes maxL ret ws rm mc ms n) (hM : vx_Met l y ws rm Pc Qc XC mc ms free) (hbl : FrameBlind Pc) : vx_Back l R p e below s args y 3 8 (PreOf R mc ms Pc) (PostOf Qc mc ms free) (vx_Post XC mc ms free) := by
  obtain ⟨hrc, hrs, hfr, hlo, hws, hcw, -, hini, -⟩ := cb
  exact vx_back (bytes := bytes) (maxL := maxL) (ret := ret) hM hbl hrc hrs hfr hlo hws hcw (fun a' U hW => word_at hW (Or.inl (by first | rfl | simp [Cond.onTables, Cond.keeps, Cond.steady])) hini)
theorem vx_runV (S : CallFix p m c cc nL s args Ts own) (hM : vx_Met l y ws rm Pc Qc XC mc ms free) (cw : CallW R s args own C index y bytes maxL ret ws rm mc ms n) (hp : PreV s H C b Pc As)
    (hg : g.method = m) (hn : As.length = n) (hsize : g.locals.size = nL) (hstack : g.stack = As.reverse ++ .ref b :: rest) (hW : 2 * g.monitorRoom + (rest.map fun v => v.category).sum ≤ 8) (hdg : decode cc g.pc = .ok (.invokevirtual index, 3)) (hf : cells + mc ≤ R.cells ∧ slots + ms ≤ R.slots) :
    vx_Run p l e R s m args below meth c H locs cells slots mc ms g rest (Qc (Value.ref b :: As).toArray) XC free := by
  have hK : vx_Back l R p e below s args y 3 8 (PreOf R mc ms Pc) (PostOf Qc mc ms free) (vx_Post XC mc ms free) := vx_callBack cw.1 hM hp.1
  obtain ⟨⟨-, -, -, -, -, -, hcode, -, hy, hlen, hl⟩, hin, hse⟩ := cw
  obtain ⟨hx, hb, hml, ho, -⟩ := S
  obtain ⟨-, ⟨cellB, hcB, hoB, hclB⟩, hPc⟩ := hp
  intro T hT X
  rcases vx_callV X hx (C := C) (bytes := bytes) (maxL := maxL) (ret := ret) ho hl hin hse hcode hy hK (by rw [hT]; exact hcB) hoB hclB hg (hsize.trans hml.symm) (argsL := As) (rest := rest) (fun sig h => hn.trans (hlen sig h)) hstack hW (by rw [hb]; exact hdg)
    (fun vm₁ hW₁ => ⟨hf.1, hf.2, hPc (T.setVm vm₁) hT hW₁⟩) with ⟨v, vm₁, ⟨U', l2, c2, s2⟩, hW₁, X', ⟨g', mk, t, L, e1, e2, hq, h1, hL, h2, h3⟩, st⟩ | ⟨q, vm₁, ⟨U', l2, c2, s2⟩, hW₁, X', ⟨g', mk, t, L, E, ce, e1, e2, hq, hce, hcv, hcl, h1, hL, h2, h3⟩, st⟩
  · dsimp only [Pt.U, Pt.locs, Pt.cells, Pt.slots] at X' e1 e2 h1 h2 h3 st
    subst h1; subst h2; subst h3
    exact Or.inl ⟨v, (T.setVm vm₁).calling g' mk (Value.ref b :: As).toArray, t, U', L, hT, X', hL, e1, e2, hq, st⟩
  · dsimp only [Pt.U, Pt.locs, Pt.cells, Pt.slots] at X' e1 e2 h1 h2 h3 st hcl
    subst h1; subst h2; subst h3
    exact Or.inr ⟨q, (T.setVm vm₁).calling g' mk (Value.ref b :: As).toArray, t, U', L, E, ce, hT, X', hL, e1, e2, hq, hce, hcv, vx_cls hW₁ hcl, st⟩
theorem vx_runS (S : CallFix p m c cc nL s args Ts own) (hM : vx_Met l y ws rm Pc Qc XC mc ms free) (cw : CallB R s args own index y bytes maxL ret ws rm mc ms n ∧ (Cond.static y).before args s = true) (hp : PreS s H Pc As)
    (hg : g.method = m) (hn : As.length = n) (hsize : g.locals.size = nL) (hstack : g.stack = As.reverse ++ rest) (hW : 2 * g.monitorRoom + (rest.map fun v => v.category).sum ≤ 8) (hdg : decode cc g.pc = .ok (.invokestatic index, 3)) (hf : cells + mc ≤ R.cells ∧ slots + ms ≤ R.slots) :
    vx_Run p l e R s m args below meth c H locs cells slots mc ms g rest (Qc As.toArray) XC free := by
  have hK : vx_Back l R p e below s args y 3 8 (PreOf R mc ms Pc) (PostOf Qc mc ms free) (vx_Post XC mc ms free) := vx_callBack cw.1 hM hp.1
  obtain ⟨⟨-, -, -, -, -, -, hcode, hini, hy, hlen, hl⟩, hstt⟩ := cw
  obtain ⟨hx, hb, hml, ho, -⟩ := S
  intro T hT X
  rcases vx_callS X hx (bytes := bytes) (maxL := maxL) (ret := ret) ho hl hstt hini hcode hy hK hg (hsize.trans hml.symm) (argsL := As) (rest := rest) (fun sig h => hn.trans (hlen sig h)) hstack hW (by rw [hb]; exact hdg)
    (fun vm₁ hW₁ => ⟨hf.1, hf.2, hp.2 (T.setVm vm₁) hT hW₁⟩) with ⟨v, vm₁, ⟨U', l2, c2, s2⟩, hW₁, X', ⟨g', mk, t, L, e1, e2, hq, h1, hL, h2, h3⟩, st⟩ | ⟨q, vm₁, ⟨U', l2, c2, s2⟩, hW₁, X', ⟨g', mk, t, L, E, ce, e1, e2, hq, hce, hcv, hcl, h1, hL, h2, h3⟩, st⟩
  · dsimp only [Pt.U, Pt.locs, Pt.cells, Pt.slots] at X' e1 e2 h1 h2 h3 st
    subst h1; subst h2; subst h3
    exact Or.inl ⟨v, (T.setVm vm₁).calling g' mk As.toArray, t, U', L, hT, X', hL, e1, e2, hq, st⟩
  · dsimp only [Pt.U, Pt.locs, Pt.cells, Pt.slots] at X' e1 e2 h1 h2 h3 st hcl
    subst h1; subst h2; subst h3
    exact Or.inr ⟨q, (T.setVm vm₁).calling g' mk As.toArray, t, U', L, E, ce, hT, X', hL, e1, e2, hq, hce, hcv, vx_cls hW₁ hcl, st⟩
end Runs
section Rows
variable {p : Program} {l : Launch} {e : Env} {R : Room} {s : State} {m : MethodId} {args : Array Value} {below : List Frame} {meth : Method} {c : Code} {H : Heap} {locs : List Loc} {cells slots : Nat} {Q : State → Prop}
variable {mc ms : Nat} {free : Addr → Prop} {A0 A1 : Nat → Prop} {H0 : Heap} {a : Array Value} {pc : Nat} {ls : Array Slot} {st0 rest : List Value}
theorem vx_keep {st₀ t T' : State} {L : List Loc} (h0 : st₀.heap = H) (e1 : T'.heap = t.heap) (hS : va_S A0 H0 H locs) (hA : ∀ q, q < H.size → A1 q → A0 q) (hf : ∀ q, free q → A0 q) (hL : ∀ q ∈ L, free q.base) (hF : va_F A1 st₀ t) :
    H.size ≤ T'.heap.size ∧ (∀ q : Nat, q < H.size → ¬ A1 q → T'.heap[q]? = H[q]?) ∧ va_S A0 H0 T'.heap (locs ++ L) := by
  obtain ⟨hz, hk⟩ := hF
  rw [h0] at hz hk
  exact ⟨by rw [e1]; exact hz, fun q h1 h2 => by rw [e1]; exact hk q h1 h2,
    ⟨Nat.le_trans hS.1 (by rw [e1]; exact hz), fun q h1 h2 => by rw [e1, hk q (Nat.lt_of_lt_of_le h1 hS.1) (fun z => h2 (hA q (Nat.lt_of_lt_of_le h1 hS.1) z))]; exact hS.2.1 q h1 h2, fun q hq => by
      rcases List.mem_append.mp hq with h | h
      · exact hS.2.2 q h
      · exact hf _ (hL q h)⟩⟩
theorem vx_calli {S SX : Type} {post : Int32 → S → Prop} {px : SX → Prop} {B : S → State → Prop} {BX : String → SX → State → Prop} {AX : Nat → Prop} (hr : vx_Run p l e R s m args below meth c H locs cells slots mc ms (F0 m pc ls st0) rest (va_Qi post B A1 a) (vx_X px BX AX) free) (hS : va_S A0 H0 H locs) (hA : ∀ q, q < H.size → A1 q → A0 q) (hf : ∀ q, free q → A0 q) (hAX : ∀ q, q < H.size → AX q → A0 q)
    (kx : ∀ (E : String) (ce : Cell) (q9 : Addr) (u : SX) (t : State) (H1 : Heap) (locs1 : List Loc), t.heap = H1 → s.vm.Alike t.vm → px u → BX E u t → H.size ≤ H1.size → (∀ q : Nat, q < H.size → ¬ AX q → H1[q]? = H[q]?) → va_S A0 H0 H1 locs1 → H1[q9]? = some ce → ce.vm = .none → s.vm.findClass E = some ce.cls → vx_W p l e R s m args below meth c H1 locs1 (cells + mc) (slots + ms) Q (F0 m pc ls rest) q9)
    (kk : ∀ (r : Int32) (u : S) (t : State) (H1 : Heap) (locs1 : List Loc), t.heap = H1 → s.vm.Alike t.vm → post r u → B u t → H.size ≤ H1.size → (∀ q : Nat, q < H.size → ¬ A1 q → H1[q]? = H[q]?) → va_S A0 H0 H1 locs1 → W p l e R s m args below meth c H1 locs1 (cells + mc) (slots + ms) Q (F0 m (pc + 3) ls (.int r :: rest))) : W p l e R s m args below meth c H locs cells slots Q (F0 m pc ls st0) := by
  intro T hT X
  rcases hr T hT X with ⟨v, st₀, t, T', L, h0, X', hL, e1, e2, ⟨⟨r, u, hv, hp, hb⟩, hF⟩, st⟩ | ⟨q, st₀, t, T', L, E, ce, h0, X', hL, e1, e2, ⟨u, hp, hb, hF⟩, hce, hcv, hcl, st⟩
  · cases hv
    obtain ⟨k1, k2, k3⟩ := vx_keep h0 e1 hS hA hf hL hF
    obtain ⟨t2, a1, b1⟩ := kk r u t T'.heap (locs ++ L) e1.symm (by rw [← e2]; exact X'.warmed.alike) hp hb k1 k2 k3 T' rfl X'
    exact ⟨t2, st t2 a1, b1⟩
  · obtain ⟨k1, k2, k3⟩ := vx_keep h0 e1 hS hAX hf hL hF
    obtain ⟨t2, a1, b1⟩ := kx E ce q u t T'.heap (locs ++ L) e1.symm (by rw [← e2]; exact X'.warmed.alike) hp hb k1 k2 k3 (by rw [e1]; exact hce) hcv hcl T' rfl X'
    exact ⟨t2, st.trans a1, b1⟩
theorem vx_calll {S SX : Type} {post : Int64 → S → Prop} {px : SX → Prop} {B : S → State → Prop} {BX : String → SX → State → Prop} {AX : Nat → Prop} (hr : vx_Run p l e R s m args below meth c H locs cells slots mc ms (F0 m pc ls st0) rest (va_Ql post B A1 a) (vx_X px BX AX) free) (hS : va_S A0 H0 H locs) (hA : ∀ q, q < H.size → A1 q → A0 q) (hf : ∀ q, free q → A0 q) (hAX : ∀ q, q < H.size → AX q → A0 q)
    (kx : ∀ (E : String) (ce : Cell) (q9 : Addr) (u : SX) (t : State) (H1 : Heap) (locs1 : List Loc), t.heap = H1 → s.vm.Alike t.vm → px u → BX E u t → H.size ≤ H1.size → (∀ q : Nat, q < H.size → ¬ AX q → H1[q]? = H[q]?) → va_S A0 H0 H1 locs1 → H1[q9]? = some ce → ce.vm = .none → s.vm.findClass E = some ce.cls → vx_W p l e R s m args below meth c H1 locs1 (cells + mc) (slots + ms) Q (F0 m pc ls rest) q9)
    (kk : ∀ (r : Int64) (u : S) (t : State) (H1 : Heap) (locs1 : List Loc), t.heap = H1 → s.vm.Alike t.vm → post r u → B u t → H.size ≤ H1.size → (∀ q : Nat, q < H.size → ¬ A1 q → H1[q]? = H[q]?) → va_S A0 H0 H1 locs1 → W p l e R s m args below meth c H1 locs1 (cells + mc) (slots + ms) Q (F0 m (pc + 3) ls (.long r :: rest))) : W p l e R s m args below meth c H locs cells slots Q (F0 m pc ls st0) := by
  intro T hT X
  rcases hr T hT X with ⟨v, st₀, t, T', L, h0, X', hL, e1, e2, ⟨⟨r, u, hv, hp, hb⟩, hF⟩, st⟩ | ⟨q, st₀, t, T', L, E, ce, h0, X', hL, e1, e2, ⟨u, hp, hb, hF⟩, hce, hcv, hcl, st⟩
  · cases hv
    obtain ⟨k1, k2, k3⟩ := vx_keep h0 e1 hS hA hf hL hF
    obtain ⟨t2, a1, b1⟩ := kk r u t T'.heap (locs ++ L) e1.symm (by rw [← e2]; exact X'.warmed.alike) hp hb k1 k2 k3 T' rfl X'
    exact ⟨t2, st t2 a1, b1⟩
  · obtain ⟨k1, k2, k3⟩ := vx_keep h0 e1 hS hAX hf hL hF
    obtain ⟨t2, a1, b1⟩ := kx E ce q u t T'.heap (locs ++ L) e1.symm (by rw [← e2]; exact X'.warmed.alike) hp hb k1 k2 k3 (by rw [e1]; exact hce) hcv hcl T' rfl X'
    exact ⟨t2, st.trans a1, b1⟩
theorem vx_callf {S SX : Type} {post : UInt32 → S → Prop} {px : SX → Prop} {B : S → State → Prop} {BX : String → SX → State → Prop} {AX : Nat → Prop} (hr : vx_Run p l e R s m args below meth c H locs cells slots mc ms (F0 m pc ls st0) rest (va_Qf post B A1 a) (vx_X px BX AX) free) (hS : va_S A0 H0 H locs) (hA : ∀ q, q < H.size → A1 q → A0 q) (hf : ∀ q, free q → A0 q) (hAX : ∀ q, q < H.size → AX q → A0 q)
    (kx : ∀ (E : String) (ce : Cell) (q9 : Addr) (u : SX) (t : State) (H1 : Heap) (locs1 : List Loc), t.heap = H1 → s.vm.Alike t.vm → px u → BX E u t → H.size ≤ H1.size → (∀ q : Nat, q < H.size → ¬ AX q → H1[q]? = H[q]?) → va_S A0 H0 H1 locs1 → H1[q9]? = some ce → ce.vm = .none → s.vm.findClass E = some ce.cls → vx_W p l e R s m args below meth c H1 locs1 (cells + mc) (slots + ms) Q (F0 m pc ls rest) q9)
    (kk : ∀ (r : UInt32) (u : S) (t : State) (H1 : Heap) (locs1 : List Loc), t.heap = H1 → s.vm.Alike t.vm → post r u → B u t → H.size ≤ H1.size → (∀ q : Nat, q < H.size → ¬ A1 q → H1[q]? = H[q]?) → va_S A0 H0 H1 locs1 → W p l e R s m args below meth c H1 locs1 (cells + mc) (slots + ms) Q (F0 m (pc + 3) ls (.float r :: rest))) : W p l e R s m args below meth c H locs cells slots Q (F0 m pc ls st0) := by
  intro T hT X
  rcases hr T hT X with ⟨v, st₀, t, T', L, h0, X', hL, e1, e2, ⟨⟨r, u, hv, hp, hb⟩, hF⟩, st⟩ | ⟨q, st₀, t, T', L, E, ce, h0, X', hL, e1, e2, ⟨u, hp, hb, hF⟩, hce, hcv, hcl, st⟩
  · cases hv
    obtain ⟨k1, k2, k3⟩ := vx_keep h0 e1 hS hA hf hL hF
    obtain ⟨t2, a1, b1⟩ := kk r u t T'.heap (locs ++ L) e1.symm (by rw [← e2]; exact X'.warmed.alike) hp hb k1 k2 k3 T' rfl X'
    exact ⟨t2, st t2 a1, b1⟩
  · obtain ⟨k1, k2, k3⟩ := vx_keep h0 e1 hS hAX hf hL hF
    obtain ⟨t2, a1, b1⟩ := kx E ce q u t T'.heap (locs ++ L) e1.symm (by rw [← e2]; exact X'.warmed.alike) hp hb k1 k2 k3 (by rw [e1]; exact hce) hcv hcl T' rfl X'
    exact ⟨t2, st.trans a1, b1⟩
theorem vx_calld {S SX : Type} {post : UInt64 → S → Prop} {px : SX → Prop} {B : S → State → Prop} {BX : String → SX → State → Prop} {AX : Nat → Prop} (hr : vx_Run p l e R s m args below meth c H locs cells slots mc ms (F0 m pc ls st0) rest (va_Qd post B A1 a) (vx_X px BX AX) free) (hS : va_S A0 H0 H locs) (hA : ∀ q, q < H.size → A1 q → A0 q) (hf : ∀ q, free q → A0 q) (hAX : ∀ q, q < H.size → AX q → A0 q)
    (kx : ∀ (E : String) (ce : Cell) (q9 : Addr) (u : SX) (t : State) (H1 : Heap) (locs1 : List Loc), t.heap = H1 → s.vm.Alike t.vm → px u → BX E u t → H.size ≤ H1.size → (∀ q : Nat, q < H.size → ¬ AX q → H1[q]? = H[q]?) → va_S A0 H0 H1 locs1 → H1[q9]? = some ce → ce.vm = .none → s.vm.findClass E = some ce.cls → vx_W p l e R s m args below meth c H1 locs1 (cells + mc) (slots + ms) Q (F0 m pc ls rest) q9)
    (kk : ∀ (r : UInt64) (u : S) (t : State) (H1 : Heap) (locs1 : List Loc), t.heap = H1 → s.vm.Alike t.vm → post r u → B u t → H.size ≤ H1.size → (∀ q : Nat, q < H.size → ¬ A1 q → H1[q]? = H[q]?) → va_S A0 H0 H1 locs1 → W p l e R s m args below meth c H1 locs1 (cells + mc) (slots + ms) Q (F0 m (pc + 3) ls (.double r :: rest))) : W p l e R s m args below meth c H locs cells slots Q (F0 m pc ls st0) := by
  intro T hT X
  rcases hr T hT X with ⟨v, st₀, t, T', L, h0, X', hL, e1, e2, ⟨⟨r, u, hv, hp, hb⟩, hF⟩, st⟩ | ⟨q, st₀, t, T', L, E, ce, h0, X', hL, e1, e2, ⟨u, hp, hb, hF⟩, hce, hcv, hcl, st⟩
  · cases hv
    obtain ⟨k1, k2, k3⟩ := vx_keep h0 e1 hS hA hf hL hF
    obtain ⟨t2, a1, b1⟩ := kk r u t T'.heap (locs ++ L) e1.symm (by rw [← e2]; exact X'.warmed.alike) hp hb k1 k2 k3 T' rfl X'
    exact ⟨t2, st t2 a1, b1⟩
  · obtain ⟨k1, k2, k3⟩ := vx_keep h0 e1 hS hAX hf hL hF
    obtain ⟨t2, a1, b1⟩ := kx E ce q u t T'.heap (locs ++ L) e1.symm (by rw [← e2]; exact X'.warmed.alike) hp hb k1 k2 k3 (by rw [e1]; exact hce) hcv hcl T' rfl X'
    exact ⟨t2, st.trans a1, b1⟩
theorem vx_callv {S SX : Type} {post : S → Prop} {px : SX → Prop} {B : S → State → Prop} {BX : String → SX → State → Prop} {AX : Nat → Prop} (hr : vx_Run p l e R s m args below meth c H locs cells slots mc ms (F0 m pc ls st0) rest (va_Qv post B A1 a) (vx_X px BX AX) free) (hS : va_S A0 H0 H locs) (hA : ∀ q, q < H.size → A1 q → A0 q) (hf : ∀ q, free q → A0 q) (hAX : ∀ q, q < H.size → AX q → A0 q)
    (kx : ∀ (E : String) (ce : Cell) (q9 : Addr) (u : SX) (t : State) (H1 : Heap) (locs1 : List Loc), t.heap = H1 → s.vm.Alike t.vm → px u → BX E u t → H.size ≤ H1.size → (∀ q : Nat, q < H.size → ¬ AX q → H1[q]? = H[q]?) → va_S A0 H0 H1 locs1 → H1[q9]? = some ce → ce.vm = .none → s.vm.findClass E = some ce.cls → vx_W p l e R s m args below meth c H1 locs1 (cells + mc) (slots + ms) Q (F0 m pc ls rest) q9)
    (kk : ∀ (u : S) (t : State) (H1 : Heap) (locs1 : List Loc), t.heap = H1 → s.vm.Alike t.vm → post u → B u t → H.size ≤ H1.size → (∀ q : Nat, q < H.size → ¬ A1 q → H1[q]? = H[q]?) → va_S A0 H0 H1 locs1 → W p l e R s m args below meth c H1 locs1 (cells + mc) (slots + ms) Q (F0 m (pc + 3) ls (rest))) : W p l e R s m args below meth c H locs cells slots Q (F0 m pc ls st0) := by
  intro T hT X
  rcases hr T hT X with ⟨v, st₀, t, T', L, h0, X', hL, e1, e2, ⟨⟨u, hv, hp, hb⟩, hF⟩, st⟩ | ⟨q, st₀, t, T', L, E, ce, h0, X', hL, e1, e2, ⟨u, hp, hb, hF⟩, hce, hcv, hcl, st⟩
  · cases hv
    obtain ⟨k1, k2, k3⟩ := vx_keep h0 e1 hS hA hf hL hF
    obtain ⟨t2, a1, b1⟩ := kk u t T'.heap (locs ++ L) e1.symm (by rw [← e2]; exact X'.warmed.alike) hp hb k1 k2 k3 T' rfl X'
    exact ⟨t2, st t2 a1, b1⟩
  · obtain ⟨k1, k2, k3⟩ := vx_keep h0 e1 hS hAX hf hL hF
    obtain ⟨t2, a1, b1⟩ := kx E ce q u t T'.heap (locs ++ L) e1.symm (by rw [← e2]; exact X'.warmed.alike) hp hb k1 k2 k3 (by rw [e1]; exact hce) hcv hcl T' rfl X'
    exact ⟨t2, st.trans a1, b1⟩
/-- caught by the row x of this method's table; the rows ahead don't take it -/
theorem vx_catch {own name : String} {E : String} {ce : Cell} {q : Addr} (hown : s.vm.findClass own = some m.cls) (pre : List ExceptionTableEntry) (x : ExceptionTableEntry) (suf : List ExceptionTableEntry) (hsplit : c.exceptionTable.toList = pre ++ x :: suf)
    (hpass : ∀ z ∈ pre, covers z pc = false ∨ (z.catchType ≠ 0 ∧ ∃ nm : String, (Cond.classLink own z.catchType nm).before args s = true ∧ va_Nc E nm s)) (hx : covers x pc = true) (h0 : x.catchType ≠ 0)
    (hlink : (Cond.classLink own x.catchType name).before args s = true) (hcast : (Cond.castable E name).before args s = true) (hcell : H[q]? = some ce) (hv : ce.vm = .none) (hcl : s.vm.findClass E = some ce.cls)
    (kk : W p l e R s m args below meth c H locs cells slots Q (F0 m x.handlerPc ls [.ref q])) : vx_W p l e R s m args below meth c H locs cells slots Q (F0 m pc ls rest) q := by
  intro T hT X
  have hpl : e.platform.magicAccessors = ({} : Platform).magicAccessors := by rw [X.admits.platform]
  obtain ⟨c3, c4, hc3, hc4, hasg⟩ := Cond.castable_spec hcast
  cases Option.some.inj (hc3.symm.trans hcl)
  obtain ⟨c5, hc5, hcl5⟩ := Cond.classLink_spec hown hlink e.platform hpl
  cases Option.some.inj (hc4.symm.trans hc5)
  obtain ⟨vm', X', st⟩ := X.thenCaughtThrough q (g := F0 m pc ls rest) rfl (Steps.refl _) (by rw [hT]; exact hcell) (by rw [hv]; rfl) (by obtain ⟨k9, h9, -⟩ := Vm.findClass_spec hcl; exact ⟨k9, h9⟩) pre x suf hsplit
    (fun z hz => by
      rcases hpass z hz with h | ⟨hz0, nm, hl1, hn1⟩
      · exact Or.inl h
      · obtain ⟨c6, hc6, hcl6⟩ := Cond.classLink_spec hown hl1 e.platform hpl
        obtain ⟨a8, b8, h1, h2, h3⟩ := hn1
        cases Option.some.inj (h1.symm.trans hcl)
        cases Option.some.inj (h2.symm.trans hc6)
        exact Or.inr ⟨hz0, _, hcl6, h3⟩) hx (Or.inr ⟨h0, c4, hcl5, hasg⟩)
  obtain ⟨t, a1, b1⟩ := kk (T.setVm vm') hT X'
  exact ⟨t, st.trans a1, b1⟩
end Rows
section Ends
variable {p : Program} {l : Launch} {e : Env} {R : Room} {s : State} {m : MethodId} {args : Array Value} {below : List Frame} {meth : Method} {c : Code} {H : Heap} {locs : List Loc} {cells slots : Nat} {Q : State → Prop}
variable {mc ms : Nat} {free : Addr → Prop} {A0 A1 : Nat → Prop} {H0 : Heap} {a : Array Value} {ls : Array Slot} {st0 rest : List Value}
variable {Qc : Array Value → State → Outcome → State → Prop} {XC : String → State → State → Prop}
/-- what a body that may throw owes at its end -/
def vx_MQ (below : List Frame) (Qc : Array Value → State → Outcome → State → Prop) (XC : String → State → State → Prop) (a : Array Value) (s : State) (mc ms : Nat) (free : Addr → Prop) : State → Prop := fun t =>
  ∃ o, t.status = .running ∧ Ended t below o ∧ vx_Q Qc XC mc ms free a s o t
theorem vx_ret {g : JFrame} {mc ms : Nat} (k : W p l e R s m args below meth c H locs cells slots (MQ below Qc args s mc ms free) g) : W p l e R s m args below meth c H locs cells slots (vx_MQ below Qc XC args s mc ms free) g := by
  intro T hT X
  obtain ⟨t, a1, o, b1, b2, b3, b4⟩ := k T hT X
  exact ⟨t, a1, o, b1, b2, Or.inl ⟨b3, b4⟩⟩
/-- not caught here: it goes on to the caller -/
theorem vx_widen {g : JFrame} {q : Addr} {k n : Nat} (h1 : cells ≤ k) (h2 : slots ≤ n) (kk : vx_W p l e R s m args below meth c H locs k n Q g q) : vx_W p l e R s m args below meth c H locs cells slots Q g q := fun T hT X => kk T hT (stand_widen X h1 h2)
theorem vx_out {pc : Nat} {E : String} {ce : Cell} {q : Addr} {mc ms : Nat} (hout : ∀ x ∈ c.exceptionTable.toList, covers x pc = false) (hlocks : meth.locks = false) (hcell : H[q]? = some ce) (hv : ce.vm = .none) (hcl : s.vm.findClass E = some ce.cls)
    (hx : ∀ t : State, t.heap = H → s.vm.Alike t.vm → XC E s t) (hf : ∀ z ∈ locs, free z.base) (hc : cells ≤ mc) (hs : slots ≤ ms) :
    vx_W p l e R s m args below meth c H locs cells slots (vx_MQ below Qc XC args s mc ms free) (F0 m pc ls rest) q := by
  intro T hT X
  obtain ⟨st1, hrun, hend, hW, hsm⟩ := X.leaveThrown q (g := F0 m pc ls rest) rfl rfl rfl hout hlocks
  have hcell9 : (T.setFrames (.throwing q :: below)).heap[q]? = some ce := by
    show T.heap[q]? = some ce
    rw [hT]; exact hcell
  exact ⟨_, st1, .threw q, hrun, hend, Or.inr ⟨q, rfl, E, ce, locs, hx _ hT hW.alike, hcell9, hv, hcl, hW, hsm.mono hc hs, hf⟩⟩
theorem vx_frame {U : State} {k n : Nat} (h : s.sameButNew ({ U with vm := s.vm } : State) locs k n) : s.heap.size ≤ U.heap.size ∧ ∀ q : Nat, q < s.heap.size → (∀ z ∈ locs, z.base ≠ q) → U.heap[q]? = s.heap[q]? := by
  obtain ⟨-, h2, -, -, -, h6⟩ := h
  refine ⟨h2, fun q hq hz => ?_⟩
  obtain ⟨c9, e1, e2, e3, e4⟩ := h6 q _ (Array.getElem?_eq_getElem hq)
  have hs : c9.slots = (s.heap[q]).slots := Array.ext_getElem? fun i => e4 i fun hm => hz _ hm rfl
  have h9 : c9 = s.heap[q] := by
    rw [hs] at e2
    exact e2
  have e5 : U.heap[q]? = some c9 := e1
  rw [e5, h9, Array.getElem?_eq_getElem hq]
/-- the words of a throw but the four that speak of the heap -/
def vx_no (w : Cond) : Bool := decide (w ≠ .isRef (.static Bundle.tN "UNASSIGNED_STACK" Bundle.steD)) && decide (w ≠ .isRef (.static Bundle.tN "SUPPRESSED_SENTINEL" Bundle.listD)) && decide (w ≠ .laysStatic Bundle.tN "UNASSIGNED_STACK" Bundle.steD) && decide (w ≠ .laysStatic Bundle.tN "SUPPRESSED_SENTINEL" Bundle.listD)
def vx_at0 (own : String) (ic : Nat) (X : String) (names : List String) : List Cond := (Bundle.ownAtoms0 own ic X names).filter vx_no
def vx_atS (own : String) (ic : Nat) (X : String) (names : List String) : List Cond := (Bundle.ownAtoms own ic X names).filter vx_no
/-- a word that the tables alone decide, or a good one -/
def vx_ot (w : Cond) : Bool := w.onTables || goodWord w
theorem vx_ot_at {args a' : Array Value} {s U : State} {w : Cond} (hW : s.WarmedH U.vm) (hvm : s.vm = U.vm) (hg : vx_ot w = true) (h : w.before args s = true) : w.before a' U = true := by
  simp only [vx_ot, Bool.or_eq_true] at hg
  rcases hg with hg | hg
  · exact va_tabs hg hvm h
  · exact word_at hW (good_of_word hg) h
/-- a list's words: the good ones out of the method's own list, the others by premises of their own -/
theorem vx_hat {args : Array Value} {s : State} {L B : List Cond} (h1 : ∀ w ∈ L.filter goodWord, w.before args s = true) (h2 : ∀ w ∈ L.filter (fun w => !goodWord w), w ∈ B) (h3 : ∀ w ∈ B, w.before args s = true) : ∀ w ∈ L, w.before args s = true := by
  intro w hw
  by_cases g : goodWord w = true
  · exact h1 w (List.mem_filter.mpr ⟨hw, g⟩)
  · refine h3 w (h2 w (List.mem_filter.mpr ⟨hw, ?_⟩))
    show (!goodWord w) = true
    cases hgw : goodWord w
    · rfl
    · exact absurd hgw g
theorem vx_c {args : Array Value} {s : State} {w : Cond} {B : List Cond} (h : w.before args s = true) (t : ∀ w ∈ B, w.before args s = true) : ∀ w' ∈ w :: B, w'.before args s = true := fun w' h' => (List.mem_cons.mp h').elim (fun e => by rw [e]; exact h) (t w')
theorem vx_n {args : Array Value} {s : State} : ∀ w ∈ ([] : List Cond), w.before args s = true := fun _ h => nomatch h
theorem vx_own {args : Array Value} {s : State} {L : List Cond} (h1 : ∀ w ∈ L.filter vx_no, w.before args s = true)
    (hU : (Cond.isRef (.static Bundle.tN "UNASSIGNED_STACK" Bundle.steD)).before args s = true) (hN : (Cond.isRef (.static Bundle.tN "SUPPRESSED_SENTINEL" Bundle.listD)).before args s = true)
    (lU : (Cond.laysStatic Bundle.tN "UNASSIGNED_STACK" Bundle.steD).before args s = true) (lN : (Cond.laysStatic Bundle.tN "SUPPRESSED_SENTINEL" Bundle.listD).before args s = true) : ∀ w ∈ L, w.before args s = true := by
  intro w hw
  by_cases e1 : w = .isRef (.static Bundle.tN "UNASSIGNED_STACK" Bundle.steD)
  · rw [e1]; exact hU
  · by_cases e2 : w = .isRef (.static Bundle.tN "SUPPRESSED_SENTINEL" Bundle.listD)
    · rw [e2]; exact hN
    · by_cases e3 : w = .laysStatic Bundle.tN "UNASSIGNED_STACK" Bundle.steD
      · rw [e3]; exact lU
      · by_cases e4 : w = .laysStatic Bundle.tN "SUPPRESSED_SENTINEL" Bundle.listD
        · rw [e4]; exact lN
        · exact h1 w (List.mem_filter.mpr ⟨hw, by unfold vx_no; rw [decide_eq_true e1, decide_eq_true e2, decide_eq_true e3, decide_eq_true e4]; rfl⟩)
/-- where a static field lies, its class's statics cell in H -/
def vx_L (C n d : String) (A : Nat → Prop) (U : State) (H : Heap) : Prop := ∃ (c : ClassId) (k : Class) (i : Nat) (f : Field) (a : Nat) (cell : Cell), U.vm.findClass C = some c ∧ U.fieldFound? C n d = some (c, k, i, f) ∧ f.isStatic = true ∧ k.statics = some a ∧ H[a]? = some cell ∧ cell.vm.isStatics = true ∧ cell.cls = c ∧ f.slot < cell.slots.size ∧ k.staticTypes[f.slot]? = some f.type ∧ ¬ A a
theorem vx_L.moved {C n d : String} {A : Nat → Prop} {u U : State} {H : Heap} (hvm : u.vm.Alike U.vm) (h : vx_L C n d A u H) : vx_L C n d A U H := by
  obtain ⟨c, k, i, f, a, cell, h1, h2, h3, h4, h5, h6, h7, h8, h9, h10⟩ := h
  obtain ⟨k', hi', he⟩ := State.fieldFound?_setVm hvm h2
  exact ⟨c, k', i, f, a, cell, by rw [hvm.findClass]; exact h1, hi', h3, by rw [he]; exact h4, h5, h6, h7, h8, by rw [he]; exact h9, h10⟩
theorem vx_L.kept {C n d : String} {A : Nat → Prop} {U : State} {H H1 : Heap} (h : vx_L C n d A U H) (hq : ∀ a : Nat, a < H.size → ¬ A a → H1[a]? = H[a]?) : vx_L C n d A U H1 := by
  obtain ⟨c, k, i, f, a, cell, h1, h2, h3, h4, h5, h6, h7, h8, h9, h10⟩ := h
  exact ⟨c, k, i, f, a, cell, h1, h2, h3, h4, by rw [hq a (Array.getElem?_eq_some_iff.mp h5).1 h10]; exact h5, h6, h7, h8, h9, h10⟩
theorem vx_L.narrow {C n d : String} {A B : Nat → Prop} {U : State} {H : Heap} (h : vx_L C n d A U H) (hAB : ∀ q, B q → A q) : vx_L C n d B U H := by
  obtain ⟨c, k, i, f, a, cell, h1, h2, h3, h4, h5, h6, h7, h8, h9, h10⟩ := h
  exact ⟨c, k, i, f, a, cell, h1, h2, h3, h4, h5, h6, h7, h8, h9, fun z => h10 (hAB _ z)⟩
theorem vx_L.word {C n d : String} {A : Nat → Prop} {s : State} {args : Array Value} (h : vx_L C n d A s s.heap) : (Cond.laysStatic C n d).before args s = true := by
  obtain ⟨c, k, i, f, a, cell, h1, h2, h3, h4, h5, h6, h7, h8, h9, -⟩ := h
  show (Cond.laysStatic C n d).holds args s none s [] = true
  exact Cond.laysStatic_of h1 h2 h3 h4 h5 h6 h7 h8 h9
/-- .. and what it holds: null or some reference -/
def vx_Zq (C n d : String) (A : Nat → Prop) (U : State) (H : Heap) : Prop := va_Zq C n d A U H ∧ vx_L C n d A U H
theorem vx_Zq.moved {C n d : String} {A : Nat → Prop} {u U : State} {H : Heap} (hvm : u.vm.Alike U.vm) (h : vx_Zq C n d A u H) : vx_Zq C n d A U H := ⟨va_Zq.moved hvm h.1, vx_L.moved hvm h.2⟩
theorem vx_Zq.kept {C n d : String} {A : Nat → Prop} {U : State} {H H1 : Heap} (h : vx_Zq C n d A U H) (hq : ∀ a : Nat, a < H.size → ¬ A a → H1[a]? = H[a]?) : vx_Zq C n d A U H1 := ⟨va_Zq.kept h.1 hq, vx_L.kept h.2 hq⟩
theorem vx_Zq.narrow {C n d : String} {A B : Nat → Prop} {U : State} {H : Heap} (h : vx_Zq C n d A U H) (hAB : ∀ q, B q → A q) : vx_Zq C n d B U H := ⟨va_Zq.narrow h.1 hAB, vx_L.narrow h.2 hAB⟩
theorem vx_Zqof {args : Array Value} {s : State} {C n d : String} {A : Nat → Prop} (hl : (Cond.laysStatic C n d).before args s = true) (hini : (Cond.initialized C).before args s = true) (h : (Cond.isRef (.static C n d)).before args s = true) (hA : ∀ a : Nat, a < s.heap.size → ¬ A a) : vx_Zq C n d A s s.heap := by
  refine ⟨va_Zqof hl hini h hA, ?_⟩
  obtain ⟨c, k, i, f, a, cell, h1, h2, h3, h4, h5, h6, h7, h8, h9⟩ := Cond.laysStatic_spec hl
  exact ⟨c, k, i, f, a, cell, h1, h2, h3, h4, h5, h6, h7, h8, h9, hA a (Array.getElem?_eq_some_iff.mp h5).1⟩
theorem vx_isRef {C n d : String} {v : Value} {A : Nat → Prop} {s : State} {args : Array Value} (h : va_Z C n d v A s s.heap) (hv : v.isRef = true) : (Cond.isRef (.static C n d)).before args s = true := by
  obtain ⟨cf, kf, fi, f, a, cell, h1, h2, h3, h4, h5, h6, h7, -⟩ := h
  have he : (Term.static C n d).eval args s none [] s = some v := by
    simp [Term.eval, State.fieldNamed?, h1, h2, h4, h5, h6, h7]
  simp only [Cond.before, Cond.holds, Cond.value, he]
  cases v <;> simp_all [Value.isRef]
theorem vx_isRefq {C n d : String} {A : Nat → Prop} {s : State} {args : Array Value} (h : va_Zq C n d A s s.heap) : (Cond.isRef (.static C n d)).before args s = true := by
  rcases h with h | ⟨t, h⟩
  · exact vx_isRef h rfl
  · exact vx_isRef h rfl
/-- the same frame, seen from here: as if the method were called anew in this heap -/
theorem vx_rebase {T : State} (X : Stand p l e R s m args below meth c T locs cells slots) {R' : Room} (hf : R'.frames ≤ R.frames) (hl : R'.locals ≤ R.locals) (hc : cells + R'.cells ≤ R.cells) (hs : slots + R'.slots ≤ R.slots) :
    Stand p l e R' ((T.setVm s.vm).setFrames (.invoking m args :: below)) m args below meth c T [] 0 0 := by
  have htop : (T.setVm s.vm).topJava?.isSome := X.here.top
  have hF : ((T.setVm s.vm).setFrames (.invoking m args :: below)).frames = .invoking m args :: below := State.frames_setFrames _ (State.cur_lt_of_top htop)
  obtain ⟨g₀, hg0⟩ := Option.isSome_iff_exists.mp htop
  obtain ⟨r, hr⟩ := State.topJava?_eq_some.mp hg0
  have hl9 : e.platform.stackLimits (T.setVm s.vm).me = e.platform.stackLimits s.me := X.limits
  have hb9 : (T.setVm s.vm).me.stackBytes = s.me.stackBytes := X.bytes
  refine ⟨X.admits, X.cas, X.clock, hF, ?_, X.hears, X.method, X.code, X.here, X.tail, X.warmed, ?_, ?_, ?_⟩
  · have h := X.room
    have hU : ((T.setVm s.vm).setFrames (.invoking m args :: below)).localsInUse = s.localsInUse := by
      rw [State.localsInUse_invoking hF (meth := meth) (c := c) X.method X.code, State.localsInUse_invoking X.frames X.method X.code]
    simp only [State.hasRoom, Bool.and_eq_true, decide_eq_true_eq] at h ⊢
    obtain ⟨⟨⟨⟨h1, h2, h3, h4, h5, h6⟩, h7⟩, h8⟩, h9⟩ := h
    rw [X.frames, List.length_cons] at h2 h3
    have q1 := X.heapSize
    have q2 := X.used
    simp only [hF, hU, List.length_cons, State.stackLimits_setFrames, State.stackBytes_setFrames, hl9, hb9]
    refine ⟨⟨⟨⟨by omega, by omega, by omega, by omega, by omega, h6⟩, ?_⟩, ?_⟩, X.book⟩
    · show T.heap.size + R'.cells ≤ e.platform.maxCells
      omega
    · show T.slotsUsed + R'.slots ≤ e.platform.maxSlots
      omega
  · rw [State.stackLimits_setFrames]; rfl
  · rw [State.stackBytes_setFrames]; rfl
  · refine ⟨?_, Nat.le_refl _, Nat.le_refl _, ?_, ?_, fun a c9 h9 => ⟨c9, h9, rfl, rfl, fun _ _ => rfl⟩⟩
    · obtain ⟨t, ht, -⟩ := State.frames_cons hr
      show T.setVm s.vm = { ((T.setVm s.vm).setFrames (.invoking m args :: below)).setFrames (T.setVm s.vm).frames with heap := T.heap, slotsUsed := T.slotsUsed }
      rw [State.setFrames_setFrames, State.setFrames_self ht]
      rfl
    · show T.slotsUsed = T.slotsUsed + ((T.heap.toList.drop T.heap.size).map (·.slots.size)).sum
      rw [List.drop_eq_nil_of_le (Nat.le_of_eq Array.length_toList)]
      rfl
    · show ((T.heap.toList.drop T.heap.size).map (·.slots.size)).sum ≤ 0
      rw [List.drop_eq_nil_of_le (Nat.le_of_eq Array.length_toList)]
      exact Nat.le_refl _
/-- 'throw new E()': new; dup; invokespecial; athrow -/
theorem vx_throw0 {cc : ByteArray} {pc : Nat} (hexec : p.tables.exec = Jvm.exec) (hb : c.code = cc) (hl : l.stackTraces = false) {own cls : String} {names : List String} {ik ic mc ms : Nat} {A : Nat → Prop}
    (hown : s.vm.findClass own = some m.cls) (hcls : Bundle.fit cls = true) (hnames : ∀ n ∈ names, Bundle.fit n = true)
    (hk : (Cond.classLink own ik cls).before args s = true) (hini : (Cond.initialized cls).before args s = true) (hat : ∀ w ∈ vx_at0 own ic cls names, w.before args s = true)
    (hgood : ∀ w ∈ Cond.classLink own ik cls :: Cond.initialized cls :: vx_at0 own ic cls names, vx_ot w = true)
    (hU : vx_Zq Bundle.tN "UNASSIGNED_STACK" Bundle.steD A s s.heap) (hN : vx_Zq Bundle.tN "SUPPRESSED_SENTINEL" Bundle.listD A s s.heap) (hS : va_S A s.heap H locs) (hsize : ls.size = c.maxLocals)
    (d0 : decode cc pc = .ok (.new ik, 3)) (d3 : decode cc (pc + 3) = .ok (.dup, 1)) (d4 : decode cc (pc + 4) = .ok (.invokespecial ic, 3)) (d7 : decode cc (pc + 7) = .ok (.athrow, 1))
    (hout : ∀ x ∈ c.exceptionTable.toList, covers x (pc + 7) = false)
    (hRframes : names.length + 3 < R.frames) (hRlocals : (rest.map fun v => v.category).sum + (13 * (names.length + 1) + 42) ≤ R.locals) (hRcells : cells + 1 ≤ R.cells) (hRslots : slots + 6 ≤ R.slots) (hlocks : meth.locks = false)
    (hx : ∀ t : State, s.vm.Alike t.vm → H.size ≤ t.heap.size → (∀ q : Nat, q < H.size → t.heap[q]? = H[q]?) → XC cls s t)
    (hf : ∀ z ∈ locs, free z.base) (hc : cells + 1 ≤ mc) (hs : slots + 6 ≤ ms) :
    W p l e R s m args below meth c H locs cells slots (vx_MQ below Qc XC args s mc ms free) (F0 m pc ls rest) := by
  intro T hT X
  have htr : e.platform.stackTraces = false := (show e.platform.stackTraces = l.stackTraces by rw [X.admits.platform]).trans hl
  have Y := vx_rebase X (R' := { frames := R.frames, locals := R.locals, cells := 1, slots := 6 }) (Nat.le_refl _) (Nat.le_refl _) hRcells hRslots
  obtain ⟨s', hA⟩ : ∃ z, z = (T.setVm s.vm).setFrames (.invoking m args :: below) := ⟨_, rfl⟩
  rw [← hA] at Y
  have hvm : s'.vm = s.vm := by rw [hA]; rfl
  have hhp : s'.heap = H := by rw [hA]; exact hT
  have hW0 : s.WarmedH s'.vm := by rw [hvm]; exact State.WarmedH.refl s
  have hat' : ∀ w ∈ vx_at0 own ic cls names, w.before args s' = true := fun w hw => vx_ot_at hW0 hvm.symm (hgood w (List.mem_cons_of_mem _ (List.mem_cons_of_mem _ hw))) (hat w hw)
  have hk' : (Cond.classLink own ik cls).before args s' = true := vx_ot_at hW0 hvm.symm (hgood _ List.mem_cons_self) hk
  have hini' : (Cond.initialized cls).before args s' = true := vx_ot_at hW0 hvm.symm (hgood _ (List.mem_cons_of_mem _ List.mem_cons_self)) hini
  have hU' : vx_Zq Bundle.tN "UNASSIGNED_STACK" Bundle.steD A s' s'.heap := by rw [hhp]; exact vx_Zq.moved hW0.alike (hU.kept hS.2.1)
  have hN' : vx_Zq Bundle.tN "SUPPRESSED_SENTINEL" Bundle.listD A s' s'.heap := by rw [hhp]; exact vx_Zq.moved hW0.alike (hN.kept hS.2.1)
  have h : ∀ w ∈ Bundle.ownAtoms0 own ic cls names, w.before args s' = true := vx_own hat' (vx_isRefq hU'.1) (vx_isRefq hN'.1) hU'.2.word hN'.2.word
  have hown' : s'.vm.findClass own = some m.cls := by rw [hvm]; exact hown
  have hins : (Cond.instantiable cls 6).before args s' = true := h _ (by simp [Bundle.ownAtoms0])
  obtain ⟨vm₁, cX, kX, hfX, hkX, -, -, X₁, st1⟩ := Y.newCold hexec (own := own) (C := cls) (index := ik) (n := 6) hown' hk' hins hini'
    (g := F0 m pc ls rest) rfl (by rw [hb]; exact d0) (Nat.le_refl _) (Nat.le_refl _)
  generalize hT1 : (T.setVm vm₁).pushCell { cls := cX, slots := kX.instanceTypes.map defaultValue, vm := .none } = T1 at X₁ st1
  have hcat : (Value.ref T.heap.size).category = 1 := rfl
  have hcellA : T1.heap[T.heap.size]? = some (freshCell cX kX) := by rw [← hT1]; exact State.heap_pushCell_size _ _
  have d3' : decode c.code (pc + 3) = .ok (.dup, 1) := by rw [hb]; exact d3
  obtain ⟨U, hsteps, hrun, hend, hW, hsame, ce, hce, hO⟩ := X₁.ctorThrow0 hexec htr (own := own) (cls := cls) (names := names) (ic := ic) hown' hcls hnames h (fun x hx => nomatch hx) hfX hkX hcellA (by rw [hhp, hT]; exact Nat.le_refl _)
    (g := { method := m, pc := pc + 4, locals := ls, stack := .ref T.heap.size :: .ref T.heap.size :: rest, locked := none }) rfl hsize rfl rfl (rest := rest) rfl
    (by rw [hb]; exact d4) (by rw [hb]; exact d7) hout hRframes (by simp only [List.map_cons, List.sum_cons, hcat]; omega) hlocks
  obtain ⟨f1, f2⟩ := vx_frame hsame
  rw [hhp] at f1 f2
  have hWs : s.WarmedH U.vm := State.WarmedH.trans hW0 hW
  have hcl : s.vm.findClass cls = some ce.cls := by
    have h9 := hO.cls
    rw [hvm] at h9
    exact h9
  have hall : s.sameButNew ({ U with vm := s.vm } : State) locs mc ms := by
    subst hA
    obtain ⟨e1, e2⟩ := hsame
    rw [State.setFrames_setFrames] at e1
    have h2 : (T.setVm s.vm).sameButNew ({ U with vm := s.vm } : State) [] (0 + 1) (0 + 6) := ⟨e1, e2⟩
    have h3 := X.same.trans h2
    rw [List.append_nil] at h3
    exact h3.mono hc hs
  refine ⟨U, ?_, .threw T.heap.size, hrun, hend, Or.inr ⟨T.heap.size, rfl, cls, ce, locs, hx U hWs.alike f1 (fun q hq => f2 q hq (fun z hz => nomatch hz)), hce, hO.vm, hcl, hWs, hall, hf⟩⟩
  refine st1 _ ?_
  show Steps p.tables e below (T1.setTop { method := m, pc := pc + 3, locals := ls, stack := .ref T.heap.size :: rest, locked := none }) _
  jvm_step X₁.here [X₁.here.top, hexec, d3', Value.category]
  exact hsteps
/-- 'throw new E("text")': new; dup; ldc; invokespecial; athrow -/
theorem vx_throwS {cc : ByteArray} {pc : Nat} (hexec : p.tables.exec = Jvm.exec) (hb : c.code = cc) (hl : l.stackTraces = false) {own cls text : String} {names : List String} {ik is ic mc ms sa : Nat} {A : Nat → Prop}
    (hown : s.vm.findClass own = some m.cls) (hcls : Bundle.fit cls = true) (hnames : ∀ n ∈ names, Bundle.fit n = true)
    (hk : (Cond.classLink own ik cls).before args s = true) (hini : (Cond.initialized cls).before args s = true) (hstr : vk_R own is text sa s) (hat : ∀ w ∈ vx_atS own ic cls names, w.before args s = true)
    (hgood : ∀ w ∈ Cond.classLink own ik cls :: Cond.initialized cls :: vx_atS own ic cls names, vx_ot w = true)
    (hU : vx_Zq Bundle.tN "UNASSIGNED_STACK" Bundle.steD A s s.heap) (hN : vx_Zq Bundle.tN "SUPPRESSED_SENTINEL" Bundle.listD A s s.heap) (hS : va_S A s.heap H locs) (hsize : ls.size = c.maxLocals)
    (d0 : decode cc pc = .ok (.new ik, 3)) (d3 : decode cc (pc + 3) = .ok (.dup, 1)) (d4 : decode cc (pc + 4) = .ok (.ldc is, 2)) (d6 : decode cc (pc + 6) = .ok (.invokespecial ic, 3)) (d9 : decode cc (pc + 9) = .ok (.athrow, 1))
    (hout : ∀ x ∈ c.exceptionTable.toList, covers x (pc + 9) = false)
    (hRframes : names.length + 3 < R.frames) (hRlocals : (rest.map fun v => v.category).sum + (13 * (names.length + 1) + 43) ≤ R.locals) (hRcells : cells + 1 ≤ R.cells) (hRslots : slots + 6 ≤ R.slots) (hlocks : meth.locks = false)
    (hx : ∀ t : State, s.vm.Alike t.vm → H.size ≤ t.heap.size → (∀ q : Nat, q < H.size → t.heap[q]? = H[q]?) → XC cls s t)
    (hf : ∀ z ∈ locs, free z.base) (hc : cells + 1 ≤ mc) (hs : slots + 6 ≤ ms) :
    W p l e R s m args below meth c H locs cells slots (vx_MQ below Qc XC args s mc ms free) (F0 m pc ls rest) := by
  intro T hT X
  have htr : e.platform.stackTraces = false := (show e.platform.stackTraces = l.stackTraces by rw [X.admits.platform]).trans hl
  have Y := vx_rebase X (R' := { frames := R.frames, locals := R.locals, cells := 1, slots := 6 }) (Nat.le_refl _) (Nat.le_refl _) hRcells hRslots
  obtain ⟨s', hA⟩ : ∃ z, z = (T.setVm s.vm).setFrames (.invoking m args :: below) := ⟨_, rfl⟩
  rw [← hA] at Y
  have hvm : s'.vm = s.vm := by rw [hA]; rfl
  have hhp : s'.heap = H := by rw [hA]; exact hT
  have hW0 : s.WarmedH s'.vm := by rw [hvm]; exact State.WarmedH.refl s
  have hat' : ∀ w ∈ vx_atS own ic cls names, w.before args s' = true := fun w hw => vx_ot_at hW0 hvm.symm (hgood w (List.mem_cons_of_mem _ (List.mem_cons_of_mem _ hw))) (hat w hw)
  have hk' : (Cond.classLink own ik cls).before args s' = true := vx_ot_at hW0 hvm.symm (hgood _ List.mem_cons_self) hk
  have hini' : (Cond.initialized cls).before args s' = true := vx_ot_at hW0 hvm.symm (hgood _ (List.mem_cons_of_mem _ List.mem_cons_self)) hini
  have hU' : vx_Zq Bundle.tN "UNASSIGNED_STACK" Bundle.steD A s' s'.heap := by rw [hhp]; exact vx_Zq.moved hW0.alike (hU.kept hS.2.1)
  have hN' : vx_Zq Bundle.tN "SUPPRESSED_SENTINEL" Bundle.listD A s' s'.heap := by rw [hhp]; exact vx_Zq.moved hW0.alike (hN.kept hS.2.1)
  have h : ∀ w ∈ Bundle.ownAtoms own ic cls names, w.before args s' = true := vx_own hat' (vx_isRefq hU'.1) (vx_isRefq hN'.1) hU'.2.word hN'.2.word
  have hown' : s'.vm.findClass own = some m.cls := by rw [hvm]; exact hown
  have hins : (Cond.instantiable cls 6).before args s' = true := h _ (by simp [Bundle.ownAtoms])
  obtain ⟨vm₁, cX, kX, hfX, hkX, -, -, X₁, st1⟩ := Y.newCold hexec (own := own) (C := cls) (index := ik) (n := 6) hown' hk' hins hini'
    (g := F0 m pc ls rest) rfl (by rw [hb]; exact d0) (Nat.le_refl _) (Nat.le_refl _)
  generalize hT1 : (T.setVm vm₁).pushCell { cls := cX, slots := kX.instanceTypes.map defaultValue, vm := .none } = T1 at X₁ st1
  have hcat : (Value.ref T.heap.size).category = 1 := rfl
  have hcellA : T1.heap[T.heap.size]? = some (freshCell cX kX) := by rw [← hT1]; exact State.heap_pushCell_size _ _
  have d3' : decode c.code (pc + 3) = .ok (.dup, 1) := by rw [hb]; exact d3
  have d4' : decode c.code (pc + 4) = .ok (.ldc is, 2) := by rw [hb]; exact d4
  have hstr' : vk_R own is text sa s' := vk_R.warm hW0 hstr
  obtain ⟨U, hsteps, hrun, hend, hW, hsame, ce, hce, hO⟩ := X₁.ctorThrowS hexec htr (own := own) (cls := cls) (names := names) (ic := ic) hown' hcls hnames h (fun x hx => nomatch hx) hfX hkX hcellA (by rw [hhp, hT]; exact Nat.le_refl _) (msg := .ref sa) rfl
    (g := { method := m, pc := pc + 6, locals := ls, stack := .ref sa :: .ref T.heap.size :: .ref T.heap.size :: rest, locked := none }) rfl hsize rfl rfl (rest := rest) rfl
    (by rw [hb]; exact d6) (by rw [hb]; exact d9) hout hRframes (by simp only [List.map_cons, List.sum_cons, hcat]; omega) hlocks
  obtain ⟨f1, f2⟩ := vx_frame hsame
  rw [hhp] at f1 f2
  have hWs : s.WarmedH U.vm := State.WarmedH.trans hW0 hW
  have hcl : s.vm.findClass cls = some ce.cls := by
    have h9 := hO.cls
    rw [hvm] at h9
    exact h9
  have hall : s.sameButNew ({ U with vm := s.vm } : State) locs mc ms := by
    subst hA
    obtain ⟨e1, e2⟩ := hsame
    rw [State.setFrames_setFrames] at e1
    have h2 : (T.setVm s.vm).sameButNew ({ U with vm := s.vm } : State) [] (0 + 1) (0 + 6) := ⟨e1, e2⟩
    have h3 := X.same.trans h2
    rw [List.append_nil] at h3
    exact h3.mono hc hs
  refine ⟨U, ?_, .threw T.heap.size, hrun, hend, Or.inr ⟨T.heap.size, rfl, cls, ce, locs, hx U hWs.alike f1 (fun q hq => f2 q hq (fun z hz => nomatch hz)), hce, hO.vm, hcl, hWs, hall, hf⟩⟩
  refine st1 _ ?_
  show Steps p.tables e below (T1.setTop { method := m, pc := pc + 3, locals := ls, stack := .ref T.heap.size :: rest, locked := none }) _
  jvm_step X₁.here [X₁.here.top, hexec, d3', Value.category]
  exact X₁.ldcString hexec (own := own) (text := text) (index := is) (a := sa) hown' hstr'.1 hstr'.2
    (g := { method := m, pc := pc + 4, locals := ls, stack := .ref T.heap.size :: .ref T.heap.size :: rest, locked := none }) rfl d4' _ hsteps
/-- 'throw new E("text")', the text by a wide index -/
theorem vx_throwSW {cc : ByteArray} {pc : Nat} (hexec : p.tables.exec = Jvm.exec) (hb : c.code = cc) (hl : l.stackTraces = false) {own cls text : String} {names : List String} {ik is ic mc ms sa : Nat} {A : Nat → Prop}
    (hown : s.vm.findClass own = some m.cls) (hcls : Bundle.fit cls = true) (hnames : ∀ n ∈ names, Bundle.fit n = true)
    (hk : (Cond.classLink own ik cls).before args s = true) (hini : (Cond.initialized cls).before args s = true) (hstr : vk_R own is text sa s) (hat : ∀ w ∈ vx_atS own ic cls names, w.before args s = true)
    (hgood : ∀ w ∈ Cond.classLink own ik cls :: Cond.initialized cls :: vx_atS own ic cls names, vx_ot w = true)
    (hU : vx_Zq Bundle.tN "UNASSIGNED_STACK" Bundle.steD A s s.heap) (hN : vx_Zq Bundle.tN "SUPPRESSED_SENTINEL" Bundle.listD A s s.heap) (hS : va_S A s.heap H locs) (hsize : ls.size = c.maxLocals)
    (d0 : decode cc pc = .ok (.new ik, 3)) (d3 : decode cc (pc + 3) = .ok (.dup, 1)) (d4 : decode cc (pc + 4) = .ok (.ldc_w is, 3)) (d7 : decode cc (pc + 7) = .ok (.invokespecial ic, 3)) (d10 : decode cc (pc + 10) = .ok (.athrow, 1))
    (hout : ∀ x ∈ c.exceptionTable.toList, covers x (pc + 10) = false)
    (hRframes : names.length + 3 < R.frames) (hRlocals : (rest.map fun v => v.category).sum + (13 * (names.length + 1) + 43) ≤ R.locals) (hRcells : cells + 1 ≤ R.cells) (hRslots : slots + 6 ≤ R.slots) (hlocks : meth.locks = false)
    (hx : ∀ t : State, s.vm.Alike t.vm → H.size ≤ t.heap.size → (∀ q : Nat, q < H.size → t.heap[q]? = H[q]?) → XC cls s t)
    (hf : ∀ z ∈ locs, free z.base) (hc : cells + 1 ≤ mc) (hs : slots + 6 ≤ ms) :
    W p l e R s m args below meth c H locs cells slots (vx_MQ below Qc XC args s mc ms free) (F0 m pc ls rest) := by
  intro T hT X
  have htr : e.platform.stackTraces = false := (show e.platform.stackTraces = l.stackTraces by rw [X.admits.platform]).trans hl
  have Y := vx_rebase X (R' := { frames := R.frames, locals := R.locals, cells := 1, slots := 6 }) (Nat.le_refl _) (Nat.le_refl _) hRcells hRslots
  obtain ⟨s', hA⟩ : ∃ z, z = (T.setVm s.vm).setFrames (.invoking m args :: below) := ⟨_, rfl⟩
  rw [← hA] at Y
  have hvm : s'.vm = s.vm := by rw [hA]; rfl
  have hhp : s'.heap = H := by rw [hA]; exact hT
  have hW0 : s.WarmedH s'.vm := by rw [hvm]; exact State.WarmedH.refl s
  have hat' : ∀ w ∈ vx_atS own ic cls names, w.before args s' = true := fun w hw => vx_ot_at hW0 hvm.symm (hgood w (List.mem_cons_of_mem _ (List.mem_cons_of_mem _ hw))) (hat w hw)
  have hk' : (Cond.classLink own ik cls).before args s' = true := vx_ot_at hW0 hvm.symm (hgood _ List.mem_cons_self) hk
  have hini' : (Cond.initialized cls).before args s' = true := vx_ot_at hW0 hvm.symm (hgood _ (List.mem_cons_of_mem _ List.mem_cons_self)) hini
  have hU' : vx_Zq Bundle.tN "UNASSIGNED_STACK" Bundle.steD A s' s'.heap := by rw [hhp]; exact vx_Zq.moved hW0.alike (hU.kept hS.2.1)
  have hN' : vx_Zq Bundle.tN "SUPPRESSED_SENTINEL" Bundle.listD A s' s'.heap := by rw [hhp]; exact vx_Zq.moved hW0.alike (hN.kept hS.2.1)
  have h : ∀ w ∈ Bundle.ownAtoms own ic cls names, w.before args s' = true := vx_own hat' (vx_isRefq hU'.1) (vx_isRefq hN'.1) hU'.2.word hN'.2.word
  have hown' : s'.vm.findClass own = some m.cls := by rw [hvm]; exact hown
  have hins : (Cond.instantiable cls 6).before args s' = true := h _ (by simp [Bundle.ownAtoms])
  obtain ⟨vm₁, cX, kX, hfX, hkX, -, -, X₁, st1⟩ := Y.newCold hexec (own := own) (C := cls) (index := ik) (n := 6) hown' hk' hins hini'
    (g := F0 m pc ls rest) rfl (by rw [hb]; exact d0) (Nat.le_refl _) (Nat.le_refl _)
  generalize hT1 : (T.setVm vm₁).pushCell { cls := cX, slots := kX.instanceTypes.map defaultValue, vm := .none } = T1 at X₁ st1
  have hcat : (Value.ref T.heap.size).category = 1 := rfl
  have hcellA : T1.heap[T.heap.size]? = some (freshCell cX kX) := by rw [← hT1]; exact State.heap_pushCell_size _ _
  have d3' : decode c.code (pc + 3) = .ok (.dup, 1) := by rw [hb]; exact d3
  have d4' : decode c.code (pc + 4) = .ok (.ldc_w is, 3) := by rw [hb]; exact d4
  have hstr' : vk_R own is text sa s' := vk_R.warm hW0 hstr
  obtain ⟨U, hsteps, hrun, hend, hW, hsame, ce, hce, hO⟩ := X₁.ctorThrowS hexec htr (own := own) (cls := cls) (names := names) (ic := ic) hown' hcls hnames h (fun x hx => nomatch hx) hfX hkX hcellA (by rw [hhp, hT]; exact Nat.le_refl _) (msg := .ref sa) rfl
    (g := { method := m, pc := pc + 7, locals := ls, stack := .ref sa :: .ref T.heap.size :: .ref T.heap.size :: rest, locked := none }) rfl hsize rfl rfl (rest := rest) rfl
    (by rw [hb]; exact d7) (by rw [hb]; exact d10) hout hRframes (by simp only [List.map_cons, List.sum_cons, hcat]; omega) hlocks
  obtain ⟨f1, f2⟩ := vx_frame hsame
  rw [hhp] at f1 f2
  have hWs : s.WarmedH U.vm := State.WarmedH.trans hW0 hW
  have hcl : s.vm.findClass cls = some ce.cls := by
    have h9 := hO.cls
    rw [hvm] at h9
    exact h9
  have hall : s.sameButNew ({ U with vm := s.vm } : State) locs mc ms := by
    subst hA
    obtain ⟨e1, e2⟩ := hsame
    rw [State.setFrames_setFrames] at e1
    have h2 : (T.setVm s.vm).sameButNew ({ U with vm := s.vm } : State) [] (0 + 1) (0 + 6) := ⟨e1, e2⟩
    have h3 := X.same.trans h2
    rw [List.append_nil] at h3
    exact h3.mono hc hs
  refine ⟨U, ?_, .threw T.heap.size, hrun, hend, Or.inr ⟨T.heap.size, rfl, cls, ce, locs, hx U hWs.alike f1 (fun q hq => f2 q hq (fun z hz => nomatch hz)), hce, hO.vm, hcl, hWs, hall, hf⟩⟩
  refine st1 _ ?_
  show Steps p.tables e below (T1.setTop { method := m, pc := pc + 3, locals := ls, stack := .ref T.heap.size :: rest, locked := none }) _
  jvm_step X₁.here [X₁.here.top, hexec, d3', Value.category]
  exact X₁.ldcStringW hexec (own := own) (text := text) (index := is) (a := sa) hown' hstr'.1 hstr'.2
    (g := { method := m, pc := pc + 4, locals := ls, stack := .ref T.heap.size :: .ref T.heap.size :: rest, locked := none }) rfl d4' _ hsteps
end Ends
section Bodies
variable {l : Launch}
theorem vx_ofW {y : MethodName} {ws ws' : List Cond} {rm : Room} {Pc : Array Value → State → Prop} {Qc : Array Value → State → Outcome → State → Prop} {XC : String → State → State → Prop} {mc ms : Nat} {free : Addr → Prop} {cc : ByteArray} {maxL : Nat} {ret : Option FieldType}
    (hy : plainName y.cls = true) (hw : ws = Cond.code y cc maxL ret :: ws')
    (body : ∀ p e s m args below meth c s₁, BodyLoose p l y (headSpec ws rm) cc maxL ret e s m args below meth c s₁ → c.maxLocals = maxL → (∀ x ∈ c.exceptionTable.toList, False) → Pc args s →
      W p l e (headSpec ws rm).room s m args below meth c s.heap [] 0 0 (vx_MQ below Qc XC args s mc ms free) (entryFrame m args maxL)) : vx_Met l y ws rm Pc Qc XC mc ms free := by
  refine MetFree.of_bodyS (code := cc) (maxLocals := maxL) (ret := ret) hy ?_ ?_
  · intro args s m h hn
    obtain ⟨meth, c, h1, h2, h3, h4, h5, h6, -, -⟩ := Cond.code_spec hn (atoms_spec (ws := ws) h _ (by rw [hw]; exact List.mem_cons_self))
    exact ⟨meth, c, h1, h2, h3, h4, h5, h6⟩
  · intro p e s m args below meth c s₁ B hml hP _
    have hh0 : s₁.heap = s.heap := by rw [B.state]; rfl
    have ht : ∀ x ∈ c.exceptionTable.toList, False := by
      obtain ⟨meth9, c9, h1, h2, -, -, -, -, h7, -⟩ := Cond.code_spec B.named (atoms_spec (ws := ws) B.pre _ (by rw [hw]; exact List.mem_cons_self))
      cases Option.some.inj (h1.symm.trans B.method)
      cases Option.some.inj (h2.symm.trans (Stand.of_body B).code)
      intro x hx
      rw [Array.isEmpty_iff.mp h7] at hx
      cases hx
    obtain ⟨t, a1, o, b1, b2, b3⟩ := body p e s m args below meth c s₁ B hml ht hP s₁ hh0 (Stand.of_body B)
    exact ⟨t, o, a1, b1, b2, b3⟩
/-- the table of a body with handlers -/
theorem vx_table {p : Program} {x y : MethodName} {S : Spec} {cc bytes : ByteArray} {maxL maxL' : Nat} {ret ret' : Option FieldType} {e : Env} {s s₁ : State} {m : MethodId} {args : Array Value} {below : List Frame} {meth : Method} {c : Code} {hh : List (Nat × Nat × Nat × Nat)}
    (B : BodyLoose p l y S cc maxL ret e s m args below meth c s₁) (h : (Cond.codeWith y bytes maxL' ret' hh).before args s = true) : c.exceptionTable.toList = tableOf hh := by
  obtain ⟨m9, meth9, c9, hn9, h1, h2, -, -, h6, -⟩ := Cond.codeWith_spec h
  cases Option.some.inj (hn9.symm.trans B.named)
  cases Option.some.inj (h1.symm.trans B.method)
  cases Option.some.inj (h2.symm.trans (Stand.of_body B).code)
  rw [← h6, table_eq]
end Bodies
end VXA
/-! ===== END ===== -/
/-! ===== BEGIN a static call of a method with an exception table ===== -/
section VXS
variable {p : Program} {l : Launch} {e : Env} {R : Room} {s : State} {m : MethodId} {args : Array Value} {below : List Frame} {meth : Method} {c : Code} {T : State} {H : Heap} {locs : List Loc} {cells slots : Nat}
abbrev vx_CSW (R : Room) (s : State) (args : Array Value) (own : String) (index : Nat) (y : MethodName) (bytes : ByteArray) (maxL : Nat) (ret : Option FieldType) (hh : List (Nat × Nat × Nat × Nat)) (ws : List Cond) (rm : Room) (mc ms n : Nat) : Prop :=
  (rm.cells = mc ∧ rm.slots = ms ∧ rm.frames + 1 ≤ R.frames ∧ 8 + (maxL + 11) + rm.locals ≤ R.locals ∧ (∀ w ∈ ws, ∀ (a' : Array Value) (U : State), s.WarmedH U.vm → w.before a' U = true) ∧ Cond.codeWith y bytes maxL ret hh ∈ ws) ∧
  (Cond.codeWith y bytes maxL ret hh).before args s = true ∧ (Cond.initialized y.cls).before args s = true ∧ (y.cls ≠ "java/lang/invoke/MethodHandle" ∧ y.cls ≠ "java/lang/invoke/VarHandle") ∧
  (∀ sig, parseMethodDescriptor y.desc = some sig → n = sig.parameters.length) ∧ (Cond.methodLink own index y).before args s = true ∧ (Cond.static y).before args s = true
theorem vx_cwSW {own : String} {index maxL mc ms : Nat} {y : MethodName} {bytes : ByteArray} {ret : Option FieldType} {hh : List (Nat × Nat × Nat × Nat)} {Ts ws ws' : List Cond} {rm : Room} (n : Nat) (ht : ∀ w ∈ Ts, w.before args s = true) (hT : GoodIn Ts (va_wsS own index y ws)) (hw : ws = Cond.codeWith y bytes maxL ret hh :: ws') (hrc : rm.cells = mc) (hrs : rm.slots = ms)
    (hd : y.cls ≠ "java/lang/invoke/MethodHandle" ∧ y.cls ≠ "java/lang/invoke/VarHandle" ∧ (parseMethodDescriptor y.desc).map (fun d => d.parameters.length) = some n) (hR : rm.frames + 1 ≤ R.frames ∧ 8 + (maxL + 11) + rm.locals ≤ R.locals) :
    vx_CSW R s args own index y bytes maxL ret hh ws rm mc ms n := by
  have ok : ∀ w ∈ va_wsS own index y ws, w.before args s = true := fun w h => ht w (hT w h).1
  have hG : GoodIn Ts ws := fun w h => hT w (by unfold va_wsS; exact List.mem_append_right _ h)
  have hc : Cond.codeWith y bytes maxL ret hh ∈ ws := by rw [hw]; exact List.mem_cons_self
  refine ⟨⟨hrc, hrs, hR.1, hR.2, pay_in ht hG, hc⟩, ht _ (hG _ hc).1, ok _ (by simp [va_wsS]), ⟨hd.1, hd.2.1⟩, fun sig h => ?_, ok _ (by simp [va_wsS]), ok _ (by simp [va_wsS])⟩
  have h2 := hd.2.2
  rw [h] at h2
  exact (Option.some.inj h2).symm
theorem vx_callSW (X : Stand p l e R s m args below meth c T locs cells slots) (hexec : p.tables.exec = Jvm.exec) {own : String} {index : Nat} {y : MethodName} {bytes : ByteArray} {maxL : Nat} {ret : Option FieldType} {hh : List (Nat × Nat × Nat × Nat)}
    (hown : s.vm.findClass own = some m.cls) (hlink : (Cond.methodLink own index y).before args s = true) (hstat : (Cond.static y).before args s = true) (hinit : (Cond.initialized y.cls).before args s = true)
    (hcode : (Cond.codeWith y bytes maxL ret hh).before args s = true) (hy : y.cls ≠ "java/lang/invoke/MethodHandle" ∧ y.cls ≠ "java/lang/invoke/VarHandle")
    {W9 : Nat} {Pre : Pt → Array Value → Prop} {Post : Pt → Array Value → Option Value → Pt → Prop} (hK : Back l R p e below s args y 3 W9 Pre Post)
    {g : JFrame} (hg : g.method = m) (hsize : g.locals.size = c.maxLocals) {argsL rest : List Value} (hlen : ∀ sig, parseMethodDescriptor y.desc = some sig → argsL.length = sig.parameters.length)
    (hstack : g.stack = argsL.reverse ++ rest) (hW : 2 * g.monitorRoom + (rest.map fun v => v.category).sum ≤ W9) (hdg : decode c.code g.pc = .ok (.invokestatic index, 3))
    (hpre : ∀ vm₁, s.WarmedH vm₁ → Pre ⟨T.setVm vm₁, locs, cells, slots⟩ argsL.toArray) :
    ∃ (v : Option Value) (vm₁ : Vm) (B : Pt), s.WarmedH vm₁ ∧ Stand p l e R s m args below meth c B.U B.locs B.cells B.slots ∧ Post ⟨T.setVm vm₁, locs, cells, slots⟩ argsL.toArray v B ∧
      ∀ target, Steps p.tables e below (B.U.setTop { g with pc := g.pc + 3, stack := v.toList ++ rest }) target → Steps p.tables e below (T.setTop g) target := by
  obtain ⟨mk, methM, cM, hnamed, hmethM, -, -, -, -, -, -, hsigM⟩ := Cond.codeWith_spec hcode
  have hstatic : methM.isStatic = true := Cond.static_spec hnamed hmethM hstat
  obtain ⟨kP, hkP, -⟩ := className_of_methodNamed hnamed
  have hinitP : kP.init = .initialized := Cond.initialized_spec (findClass_of_methodNamed hnamed) hkP hinit
  obtain ⟨vm₁, X₁, hstep₁⟩ := X.invokestatic hexec hown hlink hnamed hmethM hstatic hkP hinitP hy (g := g) hg (argsL := argsL) (rest := rest) (hlen _ hsigM) hstack hdg
  obtain ⟨v, B, X', hpost, hsteps⟩ := hK m meth c ⟨T.setVm vm₁, locs, cells, slots⟩ { g with stack := rest } (.invokestatic index) mk argsL.toArray X₁ hg hsize hdg hW (X₁.named hnamed) (hpre vm₁ X₁.warmed)
  exact ⟨v, vm₁, B, X₁.warmed, X', hpost, fun target h => hstep₁ _ fun acts => by rw [doInvoke_state]; exact hsteps.trans h⟩
theorem vx_runSW {y : MethodName} {bytes cc : ByteArray} {maxL nL mc ms n index : Nat} {ret : Option FieldType} {hh : List (Nat × Nat × Nat × Nat)} {ws : List Cond} {rm : Room} {Pc : Array Value → State → Prop} {Qc : Array Value → State → Outcome → State → Prop} {free : Addr → Prop} {Ts : List Cond} {own : String} {As rest : List Value} {g : JFrame}
    (S : CallFix p m c cc nL s args Ts own) (hM : Met l y ws rm Pc Qc mc ms free) (cw : vx_CSW R s args own index y bytes maxL ret hh ws rm mc ms n) (hp : PreS s H Pc As)
    (hg : g.method = m) (hn : As.length = n) (hsize : g.locals.size = nL) (hstack : g.stack = As.reverse ++ rest) (hW : 2 * g.monitorRoom + (rest.map fun v => v.category).sum ≤ 8) (hdg : decode cc g.pc = .ok (.invokestatic index, 3)) (hf : cells + mc ≤ R.cells ∧ slots + ms ≤ R.slots) :
    va_Run p l e R s m args below meth c H locs cells slots mc ms g rest (Qc As.toArray) (free) := by
  obtain ⟨⟨hrc, hrs, hfr, hlo, hws, hcw⟩, hcode, hini, hy, hlen, hl, hstt⟩ := cw
  have hK : Back l R p e below s args y 3 8 (PreOf R mc ms Pc) (PostOf Qc mc ms free) := va_backW (hh := hh) (bytes := bytes) (maxL := maxL) (ret := ret) hM hp.1 hrc hrs hfr hlo hws hcw (fun a' U hW => word_at hW (Or.inl (by first | rfl | simp [Cond.onTables, Cond.keeps, Cond.steady])) hini)
  obtain ⟨hx, hb, hml, ho, -⟩ := S
  intro T hT X
  obtain ⟨v, vm₁, ⟨U', l2, c2, s2⟩, hW₁, X', ⟨g', mk, t, L, e1, e2, hq, h1, hL, h2, h3⟩, st⟩ := vx_callSW X hx (hh := hh) (bytes := bytes) (maxL := maxL) (ret := ret) ho hl hstt hini hcode hy hK hg (hsize.trans hml.symm) (argsL := As) (rest := rest) (fun sig h => hn.trans (hlen sig h)) hstack hW (by rw [hb]; exact hdg)
    (fun vm₁ hW₁ => ⟨hf.1, hf.2, hp.2 (T.setVm vm₁) hT hW₁⟩)
  dsimp only [Pt.U, Pt.locs, Pt.cells, Pt.slots] at X' e1 e2 h1 h2 h3 st
  subst h1; subst h2; subst h3
  exact ⟨v, (T.setVm vm₁).calling g' mk As.toArray, t, U', L, hT, X', hL, e1, e2, hq, st⟩
/-- not caught here, past rows that name other classes: it goes on to the caller -/
theorem vx_outP {p : Program} {l : Launch} {e : Env} {R : Room} {s : State} {m : MethodId} {args : Array Value} {below : List Frame} {meth : Method} {c : Code} {H : Heap} {locs : List Loc} {cells slots : Nat} {free : Addr → Prop} {ls : Array Slot} {rest : List Value} {Qc : Array Value → State → Outcome → State → Prop} {XC : String → State → State → Prop}
    {pc : Nat} {own E : String} {ce : Cell} {q : Addr} {mc ms : Nat} (hown : s.vm.findClass own = some m.cls) (hlocks : meth.locks = false)
    (hpass : ∀ z ∈ c.exceptionTable.toList, covers z pc = false ∨ (z.catchType ≠ 0 ∧ ∃ nm : String, (Cond.classLink own z.catchType nm).before args s = true ∧ va_Nc E nm s)) (hcell : H[q]? = some ce) (hv : ce.vm = .none) (hcl : s.vm.findClass E = some ce.cls)
    (hx : ∀ t : State, t.heap = H → s.vm.Alike t.vm → XC E s t) (hf : ∀ z ∈ locs, free z.base) (hc : cells ≤ mc) (hs : slots ≤ ms) :
    vx_W p l e R s m args below meth c H locs cells slots (vx_MQ below Qc XC args s mc ms free) (F0 m pc ls rest) q := by
  intro T hT X
  have hpl : e.platform.magicAccessors = ({} : Platform).magicAccessors := by rw [X.admits.platform]
  obtain ⟨vm', hW', X', st⟩ := X.outThrough hlocks q (g := F0 m pc ls rest) rfl rfl rfl (cell := ce) (by rw [hT]; exact hcell) (by rw [hv]; rfl)
    (by obtain ⟨k9, h9, -⟩ := Vm.findClass_spec hcl; exact ⟨k9, h9⟩) (fun z hz => by
      rcases hpass z hz with h | ⟨hz0, nm, hl1, hn1⟩
      · exact Or.inl h
      · obtain ⟨c6, hc6, hcl6⟩ := Cond.classLink_spec hown hl1 e.platform hpl
        obtain ⟨a8, b8, h1, h2, h3⟩ := hn1
        cases Option.some.inj (h1.symm.trans hcl)
        cases Option.some.inj (h2.symm.trans hc6)
        exact Or.inr ⟨hz0, _, hcl6, h3⟩)
  obtain ⟨g₀, hfr⟩ := X'.frames_eq
  have hcell9 : ((T.setVm vm').setFrames (.throwing q :: below)).heap[q]? = some ce := by
    show T.heap[q]? = some ce
    rw [hT]; exact hcell
  have hend : Ended ((T.setVm vm').setFrames (.throwing q :: below)) below (.threw q) := State.frames_setFrames _ (State.cur_lt_of_frames hfr)
  refine ⟨(T.setVm vm').setFrames (.throwing q :: below), ?_, .threw q, X'.here.running, hend, Or.inr ⟨q, rfl, E, ce, locs, hx _ hT (X'.ends _).1.alike, hcell9, hv, hcl, (X'.ends _).1, (X'.ends _).2.mono hc hs, hf⟩⟩
  rw [X.pushThrowing_eq]
  exact st
/-- a thing of a world lies in the heap -/
theorem vx_lt {D : va_G} {cl : List vw_C} {ws : va_W} {H1 : Heap} (h : va_P D cl ws H1) {k : Nat} {q : Nat × va_E} (hk : ws[k]? = some q) : q.1 < H1.size := (h k q hk).lt
end VXS
/-! ===== END ===== -/
/-! ===== BEGIN methods with a table of their own: called by a name, returning or throwing ===== -/
section VXH
/-! vx_backW, vx_callVX, vx_callSX, vx_callVW, vx_runVW, vx_runVX, vx_runSX, vx_ofWH follow the same proofs as their sisters above (Free/Laws.lean, Shelf42/LK1.lean); vx_outP calls Shelf42/NT130.lean (outThrough). -/
section
variable {l : Launch} {R : Room} {p : Program} {e : Env} {below : List Frame} {s : State} {sargs : Array Value} {y : MethodName} {len W9 : Nat}
theorem vx_backW {ws : List Cond} {rm : Room} {Pc : Array Value → State → Prop} {Qc : Array Value → State → Outcome → State → Prop} {XC : String → State → State → Prop} {mc ms : Nat} {free : Addr → Prop} {bytes : ByteArray} {maxL : Nat} {ret : Option FieldType} {hh : List (Nat × Nat × Nat × Nat)}
    (hM : vx_Met l y ws rm Pc Qc XC mc ms free) (hblind : FrameBlind Pc) (hrc : rm.cells = mc) (hrs : rm.slots = ms)
    (hframes : rm.frames + 1 ≤ R.frames) (hlocals : W9 + (maxL + 11) + rm.locals ≤ R.locals)
    (hws : ∀ w ∈ ws, ∀ a' U, s.WarmedH U.vm → w.before a' U = true) (hcode : Cond.codeWith y bytes maxL ret hh ∈ ws) (hinit : ∀ a' U, s.WarmedH U.vm → (Cond.initialized y.cls).before a' U = true) :
    vx_Back l R p e below s sargs y len W9 (PreOf R mc ms Pc) (PostOf Qc mc ms free) (vx_Post XC mc ms free) := by
  intro m meth c A g ig mk a X hg hsize hdg hW hn hp
  have h1 : (headSpec ws rm).pre.before a A.U = true := atoms_intro fun w hw => hws w hw _ _ X.warmed
  have h2 : (Cond.codeWith y bytes maxL ret hh).before a A.U = true := hws _ hcode _ _ X.warmed
  have h3 : (Cond.initialized y.cls).before a A.U = true := hinit _ _ X.warmed
  have h4 : A.cells + (headSpec ws rm).room.cells ≤ R.cells := by rw [show (headSpec ws rm).room.cells = mc from hrc]; exact hp.1
  have h5 : A.slots + (headSpec ws rm).room.slots ≤ R.slots := by rw [show (headSpec ws rm).room.slots = ms from hrs]; exact hp.2.1
  have hPc : Pc a (A.U.calling g mk a) := hblind _ _ _ _ hp.2.2
  obtain ⟨U, Ls, c0, s0⟩ := A
  dsimp only [Pt.U, Pt.locs, Pt.cells, Pt.slots] at h1 h2 h3 h4 h5 X hn hPc ⊢
  obtain ⟨m9, methY, cY, hn9, hmY, hcY, -, hlY, -⟩ := Cond.codeWith_spec h2
  cases Option.some.inj (hn9.symm.trans hn)
  obtain ⟨kY, hkY, -⟩ := className_of_methodNamed hn
  have hinitY : kY.init = .initialized := Cond.initialized_spec (findClass_of_methodNamed hn) hkY h3
  have h : At U g.method c below := by rw [hg]; exact X.here
  have hlocals9 : W9 + (maxL + 11) + (headSpec ws rm).room.locals ≤ R.locals := hlocals
  have happ : (headSpec ws rm).appliesLoose y e.platform (U.calling g mk a) = true :=
    Spec.appliesLoose_calling (g := g) h hdg hn hkY hinitY
      (X.room_calling (g := g) (R' := (headSpec ws rm).room) hsize hmY hcY hframes (by rw [hlY]; omega) h4 h5) h1
  obtain ⟨mid, hmid⟩ := h.above
  have hfr : (U.setTop g).frames = (.java g :: mid) ++ below := by rw [State.frames_setTop' g h.top, hmid]; rfl
  obtain ⟨o, s₂, hsteps, -, hend, hq⟩ := Steps.callFree hM p X.admits X.cas X.clock (acts := []) hfr happ hPc trivial
  have hq' : vx_Q Qc XC mc ms free a (U.calling g mk a) o s₂ := hq
  rw [State.frames_setTop' g h.top] at hend
  obtain ⟨g₀, hg0⟩ := Option.isSome_iff_exists.mp h.top
  obtain ⟨r, hr⟩ := State.topJava?_eq_some.mp hg0
  have hr' : (({ U with heap := s₂.heap, slotsUsed := s₂.slotsUsed } : State).setVm s₂.vm).frames = .java g₀ :: r := hr
  rcases hq' with ⟨hqc, L, hfe, hL⟩ | ⟨q, rfl, E, ce, L, hx, hce, hcv, hcl, hW₂, hsm, hL⟩
  · obtain ⟨⟨v, rfl⟩, hW₂, e2, q2, q3, q4, q5, q6⟩ := id hfe
    have e3 : s₂ = ({ (U.calling g mk a).setFrames s₂.frames with heap := s₂.heap, slotsUsed := s₂.slotsUsed } : State).setVm s₂.vm := by
      have : s₂ = ({ s₂ with vm := (U.calling g mk a).vm } : State).setVm s₂.vm := rfl
      rw [e2] at this
      exact this
    obtain ⟨c₂, i₂, len₂, hc₂, hd₂, hf₂⟩ := hend
    have hW' : U.WarmedH s₂.vm := hW₂
    have hcc : c₂ = c := by
      have h1 : s₂.code? g.method = U.code? g.method := by
        rw [State.code?_eq, State.code?_eq, hW'.alike.method?]
      exact Option.some.inj (hc₂.symm.trans (h1.trans h.code))
    subst hcc
    have hlen : len₂ = len := by rw [hdg] at hd₂; cases hd₂; rfl
    subst hlen
    have hs₂ : s₂ = (({ U with heap := s₂.heap, slotsUsed := s₂.slotsUsed } : State).setVm s₂.vm).setTop { g with pc := g.pc + len₂, stack := v.toList ++ g.stack } := by
      refine e3.trans ?_
      rw [hf₂, State.calling_eq h.top, State.setFrames_setFrames, State.setTop_of_frames _ hr', hr]
      rfl
    have hsame : U.sameButNew ({ U with heap := s₂.heap, slotsUsed := s₂.slotsUsed } : State) L mc ms := by
      refine ⟨?_, q2, q3, q4, q5, q6⟩
      obtain ⟨t, ht, -⟩ := State.frames_cons hr
      show ({ U with heap := s₂.heap, slotsUsed := s₂.slotsUsed } : State) = { U.setFrames U.frames with heap := s₂.heap, slotsUsed := s₂.slotsUsed }
      rw [State.setFrames_self ht]
    subst hg
    refine Or.inl ⟨v, ⟨(({ U with heap := s₂.heap, slotsUsed := s₂.slotsUsed } : State).setVm s₂.vm), Ls ++ L, c0 + mc, s0 + ms⟩,
      ⟨X.admits, X.cas, X.clock, X.frames, X.room, X.hears, X.method, X.code, (X.here.setHeapUsed s₂.heap s₂.slotsUsed).setVm hW'.alike, X.tail, State.WarmedH.trans X.warmed hW', X.limits, X.bytes, X.same.trans (hsame.setVm s.vm)⟩,
      ⟨g, mk, s₂, L, rfl, rfl, hqc, rfl, hL, rfl, rfl⟩, ?_⟩
    show Steps p.tables e below _ ((({ U with heap := s₂.heap, slotsUsed := s₂.slotsUsed } : State).setVm s₂.vm).setTop { g with pc := g.pc + len₂, stack := v.toList ++ g.stack })
    rw [← hs₂]
    exact hsteps
  · obtain ⟨e2, q2, q3, q4, q5, q6⟩ := id hsm
    have e3 : s₂ = ({ (U.calling g mk a).setFrames s₂.frames with heap := s₂.heap, slotsUsed := s₂.slotsUsed } : State).setVm s₂.vm := by
      have : s₂ = ({ s₂ with vm := (U.calling g mk a).vm } : State).setVm s₂.vm := rfl
      rw [e2] at this
      exact this
    have hf₂ : s₂.frames = .throwing q :: .java g :: U.frames.tail := hend
    have hW' : U.WarmedH s₂.vm := hW₂
    have hs₂ : s₂ = ((({ U with heap := s₂.heap, slotsUsed := s₂.slotsUsed } : State).setVm s₂.vm).setTop g).pushFrame (.throwing q) := by
      refine e3.trans ?_
      rw [hf₂, State.calling_eq h.top, State.setFrames_setFrames, State.pushFrame, State.frames_setTop _ hr', State.setTop_of_frames _ hr', State.setFrames_setFrames, hr]
      rfl
    have hsame : U.sameButNew ({ U with heap := s₂.heap, slotsUsed := s₂.slotsUsed } : State) L mc ms := by
      refine ⟨?_, q2, q3, q4, q5, q6⟩
      obtain ⟨t, ht, -⟩ := State.frames_cons hr
      show ({ U with heap := s₂.heap, slotsUsed := s₂.slotsUsed } : State) = { U.setFrames U.frames with heap := s₂.heap, slotsUsed := s₂.slotsUsed }
      rw [State.setFrames_self ht]
    subst hg
    refine Or.inr ⟨q, ⟨(({ U with heap := s₂.heap, slotsUsed := s₂.slotsUsed } : State).setVm s₂.vm), Ls ++ L, c0 + mc, s0 + ms⟩,
      ⟨X.admits, X.cas, X.clock, X.frames, X.room, X.hears, X.method, X.code, (X.here.setHeapUsed s₂.heap s₂.slotsUsed).setVm hW'.alike, X.tail, State.WarmedH.trans X.warmed hW', X.limits, X.bytes, X.same.trans (hsame.setVm s.vm)⟩,
      ⟨g, mk, s₂, L, E, ce, rfl, rfl, hx, hce, hcv, hcl, rfl, hL, rfl, rfl⟩, ?_⟩
    show Steps p.tables e below _ (((({ U with heap := s₂.heap, slotsUsed := s₂.slotsUsed } : State).setVm s₂.vm).setTop g).pushFrame (.throwing q))
    rw [← hs₂]
    exact hsteps
end
variable {p : Program} {l : Launch} {e : Env} {R : Room} {s : State} {m : MethodId} {args : Array Value} {below : List Frame} {meth : Method} {c : Code} {T : State} {H : Heap} {locs : List Loc} {cells slots : Nat}
theorem vx_callVX (X : Stand p l e R s m args below meth c T locs cells slots) (hexec : p.tables.exec = Jvm.exec) {own C : String} {index : Nat} {y : MethodName} {bytes : ByteArray} {maxL : Nat} {ret : Option FieldType} {hh : List (Nat × Nat × Nat × Nat)}
    (hown : s.vm.findClass own = some m.cls) (hlink : (Cond.methodLink own index y).before args s = true) (hinst : (Cond.instanceMethod y).before args s = true) (hsel : (Cond.selects C y y).before args s = true)
    (hcode : (Cond.codeWith y bytes maxL ret hh).before args s = true) (hy : y.cls ≠ "java/lang/invoke/MethodHandle" ∧ y.cls ≠ "java/lang/invoke/VarHandle")
    {W9 : Nat} {Pre : Pt → Array Value → Prop} {Post : Pt → Array Value → Option Value → Pt → Prop} {PostX : Pt → Array Value → Addr → Pt → Prop} (hK : vx_Back l R p e below s args y 3 W9 Pre Post PostX)
    {b : Addr} {cellB : Cell} (hcell : T.heap[b]? = some cellB) (hobj : cellB.vm.isStatics = false) (hcls : s.vm.findClass C = some cellB.cls)
    {g : JFrame} (hg : g.method = m) (hsize : g.locals.size = c.maxLocals) {argsL rest : List Value} (hlen : ∀ sig, parseMethodDescriptor y.desc = some sig → argsL.length = sig.parameters.length)
    (hstack : g.stack = argsL.reverse ++ .ref b :: rest) (hW : 2 * g.monitorRoom + (rest.map fun v => v.category).sum ≤ W9) (hdg : decode c.code g.pc = .ok (.invokevirtual index, 3))
    (hpre : ∀ vm₁, s.WarmedH vm₁ → Pre ⟨T.setVm vm₁, locs, cells, slots⟩ (Value.ref b :: argsL).toArray) :
    (∃ (v : Option Value) (vm₁ : Vm) (B : Pt), s.WarmedH vm₁ ∧ Stand p l e R s m args below meth c B.U B.locs B.cells B.slots ∧ Post ⟨T.setVm vm₁, locs, cells, slots⟩ (Value.ref b :: argsL).toArray v B ∧
      ∀ target, Steps p.tables e below (B.U.setTop { g with pc := g.pc + 3, stack := v.toList ++ rest }) target → Steps p.tables e below (T.setTop g) target) ∨
    (∃ (q : Addr) (vm₁ : Vm) (B : Pt), s.WarmedH vm₁ ∧ Stand p l e R s m args below meth c B.U B.locs B.cells B.slots ∧ PostX ⟨T.setVm vm₁, locs, cells, slots⟩ (Value.ref b :: argsL).toArray q B ∧
      Steps p.tables e below (T.setTop g) ((B.U.setTop { g with stack := rest }).pushFrame (.throwing q))) := by
  obtain ⟨mk, methM, hnamed, hmethM, hstM, habM⟩ := Cond.instanceMethod_spec hinst
  obtain ⟨m8, methM', cM, hn8, hmethM', -, -, -, -, -, -, hsigM⟩ := Cond.codeWith_spec hcode
  cases Option.some.inj (hn8.symm.trans hnamed)
  cases hmethM.symm.trans hmethM'
  obtain ⟨c2, r2, m2, q1, q2, q3, q4, kP, hkP, hkPi⟩ := Cond.selects_spec hsel
  cases hcls.symm.trans q1
  cases (State.methodFound?_of_named hnamed hy).symm.trans q2
  cases hnamed.symm.trans q3
  have hselP : selectMethod e.platform s.vm cellB.cls mk = .method mk := by rw [Launch.admits_selectMethod X.admits]; exact q4
  obtain ⟨vm₁, X₁, hstep₁⟩ := X.invokevirtual hexec hown hlink hnamed hmethM hstM hkP hkPi hy (a := b) (cell := cellB) hcell
    (fun z h => by rw [h] at hobj; cases hobj) hselP hmethM habM hkP hkPi (g := g) hg (argsL := argsL) (rest := rest) (hlen _ hsigM) hstack hdg
  rcases hK m meth c ⟨T.setVm vm₁, locs, cells, slots⟩ { g with stack := rest } (.invokevirtual index) mk (Value.ref b :: argsL).toArray X₁ hg hsize hdg hW (X₁.named hnamed) (hpre vm₁ X₁.warmed) with ⟨v, B, X', hpost, hsteps⟩ | ⟨q, B, X', hpost, hsteps⟩
  · exact Or.inl ⟨v, vm₁, B, X₁.warmed, X', hpost, fun target h => hstep₁ _ fun acts => by rw [doInvoke_state]; exact hsteps.trans h⟩
  · exact Or.inr ⟨q, vm₁, B, X₁.warmed, X', hpost, hstep₁ _ fun acts => by rw [doInvoke_state]; exact hsteps⟩
theorem vx_callSX (X : Stand p l e R s m args below meth c T locs cells slots) (hexec : p.tables.exec = Jvm.exec) {own : String} {index : Nat} {y : MethodName} {bytes : ByteArray} {maxL : Nat} {ret : Option FieldType} {hh : List (Nat × Nat × Nat × Nat)}
    (hown : s.vm.findClass own = some m.cls) (hlink : (Cond.methodLink own index y).before args s = true) (hstat : (Cond.static y).before args s = true) (hinit : (Cond.initialized y.cls).before args s = true)
    (hcode : (Cond.codeWith y bytes maxL ret hh).before args s = true) (hy : y.cls ≠ "java/lang/invoke/MethodHandle" ∧ y.cls ≠ "java/lang/invoke/VarHandle")
    {W9 : Nat} {Pre : Pt → Array Value → Prop} {Post : Pt → Array Value → Option Value → Pt → Prop} {PostX : Pt → Array Value → Addr → Pt → Prop} (hK : vx_Back l R p e below s args y 3 W9 Pre Post PostX)
    {g : JFrame} (hg : g.method = m) (hsize : g.locals.size = c.maxLocals) {argsL rest : List Value} (hlen : ∀ sig, parseMethodDescriptor y.desc = some sig → argsL.length = sig.parameters.length)
    (hstack : g.stack = argsL.reverse ++ rest) (hW : 2 * g.monitorRoom + (rest.map fun v => v.category).sum ≤ W9) (hdg : decode c.code g.pc = .ok (.invokestatic index, 3))
    (hpre : ∀ vm₁, s.WarmedH vm₁ → Pre ⟨T.setVm vm₁, locs, cells, slots⟩ argsL.toArray) :
    (∃ (v : Option Value) (vm₁ : Vm) (B : Pt), s.WarmedH vm₁ ∧ Stand p l e R s m args below meth c B.U B.locs B.cells B.slots ∧ Post ⟨T.setVm vm₁, locs, cells, slots⟩ argsL.toArray v B ∧
      ∀ target, Steps p.tables e below (B.U.setTop { g with pc := g.pc + 3, stack := v.toList ++ rest }) target → Steps p.tables e below (T.setTop g) target) ∨
    (∃ (q : Addr) (vm₁ : Vm) (B : Pt), s.WarmedH vm₁ ∧ Stand p l e R s m args below meth c B.U B.locs B.cells B.slots ∧ PostX ⟨T.setVm vm₁, locs, cells, slots⟩ argsL.toArray q B ∧
      Steps p.tables e below (T.setTop g) ((B.U.setTop { g with stack := rest }).pushFrame (.throwing q))) := by
  obtain ⟨mk, methM, cM, hnamed, hmethM, -, -, -, -, -, -, hsigM⟩ := Cond.codeWith_spec hcode
  have hstatic : methM.isStatic = true := Cond.static_spec hnamed hmethM hstat
  obtain ⟨kP, hkP, -⟩ := className_of_methodNamed hnamed
  have hinitP : kP.init = .initialized := Cond.initialized_spec (findClass_of_methodNamed hnamed) hkP hinit
  obtain ⟨vm₁, X₁, hstep₁⟩ := X.invokestatic hexec hown hlink hnamed hmethM hstatic hkP hinitP hy (g := g) hg (argsL := argsL) (rest := rest) (hlen _ hsigM) hstack hdg
  rcases hK m meth c ⟨T.setVm vm₁, locs, cells, slots⟩ { g with stack := rest } (.invokestatic index) mk argsL.toArray X₁ hg hsize hdg hW (X₁.named hnamed) (hpre vm₁ X₁.warmed) with ⟨v, B, X', hpost, hsteps⟩ | ⟨q, B, X', hpost, hsteps⟩
  · exact Or.inl ⟨v, vm₁, B, X₁.warmed, X', hpost, fun target h => hstep₁ _ fun acts => by rw [doInvoke_state]; exact hsteps.trans h⟩
  · exact Or.inr ⟨q, vm₁, B, X₁.warmed, X', hpost, hstep₁ _ fun acts => by rw [doInvoke_state]; exact hsteps⟩
theorem vx_callVW (X : Stand p l e R s m args below meth c T locs cells slots) (hexec : p.tables.exec = Jvm.exec) {own C : String} {index : Nat} {y : MethodName} {bytes : ByteArray} {maxL : Nat} {ret : Option FieldType} {hh : List (Nat × Nat × Nat × Nat)}
    (hown : s.vm.findClass own = some m.cls) (hlink : (Cond.methodLink own index y).before args s = true) (hinst : (Cond.instanceMethod y).before args s = true) (hsel : (Cond.selects C y y).before args s = true)
    (hcode : (Cond.codeWith y bytes maxL ret hh).before args s = true) (hy : y.cls ≠ "java/lang/invoke/MethodHandle" ∧ y.cls ≠ "java/lang/invoke/VarHandle")
    {W9 : Nat} {Pre : Pt → Array Value → Prop} {Post : Pt → Array Value → Option Value → Pt → Prop} (hK : Back l R p e below s args y 3 W9 Pre Post)
    {b : Addr} {cellB : Cell} (hcell : T.heap[b]? = some cellB) (hobj : cellB.vm.isStatics = false) (hcls : s.vm.findClass C = some cellB.cls)
    {g : JFrame} (hg : g.method = m) (hsize : g.locals.size = c.maxLocals) {argsL rest : List Value} (hlen : ∀ sig, parseMethodDescriptor y.desc = some sig → argsL.length = sig.parameters.length)
    (hstack : g.stack = argsL.reverse ++ .ref b :: rest) (hW : 2 * g.monitorRoom + (rest.map fun v => v.category).sum ≤ W9) (hdg : decode c.code g.pc = .ok (.invokevirtual index, 3))
    (hpre : ∀ vm₁, s.WarmedH vm₁ → Pre ⟨T.setVm vm₁, locs, cells, slots⟩ (Value.ref b :: argsL).toArray) :
    ∃ (v : Option Value) (vm₁ : Vm) (B : Pt), s.WarmedH vm₁ ∧ Stand p l e R s m args below meth c B.U B.locs B.cells B.slots ∧ Post ⟨T.setVm vm₁, locs, cells, slots⟩ (Value.ref b :: argsL).toArray v B ∧
      ∀ target, Steps p.tables e below (B.U.setTop { g with pc := g.pc + 3, stack := v.toList ++ rest }) target → Steps p.tables e below (T.setTop g) target := by
  obtain ⟨mk, methM, hnamed, hmethM, hstM, habM⟩ := Cond.instanceMethod_spec hinst
  obtain ⟨m8, methM', cM, hn8, hmethM', -, -, -, -, -, -, hsigM⟩ := Cond.codeWith_spec hcode
  cases Option.some.inj (hn8.symm.trans hnamed)
  cases hmethM.symm.trans hmethM'
  obtain ⟨c2, r2, m2, q1, q2, q3, q4, kP, hkP, hkPi⟩ := Cond.selects_spec hsel
  cases hcls.symm.trans q1
  cases (State.methodFound?_of_named hnamed hy).symm.trans q2
  cases hnamed.symm.trans q3
  have hselP : selectMethod e.platform s.vm cellB.cls mk = .method mk := by rw [Launch.admits_selectMethod X.admits]; exact q4
  obtain ⟨vm₁, X₁, hstep₁⟩ := X.invokevirtual hexec hown hlink hnamed hmethM hstM hkP hkPi hy (a := b) (cell := cellB) hcell
    (fun z h => by rw [h] at hobj; cases hobj) hselP hmethM habM hkP hkPi (g := g) hg (argsL := argsL) (rest := rest) (hlen _ hsigM) hstack hdg
  obtain ⟨v, B, X', hpost, hsteps⟩ := hK m meth c ⟨T.setVm vm₁, locs, cells, slots⟩ { g with stack := rest } (.invokevirtual index) mk (Value.ref b :: argsL).toArray X₁ hg hsize hdg hW (X₁.named hnamed) (hpre vm₁ X₁.warmed)
  exact ⟨v, vm₁, B, X₁.warmed, X', hpost, fun target h => hstep₁ _ fun acts => by rw [doInvoke_state]; exact hsteps.trans h⟩
abbrev vx_CVW (R : Room) (s : State) (args : Array Value) (own C : String) (index : Nat) (y : MethodName) (bytes : ByteArray) (maxL : Nat) (ret : Option FieldType) (hh : List (Nat × Nat × Nat × Nat)) (ws : List Cond) (rm : Room) (mc ms n : Nat) : Prop :=
  (rm.cells = mc ∧ rm.slots = ms ∧ rm.frames + 1 ≤ R.frames ∧ 8 + (maxL + 11) + rm.locals ≤ R.locals ∧ (∀ w ∈ ws, ∀ (a' : Array Value) (U : State), s.WarmedH U.vm → w.before a' U = true) ∧ Cond.codeWith y bytes maxL ret hh ∈ ws) ∧
  (Cond.codeWith y bytes maxL ret hh).before args s = true ∧ (Cond.initialized y.cls).before args s = true ∧ (y.cls ≠ "java/lang/invoke/MethodHandle" ∧ y.cls ≠ "java/lang/invoke/VarHandle") ∧
  (∀ sig, parseMethodDescriptor y.desc = some sig → n = sig.parameters.length) ∧ (Cond.methodLink own index y).before args s = true ∧ (Cond.instanceMethod y).before args s = true ∧ (Cond.selects C y y).before args s = true
theorem vx_cwVW {own C : String} {index maxL mc ms : Nat} {y : MethodName} {bytes : ByteArray} {ret : Option FieldType} {hh : List (Nat × Nat × Nat × Nat)} {Ts ws ws' : List Cond} {rm : Room} (n : Nat) (ht : ∀ w ∈ Ts, w.before args s = true) (hT : GoodIn Ts (wsV own index C y ws)) (hw : ws = Cond.codeWith y bytes maxL ret hh :: ws') (hrc : rm.cells = mc) (hrs : rm.slots = ms)
    (hd : y.cls = C ∧ y.cls ≠ "java/lang/invoke/MethodHandle" ∧ y.cls ≠ "java/lang/invoke/VarHandle" ∧ (parseMethodDescriptor y.desc).map (fun d => d.parameters.length) = some n) (hR : rm.frames + 1 ≤ R.frames ∧ 8 + (maxL + 11) + rm.locals ≤ R.locals) :
    vx_CVW R s args own C index y bytes maxL ret hh ws rm mc ms n := by
  obtain ⟨hC, hd⟩ := hd
  subst hC
  have ok : ∀ w ∈ wsV own index y.cls y ws, w.before args s = true := fun w h => ht w (hT w h).1
  have hG : GoodIn Ts ws := fun w h => hT w (by unfold wsV; exact List.mem_append_right _ h)
  have hc : Cond.codeWith y bytes maxL ret hh ∈ ws := by rw [hw]; exact List.mem_cons_self
  refine ⟨⟨hrc, hrs, hR.1, hR.2, pay_in ht hG, hc⟩, ht _ (hG _ hc).1, ok _ (by simp [wsV]), ⟨hd.1, hd.2.1⟩, fun sig h => ?_, ok _ (by simp [wsV]), ok _ (by simp [wsV]), ok _ (by simp [wsV])⟩
  have h2 := hd.2.2
  rw [h] at h2
  exact (Option.some.inj h2).symm
theorem vx_runVW {y : MethodName} {bytes cc : ByteArray} {maxL nL mc ms n index : Nat} {ret : Option FieldType} {hh : List (Nat × Nat × Nat × Nat)} {ws : List Cond} {rm : Room} {Pc : Array Value → State → Prop} {Qc : Array Value → State → Outcome → State → Prop} {free : Addr → Prop} {Ts : List Cond} {own C : String} {b : Addr} {As rest : List Value} {g : JFrame}
    (S : CallFix p m c cc nL s args Ts own) (hM : Met l y ws rm Pc Qc mc ms free) (cw : vx_CVW R s args own C index y bytes maxL ret hh ws rm mc ms n) (hp : PreV s H C b Pc As)
    (hg : g.method = m) (hn : As.length = n) (hsize : g.locals.size = nL) (hstack : g.stack = As.reverse ++ .ref b :: rest) (hW : 2 * g.monitorRoom + (rest.map fun v => v.category).sum ≤ 8) (hdg : decode cc g.pc = .ok (.invokevirtual index, 3)) (hf : cells + mc ≤ R.cells ∧ slots + ms ≤ R.slots) :
    va_Run p l e R s m args below meth c H locs cells slots mc ms g rest (Qc (Value.ref b :: As).toArray) free := by
  obtain ⟨⟨hrc, hrs, hfr, hlo, hws, hcw⟩, hcode, hini, hy, hlen, hl, hin, hse⟩ := cw
  have hK : Back l R p e below s args y 3 8 (PreOf R mc ms Pc) (PostOf Qc mc ms free) := va_backW (hh := hh) (bytes := bytes) (maxL := maxL) (ret := ret) hM hp.1 hrc hrs hfr hlo hws hcw (fun a' U hW => word_at hW (Or.inl (by first | rfl | simp [Cond.onTables, Cond.keeps, Cond.steady])) hini)
  obtain ⟨hx, hb, hml, ho, -⟩ := S
  obtain ⟨-, ⟨cellB, hcB, hoB, hclB⟩, hPc⟩ := hp
  intro T hT X
  obtain ⟨v, vm₁, ⟨U', l2, c2, s2⟩, hW₁, X', ⟨g', mk, t, L, e1, e2, hq, h1, hL, h2, h3⟩, st⟩ := vx_callVW X hx (C := C) (hh := hh) (bytes := bytes) (maxL := maxL) (ret := ret) ho hl hin hse hcode hy hK (by rw [hT]; exact hcB) hoB hclB hg (hsize.trans hml.symm) (argsL := As) (rest := rest) (fun sig h => hn.trans (hlen sig h)) hstack hW (by rw [hb]; exact hdg)
    (fun vm₁ hW₁ => ⟨hf.1, hf.2, hPc (T.setVm vm₁) hT hW₁⟩)
  dsimp only [Pt.U, Pt.locs, Pt.cells, Pt.slots] at X' e1 e2 h1 h2 h3 st
  subst h1; subst h2; subst h3
  exact ⟨v, (T.setVm vm₁).calling g' mk (Value.ref b :: As).toArray, t, U', L, hT, X', hL, e1, e2, hq, st⟩
section
variable {y : MethodName} {bytes cc : ByteArray} {maxL nL mc ms n index : Nat} {ret : Option FieldType} {ws : List Cond} {rm : Room} {Pc : Array Value → State → Prop} {Qc : Array Value → State → Outcome → State → Prop} {XC : String → State → State → Prop} {free : Addr → Prop} {Ts : List Cond} {own C : String} {b : Addr} {As rest : List Value} {g : JFrame}
theorem vx_runVX {hh : List (Nat × Nat × Nat × Nat)} (S : CallFix p m c cc nL s args Ts own) (hM : vx_Met l y ws rm Pc Qc XC mc ms free) (cw : vx_CVW R s args own C index y bytes maxL ret hh ws rm mc ms n) (hp : PreV s H C b Pc As)
    (hg : g.method = m) (hn : As.length = n) (hsize : g.locals.size = nL) (hstack : g.stack = As.reverse ++ .ref b :: rest) (hW : 2 * g.monitorRoom + (rest.map fun v => v.category).sum ≤ 8) (hdg : decode cc g.pc = .ok (.invokevirtual index, 3)) (hf : cells + mc ≤ R.cells ∧ slots + ms ≤ R.slots) :
    vx_Run p l e R s m args below meth c H locs cells slots mc ms g rest (Qc (Value.ref b :: As).toArray) XC free := by
  obtain ⟨⟨hrc, hrs, hfr, hlo, hws, hcw⟩, hcode, hini, hy, hlen, hl, hin, hse⟩ := cw
  have hK : vx_Back l R p e below s args y 3 8 (PreOf R mc ms Pc) (PostOf Qc mc ms free) (vx_Post XC mc ms free) := vx_backW (hh := hh) (bytes := bytes) (maxL := maxL) (ret := ret) hM hp.1 hrc hrs hfr hlo hws hcw (fun a' U hW => word_at hW (Or.inl (by first | rfl | simp [Cond.onTables, Cond.keeps, Cond.steady])) hini)
  obtain ⟨hx, hb, hml, ho, -⟩ := S
  obtain ⟨-, ⟨cellB, hcB, hoB, hclB⟩, hPc⟩ := hp
  intro T hT X
  rcases vx_callVX X hx (C := C) (hh := hh) (bytes := bytes) (maxL := maxL) (ret := ret) ho hl hin hse hcode hy hK (by rw [hT]; exact hcB) hoB hclB hg (hsize.trans hml.symm) (argsL := As) (rest := rest) (fun sig h => hn.trans (hlen sig h)) hstack hW (by rw [hb]; exact hdg)
    (fun vm₁ hW₁ => ⟨hf.1, hf.2, hPc (T.setVm vm₁) hT hW₁⟩) with ⟨v, vm₁, ⟨U', l2, c2, s2⟩, hW₁, X', ⟨g', mk, t, L, e1, e2, hq, h1, hL, h2, h3⟩, st⟩ | ⟨q, vm₁, ⟨U', l2, c2, s2⟩, hW₁, X', ⟨g', mk, t, L, E, ce, e1, e2, hq, hce, hcv, hcl, h1, hL, h2, h3⟩, st⟩
  · dsimp only [Pt.U, Pt.locs, Pt.cells, Pt.slots] at X' e1 e2 h1 h2 h3 st
    subst h1; subst h2; subst h3
    exact Or.inl ⟨v, (T.setVm vm₁).calling g' mk (Value.ref b :: As).toArray, t, U', L, hT, X', hL, e1, e2, hq, st⟩
  · dsimp only [Pt.U, Pt.locs, Pt.cells, Pt.slots] at X' e1 e2 h1 h2 h3 st hcl
    subst h1; subst h2; subst h3
    exact Or.inr ⟨q, (T.setVm vm₁).calling g' mk (Value.ref b :: As).toArray, t, U', L, E, ce, hT, X', hL, e1, e2, hq, hce, hcv, vx_cls hW₁ hcl, st⟩
theorem vx_runSX {hh : List (Nat × Nat × Nat × Nat)} (S : CallFix p m c cc nL s args Ts own) (hM : vx_Met l y ws rm Pc Qc XC mc ms free) (cw : vx_CSW R s args own index y bytes maxL ret hh ws rm mc ms n) (hp : PreS s H Pc As)
    (hg : g.method = m) (hn : As.length = n) (hsize : g.locals.size = nL) (hstack : g.stack = As.reverse ++ rest) (hW : 2 * g.monitorRoom + (rest.map fun v => v.category).sum ≤ 8) (hdg : decode cc g.pc = .ok (.invokestatic index, 3)) (hf : cells + mc ≤ R.cells ∧ slots + ms ≤ R.slots) :
    vx_Run p l e R s m args below meth c H locs cells slots mc ms g rest (Qc As.toArray) XC free := by
  obtain ⟨⟨hrc, hrs, hfr, hlo, hws, hcw⟩, hcode, hini, hy, hlen, hl, hstt⟩ := cw
  have hK : vx_Back l R p e below s args y 3 8 (PreOf R mc ms Pc) (PostOf Qc mc ms free) (vx_Post XC mc ms free) := vx_backW (hh := hh) (bytes := bytes) (maxL := maxL) (ret := ret) hM hp.1 hrc hrs hfr hlo hws hcw (fun a' U hW => word_at hW (Or.inl (by first | rfl | simp [Cond.onTables, Cond.keeps, Cond.steady])) hini)
  obtain ⟨hx, hb, hml, ho, -⟩ := S
  intro T hT X
  rcases vx_callSX X hx (hh := hh) (bytes := bytes) (maxL := maxL) (ret := ret) ho hl hstt hini hcode hy hK hg (hsize.trans hml.symm) (argsL := As) (rest := rest) (fun sig h => hn.trans (hlen sig h)) hstack hW (by rw [hb]; exact hdg)
    (fun vm₁ hW₁ => ⟨hf.1, hf.2, hp.2 (T.setVm vm₁) hT hW₁⟩) with ⟨v, vm₁, ⟨U', l2, c2, s2⟩, hW₁, X', ⟨g', mk, t, L, e1, e2, hq, h1, hL, h2, h3⟩, st⟩ | ⟨q, vm₁, ⟨U', l2, c2, s2⟩, hW₁, X', ⟨g', mk, t, L, E, ce, e1, e2, hq, hce, hcv, hcl, h1, hL, h2, h3⟩, st⟩
  · dsimp only [Pt.U, Pt.locs, Pt.cells, Pt.slots] at X' e1 e2 h1 h2 h3 st
    subst h1; subst h2; subst h3
    exact Or.inl ⟨v, (T.setVm vm₁).calling g' mk As.toArray, t, U', L, hT, X', hL, e1, e2, hq, st⟩
  · dsimp only [Pt.U, Pt.locs, Pt.cells, Pt.slots] at X' e1 e2 h1 h2 h3 st hcl
    subst h1; subst h2; subst h3
    exact Or.inr ⟨q, (T.setVm vm₁).calling g' mk As.toArray, t, U', L, E, ce, hT, X', hL, e1, e2, hq, hce, hcv, vx_cls hW₁ hcl, st⟩
end
end VXH
theorem vx_ofWH {l : Launch} {y : MethodName} {ws ws' : List Cond} {rm : Room} {Pc : Array Value → State → Prop} {Qc : Array Value → State → Outcome → State → Prop} {XC : String → State → State → Prop} {mc ms : Nat} {free : Addr → Prop} {cc : ByteArray} {maxL : Nat} {ret : Option FieldType} {hh : List (Nat × Nat × Nat × Nat)}
    (hy : plainName y.cls = true) (hw : ws = Cond.codeWith y cc maxL ret hh :: ws')
    (body : ∀ p e s m args below meth c s₁, BodyLoose p l y (headSpec ws rm) cc maxL ret e s m args below meth c s₁ → c.maxLocals = maxL → Pc args s →
      W p l e (headSpec ws rm).room s m args below meth c s.heap [] 0 0 (vx_MQ below Qc XC args s mc ms free) (entryFrame m args maxL)) : vx_Met l y ws rm Pc Qc XC mc ms free := by
  refine MetFree.of_bodyS (code := cc) (maxLocals := maxL) (ret := ret) hy ?_ ?_
  · intro args s m h hn
    obtain ⟨m9, meth, c, hn9, h1, h2, h3, h4, -, h5, h6, -⟩ := Cond.codeWith_spec (atoms_spec (ws := ws) h _ (by rw [hw]; exact List.mem_cons_self))
    cases hn.symm.trans hn9
    exact ⟨meth, c, h1, h2, h3, h4, h5, h6⟩
  · intro p e s m args below meth c s₁ B hml hP _
    have hh0 : s₁.heap = s.heap := by rw [B.state]; rfl
    obtain ⟨t, a1, o, b1, b2, b3⟩ := body p e s m args below meth c s₁ B hml hP s₁ hh0 (Stand.of_body B)
    exact ⟨t, o, a1, b1, b2, b3⟩
/-! ===== END ===== -/
/-! ===== BEGIN what the machine throws by itself, no traces kept ===== -/
section VXM
set_option maxHeartbeats 1000000 in
/-- the machine throws cls with the message text, no traces kept: from its note over the frame g to 'throwing' over the same frame (follows the proofs of Stand.vmThrowsMessage, Shelf/KitTracedVmS.lean, and Stand.throwsMessageColdBareV, StandMessageColdV.lean, without the step out of the frame) -/
theorem vx_vmAt {p : Program} {l : Launch} {e : Env} {R : Room} {s : State} {m₀ : MethodId} {args : Array Value} {below : List Frame} {meth : Method} {c : Code} {W : State} {locs : List Loc} {cells slots : Nat}
    (X : Stand p l e R s m₀ args below meth c W locs cells slots) (hexec : p.tables.exec = Jvm.exec) (htr : e.platform.stackTraces = false) {cls : String} {names : List String} {text : String}
    (hcls : Bundle.fit cls = true) (hnames : ∀ n ∈ names, Bundle.fit n = true) (hsoe : (cls == "java/lang/StackOverflowError") = false) (hoom : (cls == "java/lang/OutOfMemoryError") = false)
    (h : ∀ a ∈ Bundle.messageArmAtoms cls names, a.before args s = true)
    (hlocs : ∀ x ∈ locs, ∀ cell, s.heap[x.base]? = some cell → cell.vm.isStatics = false)
    (htext : (text == notModelled) = false) (hlimit : ¬ (stringBytes (stringToUtf16 text)).size > e.platform.arrayLengthLimit) (hheap : ¬ (stringBytes (stringToUtf16 text)).size * componentBytes .byte > e.platform.maxHeapBytes)
    {g : JFrame} (hg : g.method = m₀) (hsize : g.locals.size = c.maxLocals)
    (hRframes : names.length + 4 < R.frames) (hRlocals : 2 * g.monitorRoom + (g.stack.map fun v => v.category).sum + 10240 ≤ R.locals) (hshort : 13 * names.length + 55 ≤ 10240)
    (hRcells : cells + 3 ≤ R.cells) (hRslots : slots + ((stringBytes (stringToUtf16 text)).size + 4 + 6) ≤ R.slots) (hlocks : meth.locks = false) :
    ∃ (S : State) (q : Addr) (ce : Cell), (∀ target, Steps p.tables e below ((S.setTop g).pushFrame (.throwing q)) target → Steps p.tables e below ((W.setTop g).pushFrame (.throwNew cls (some text) none)) target) ∧
      Stand p l e R s m₀ args below meth c S locs (cells + 3) (slots + ((stringBytes (stringToUtf16 text)).size + 4 + 6)) ∧ S.heap[q]? = some ce ∧ s.vm.findClass cls = some ce.cls ∧ ce.vm = .none := by
  have howns : e.platform.frameOwnsMonitors = true := by rw [X.admits.platform]
  have hfin : e.platform.finalization = false := by rw [X.admits.platform]
  have hpl : e.platform.magicAccessors = ({} : Platform).magicAccessors := by rw [X.admits.platform]
  have a : ∀ x, x ∈ Bundle.messageArmAtoms cls names → x.holds args s none s [] = true := fun x hx => h x hx
  obtain ⟨T, Z0, L, -, Y⟩ := ThrowableC.of_atoms (args := args) howns hfin hpl (fun x hx => h x (by simp [Bundle.messageArmAtoms, hx]))
  obtain ⟨Z, M, LZ, LM, hnZ⟩ := Init0T.ofS_atoms (args := args) hpl L Y (fun x hx => h x (by simp [Bundle.messageArmAtoms, hx]))
  obtain ⟨P1, Ps, hlen, L1, hL, hP1m, hlink1, hlink⟩ := Bundle.chainS (args := args) hpl hnZ names cls hcls hnames (fun x hx => h x (by simp [Bundle.messageArmAtoms, hx]))
  obtain ⟨Zs, LZs, hn4, hfitv, hfitc⟩ := StringT.of_atoms (args := args) (fun x hx => h x (by simp [Bundle.messageArmAtoms, hx]))
  have hfound : s.vm.findClass cls = some P1.m.cls := findClass_of_methodNamed hP1m
  obtain ⟨c1, kX, hc1, hk, hord, -, -, hn6⟩ := Cond.instantiable_spec (a (.instantiable cls 6) (by simp [Bundle.messageArmAtoms]))
  cases Option.some.inj (hc1.symm.trans hfound)
  have hinit := Cond.initialized_spec hfound hk (a (.initialized cls) (by simp [Bundle.messageArmAtoms]))
  have hctor : kX.findMethod "<init>" "(Ljava/lang/String;)V" = some P1.m.idx := findMethod_of_methodNamed hP1m hk
  have hsel0 : selectMethod e.platform s.vm P1.m.cls T.fill0 = .method T.fill0 := by
    obtain ⟨c2, r2, m2, q1, q2, q3, q4, -⟩ := Cond.selects_spec (a (.selects cls Bundle.tFill0 Bundle.tFill0) (by simp [Bundle.messageArmAtoms]))
    cases Option.some.inj (q1.symm.trans hfound)
    cases Option.some.inj (q2.symm.trans (State.methodFound?_of_named Y.fill0 (by decide)))
    cases Option.some.inj (q3.symm.trans Y.fill0)
    rw [Launch.admits_selectMethod X.admits]; exact q4
  have hselF : selectMethod e.platform s.vm P1.m.cls T.fill = .method T.fill := by
    obtain ⟨c2, r2, m2, q1, q2, q3, q4, -⟩ := Cond.selects_spec (a (.selects cls Bundle.tFill Bundle.tFill) (by simp [Bundle.messageArmAtoms]))
    cases Option.some.inj (q1.symm.trans hfound)
    cases Option.some.inj (q2.symm.trans (State.methodFound?_of_named Y.fill (by decide)))
    cases Option.some.inj (q3.symm.trans Y.fill)
    rw [Launch.admits_selectMethod X.admits]; exact q4
  obtain ⟨cellS0, hcS0, hiss⟩ := Y.statics
  obtain ⟨u0, hu0⟩ := Cond.staticRefV Y.unassigned L.unassignedStatic L.statics hcS0 hiss (a (.isRef (.static Bundle.tN "UNASSIGNED_STACK" Bundle.steD)) (by simp [Bundle.messageArmAtoms]))
  obtain ⟨sen, hsen⟩ := Cond.staticRefV Y.sentinel L.sentinelStatic L.statics hcS0 hiss (a (.isRef (.static Bundle.tN "SUPPRESSED_SENTINEL" Bundle.listD)) (by simp [Bundle.messageArmAtoms]))
  obtain ⟨ci198, i198, fB, hk198, hg198, ha198, hsB, -, hnB, htB, hffB⟩ := Cond.ownField (t := .object "java/lang/Object") Y.found L.cls (by decide +kernel) (a (.fieldLink Bundle.tN 198 Bundle.tN "backtrace" "Ljava/lang/Object;") (by simp [Bundle.messageArmAtoms])) (a (.lays Bundle.tN Bundle.tN "backtrace" "Ljava/lang/Object;") (by simp [Bundle.messageArmAtoms])) e.platform hpl
  obtain ⟨cellS, hcS', heS, -, hkeep⟩ := X.same.2.2.2.2.2 T.aS cellS0 hcS0
  have hcellS : W.heap[T.aS]? = some cellS := hcS'
  have hout' : ∀ i, (⟨T.aS, i⟩ : Loc) ∉ locs := fun i hmem => by
    have := hlocs _ hmem cellS0 hcS0
    rw [hiss] at this; cases this
  have hknownS : cellS.vm ≠ .unknown := by
    rw [heS]; intro hu
    rw [show cellS0.vm = .unknown from hu] at hiss
    cases hiss
  have hvU : cellS.slots[T.fUnassigned.slot]? = some u0.v := by rw [hkeep _ (hout' _)]; exact hu0
  have hvSen : cellS.slots[T.fSentinel.slot]? = some sen.v := by rw [hkeep _ (hout' _)]; exact hsen
  obtain ⟨iM, hffM⟩ := Y.msg
  obtain ⟨tyC, dC, hdC, hdnC⟩ := Cond.laysAt hfound hk Y.cause (a (.lays cls Bundle.tN "cause" "Ljava/lang/Throwable;") (by simp [Bundle.messageArmAtoms]))
  obtain ⟨tyS, dS, hdS, hdnS⟩ := Cond.laysAt hfound hk Y.stack (a (.lays cls Bundle.tN "stackTrace" Bundle.steD) (by simp [Bundle.messageArmAtoms]))
  obtain ⟨tyP, dP, hdP, hdnP⟩ := Cond.laysAt hfound hk Y.supp (a (.lays cls Bundle.tN "suppressedExceptions" Bundle.listD) (by simp [Bundle.messageArmAtoms]))
  obtain ⟨tyM, dM, hdM, hdnM⟩ := Cond.laysAt hfound hk hffM (a (.lays cls Bundle.tN "detailMessage" "Ljava/lang/String;") (by simp [Bundle.messageArmAtoms]))
  obtain ⟨tyB, dB, hdB, hdnB⟩ := Cond.laysAt hfound hk hffB (a (.lays cls Bundle.tN "backtrace" "Ljava/lang/Object;") (by simp [Bundle.messageArmAtoms]))
  have bC := Cond.laysApart hdB hdC hdnB hdnC (by rw [hnB, Y.causeName]; decide)
  have bS := Cond.laysApart hdB hdS hdnB hdnS (by rw [hnB, Y.stackName]; decide)
  have bP := Cond.laysApart hdB hdP hdnB hdnP (by rw [hnB, Y.suppName]; decide)
  have hbk : ((preparedCellV T.toThrowableT (freshCell P1.m.cls kX) (W.heap.size + 2) u0 sen).withEntry W.cur).slots[fB.slot]? = some .null := by
    have := fresh_default (c := P1.m.cls) tyB
    rw [htB] at this
    simpa [preparedCellV, Cell.setSlot, Cell.withEntry, Array.getElem?_setIfInBounds, bC, bS, bP, bC.symm, bS.symm, bP.symm, defaultValue] using this
  have tkC := Takes.of_laid (v := .ref (W.heap.size + 2)) hk hord tyC (by rw [Y.causeType]; rfl)
  have tkS := Takes.of_laid (v := u0.v) hk hord tyS (by rw [Y.stackType]; exact fits_refV_array _ u0)
  have tkP := Takes.of_laid (v := sen.v) hk hord tyP (by rw [Y.suppType]; exact fits_refV_object _ sen)
  have tkM := Takes.of_laid (v := .ref (W.heap.size + 1)) hk hord tyM (by rw [Y.msgType]; rfl)
  have hskip : SkipFacts T e.platform s (fun u => u) u0 ((preparedCellV T.toThrowableT (freshCell P1.m.cls kX) (W.heap.size + 2) u0 sen).withEntry W.cur) := ⟨{ ci198 := ci198, i198 := i198, fBack := fB }, ⟨hk198, hg198, ha198, hsB⟩, hbk, fun _ _ => rfl⟩
  have h0 : At W g.method c below := by rw [hg]; exact X.here
  obtain ⟨hbeyond, hfreeW⟩ := X.vmMayThrow hsize (.throwNew cls (some text) none) (fun f hf => by cases hf) rfl hRlocals
  have hfr' : W.frames.length + Ps.length + 4 < (e.platform.stackLimits W.me).1 := by have := X.framesAbove hRframes; omega
  have hwd' : (stackUse (.java g :: W.frames.tail)).2 + 13 * Ps.length + 55 ≤ (e.platform.stackLimits W.me).2 := by have := X.stackAbove hsize (K := 13 * Ps.length + 55) (by omega); omega
  have hslots : W.slotsUsed + (stringBytes (stringToUtf16 text)).size + Zs.kS.instanceTypes.size + kX.instanceTypes.size ≤ e.platform.maxSlots := by
    have := X.slotsAbove hRslots
    rw [hn4, hn6]
    omega
  obtain ⟨vm', hW', st⟩ := Steps.vmThrowsMessageColdByV p (s₀ := s) (S := W) (g := g) h0 hexec T L Z LZ M LM X.warmed (t := W.cur) rfl Zs LZs P1 L1 Ps hL hlink1 hlink hsoe hoom hfound hk hinit hord hctor
    (Launch.admits_hotImplicitExceptions X.admits) hbeyond hfreeW htext hlimit hheap (X.cellsAbove hRcells) hslots (hfitv _) (hfitc _)
    (Nn := fun u => u) heapOnly_id (fun _ _ => rfl) (fun _ => rfl) (fun u x y => setCell_twice _ _ _ _) (fun _ => Nat.le_refl _) (cN := ((preparedCellV T.toThrowableT (freshCell P1.m.cls kX) (W.heap.size + 2) u0 sen).withEntry W.cur))
    hsel0 hcellS hknownS hvU tkS (fun _ hu => hu) (fun _ hu => hu) rfl rfl rfl (by simp [preparedCellV, Cell.setSlot, Cell.withEntry]) hskip (fun _ _ hA hW _ hroom _ hrest => L.nativeOff p htr hA hW hroom hrest) hselF hvSen tkC tkP tkM Y.objLocals rfl hfr' hwd'
  rw [plainBareV_eq T.toThrowableT (W.heap.size + 2) u0 sen (.ref (W.heap.size + 1)) W.cur rfl rfl] at st
  obtain ⟨-, -, w3, w4, -, -, -⟩ := withThrown_facts e.platform W Zs text P1.m.cls kX
  have X3 := ((X.pushed (bytesOf Zs.cB (stringToUtf16 text))).pushed (stringAt Zs.cS Zs.kS Zs.fv Zs.fc (stringToUtf16 text) W.heap.size)).pushed (freshCell P1.m.cls kX)
  rw [← withString_eq] at X3
  have X4 := X3.noted hW'
  have ha : (W.heap.size + 2) < ((withThrown W Zs text P1.m.cls kX).setVm vm').heap.size := by show _ < (withThrown W Zs text P1.m.cls kX).heap.size; rw [w3]; omega
  have hcell : ((withThrown W Zs text P1.m.cls kX).setVm vm').heap[(W.heap.size + 2)]? = some (freshCell P1.m.cls kX) := w4
  have X5 := ((((X4.stored hcell T.fCause.slot (.ref (W.heap.size + 2))).storedAgain ha T.fStack.slot u0.v).storedAgain ha T.fSupp.slot sen.v).storedAgain ha T.fStack.slot u0.v).storedAgain ha T.fMsg.slot (.ref (W.heap.size + 1))
  obtain ⟨g₁, hfrM⟩ := X5.frames_eq
  have hU : ((((withThrown W Zs text P1.m.cls kX).setVm vm').setCell (W.heap.size + 2) (plainBareV T.toThrowableT (freshCell P1.m.cls kX) (W.heap.size + 2) u0 sen (.ref (W.heap.size + 1)))).setTop g).pushFrame (.throwing (W.heap.size + 2)) = (((withThrown W Zs text P1.m.cls kX).setVm vm').setCell (W.heap.size + 2) (plainBareV T.toThrowableT (freshCell P1.m.cls kX) (W.heap.size + 2) u0 sen (.ref (W.heap.size + 1)))).setFrames (.throwing (W.heap.size + 2) :: .java g :: below) := by
    rw [State.pushFrame, State.frames_setTop _ hfrM, State.setTop_of_frames _ hfrM, State.setFrames_setFrames]
  have b1 : (bytesOf Zs.cB (stringToUtf16 text)).slots.size = (stringBytes (stringToUtf16 text)).size := by
    rw [(Cell.writeAll_facts _ _).2.2]; simp [bytes0]
  have b2 : (stringAt Zs.cS Zs.kS Zs.fv Zs.fc (stringToUtf16 text) W.heap.size).slots.size = 4 := by simp [string0, Cell.setSlot, hn4]
  have b3 : (freshCell P1.m.cls kX).slots.size = 6 := by simp [hn6]
  rw [b1, b2, b3] at X5
  have e9 : slots + (stringBytes (stringToUtf16 text)).size + 4 + 6 = slots + ((stringBytes (stringToUtf16 text)).size + 4 + 6) := by omega
  rw [e9] at X5
  simp only [List.append_assoc, List.cons_append, List.nil_append] at X5
  refine ⟨((withThrown W Zs text P1.m.cls kX).setVm vm').setCell (W.heap.size + 2) (plainBareV T.toThrowableT (freshCell P1.m.cls kX) (W.heap.size + 2) u0 sen (.ref (W.heap.size + 1))), W.heap.size + 2, _, fun target ht => st _ (by rw [X.tail, ← hU]; exact ht),
    X5.forget (fun y hy => ?_), heapAt_setCell_self _ ha, hfound, rfl⟩
  simp only [List.mem_cons, List.not_mem_nil, or_false] at hy
  have hge : s.heap.size ≤ W.heap.size := X.same.2.1
  rcases hy with rfl | rfl | rfl | rfl | rfl <;> exact Nat.le_trans hge (Nat.le_add_right _ 2)
set_option maxHeartbeats 1000000 in
/-- the machine throws NullPointerException, no traces kept: from its note over the frame g to 'throwing' over the same frame (follows the proof of Stand.vmThrowsNpe, Shelf42/KT2.lean; throwsNpeColdBareVAt, Shelf42/NT91.lean, called) -/
theorem vx_npeAt {p : Program} {l : Launch} {e : Env} {R : Room} {s : State} {m₀ : MethodId} {args : Array Value} {below : List Frame} {meth : Method} {c : Code} {W : State} {locs : List Loc} {cells slots : Nat}
    (X : Stand p l e R s m₀ args below meth c W locs cells slots) (hexec : p.tables.exec = Jvm.exec) (htr : e.platform.stackTraces = false) {n : Nat}
    (h : ∀ a ∈ Bundle.npeArmAtoms n, a.before args s = true)
    (hlocs : ∀ x ∈ locs, ∀ cell, s.heap[x.base]? = some cell → cell.vm.isStatics = false)
    {g : JFrame} (hg : g.method = m₀) (hsize : g.locals.size = c.maxLocals)
    (hRframes : 7 < R.frames) (hRlocals : 2 * g.monitorRoom + (g.stack.map fun v => v.category).sum + 10240 ≤ R.locals)
    (hRcells : cells + 1 ≤ R.cells) (hRslots : slots + n ≤ R.slots) (hlocks : meth.locks = false) :
    ∃ (S : State) (q : Addr) (ce : Cell), (∀ target, Steps p.tables e below ((S.setTop g).pushFrame (.throwing q)) target → Steps p.tables e below ((W.setTop g).pushFrame (.throwNew "java/lang/NullPointerException" none none)) target) ∧
      Stand p l e R s m₀ args below meth c S locs (cells + 1) (slots + n) ∧ S.heap[q]? = some ce ∧ s.vm.findClass "java/lang/NullPointerException" = some ce.cls ∧ ce.vm = .none := by
  have howns : e.platform.frameOwnsMonitors = true := by rw [X.admits.platform]
  have hfin : e.platform.finalization = false := by rw [X.admits.platform]
  have hpl : e.platform.magicAccessors = ({} : Platform).magicAccessors := by rw [X.admits.platform]
  have hpl2 : e.platform.arrayCloneIsPublic = true := by rw [X.admits.platform]
  have a' : ∀ x, x ∈ Bundle.npeArmAtoms n → x.holds args s none s [] = true := fun x hx => h x hx
  obtain ⟨T, Z, L, LZ, Y⟩ := ThrowableC.of_atoms (args := args) howns hfin hpl (fun x hx => h x (by simp [Bundle.npeArmAtoms, hx]))
  obtain ⟨N, LN, hcN, hnNF, hordN, hffS⟩ := NpeC.of_atoms (args := args) hpl hpl2 L Y (fun x hx => h x (by simp [Bundle.npeArmAtoms, hx]))
  obtain ⟨P1, L1, hP1m, hP1s⟩ := PassC.of_atoms (args := args) (s := s) hpl (X := Bundle.nN) (Y := Bundle.rN) (by decide) (by decide) LibCode.NullPointerException.Init0.at_0 LibCode.NullPointerException.Init0.at_1 LibCode.NullPointerException.Init0.at_4 (fun x hx => h x (by simp [Bundle.npeArmAtoms, hx]))
  obtain ⟨PR, LR, hPRm, hPRs⟩ := PassC.of_atoms (args := args) (s := s) hpl (X := Bundle.rN) (Y := Bundle.eN) (by decide) (by decide) LibCode.RuntimeException.Init0.at_0 LibCode.RuntimeException.Init0.at_1 LibCode.RuntimeException.Init0.at_4 (fun x hx => h x (by simp [Bundle.npeArmAtoms, hx]))
  obtain ⟨PE, LEx, hPEm, hPEs⟩ := PassC.of_atoms (args := args) (s := s) hpl (X := Bundle.eN) (Y := Bundle.tN) (by decide) (by decide) LibCode.Exception.Init0.at_0 LibCode.Exception.Init0.at_1 LibCode.Exception.Init0.at_4 (fun x hx => h x (by simp [Bundle.npeArmAtoms, hx]))
  have hfound : s.vm.findClass Bundle.nN = some P1.m.cls := findClass_of_methodNamed hP1m
  have ecls : N.cN = P1.m.cls := Option.some.inj (hcN.symm.trans hfound)
  have hk : s.vm.classes[P1.m.cls]? = some N.kN := by rw [← ecls]; exact LN.cls
  have hinit := Cond.initialized_spec hfound hk (a' (.initialized Bundle.nN) (by simp [Bundle.npeArmAtoms]))
  have hctor : N.kN.findMethod "<init>" "()V" = some P1.m.idx := findMethod_of_methodNamed hP1m hk
  obtain ⟨c1, k1, hc1, hk1, -, -, -, hn⟩ := Cond.instantiable_spec (a' (.instantiable Bundle.nN n) (by simp [Bundle.npeArmAtoms]))
  cases Option.some.inj (hc1.symm.trans hfound)
  cases Option.some.inj (hk1.symm.trans hk)
  have hfsz : (freshCell P1.m.cls N.kN).slots.size = n := by simp [hn]
  have hlink1 : P1.sup = PR.m := Option.some.inj (hP1s.symm.trans hPRm)
  have hlinkR : PR.sup = PE.m := Option.some.inj (hPRs.symm.trans hPEm)
  have hlinkE : PE.sup = Z.m T.toThrowableT := Option.some.inj (hPEs.symm.trans Y.init0)
  have hLs : ∀ P, P ∈ [PR, PE] → P.Links0 e.platform s := fun P hP => by
    simp only [List.mem_cons, List.not_mem_nil, or_false] at hP
    rcases hP with rfl | rfl
    · exact LR
    · exact LEx
  have hsel0 : selectMethod e.platform s.vm P1.m.cls T.fill0 = .method T.fill0 := by
    obtain ⟨c2, r2, m2, q1, q2, q3, q4, -⟩ := Cond.selects_spec (a' (.selects Bundle.nN Bundle.tFill0 Bundle.tFill0) (by simp [Bundle.npeArmAtoms]))
    cases Option.some.inj (q1.symm.trans hfound)
    cases Option.some.inj (q2.symm.trans (State.methodFound?_of_named Y.fill0 (by decide)))
    cases Option.some.inj (q3.symm.trans Y.fill0)
    rw [Launch.admits_selectMethod X.admits]; exact q4
  have hselF : selectMethod e.platform s.vm P1.m.cls T.fill = .method N.fill := by
    obtain ⟨c2, r2, m2, q1, q2, q3, q4, -⟩ := Cond.selects_spec (a' (.selects Bundle.nN Bundle.tFill Bundle.nFill) (by simp [Bundle.npeArmAtoms]))
    cases Option.some.inj (q1.symm.trans hfound)
    cases Option.some.inj (q2.symm.trans (State.methodFound?_of_named Y.fill (by decide)))
    cases Option.some.inj (q3.symm.trans hnNF)
    rw [Launch.admits_selectMethod X.admits]; exact q4
  obtain ⟨cellS0, hcS0, hiss⟩ := Y.statics
  obtain ⟨u0, hu0⟩ := Cond.staticRefV Y.unassigned L.unassignedStatic L.statics hcS0 hiss (a' (.isRef (.static Bundle.tN "UNASSIGNED_STACK" Bundle.steD)) (by simp [Bundle.npeArmAtoms]))
  obtain ⟨sen, hsen⟩ := Cond.staticRefV Y.sentinel L.sentinelStatic L.statics hcS0 hiss (a' (.isRef (.static Bundle.tN "SUPPRESSED_SENTINEL" Bundle.listD)) (by simp [Bundle.npeArmAtoms]))
  obtain ⟨ci198, i198, fB, hk198, hg198, ha198, hsB, -, hnB, htB, hffB⟩ := Cond.ownField (t := .object "java/lang/Object") Y.found L.cls (by decide +kernel) (a' (.fieldLink Bundle.tN 198 Bundle.tN "backtrace" Bundle.objD) (by simp [Bundle.npeArmAtoms])) (a' (.lays Bundle.tN Bundle.tN "backtrace" Bundle.objD) (by simp [Bundle.npeArmAtoms])) e.platform hpl
  obtain ⟨cellS, hcS', heS, -, hkeep⟩ := X.same.2.2.2.2.2 T.aS cellS0 hcS0
  have hcellS : W.heap[T.aS]? = some cellS := hcS'
  have hout' : ∀ i, (⟨T.aS, i⟩ : Loc) ∉ locs := fun i hmem => by
    have := hlocs _ hmem cellS0 hcS0
    rw [hiss] at this; cases this
  have hknownS : cellS.vm ≠ .unknown := by
    rw [heS]; intro hu
    rw [show cellS0.vm = .unknown from hu] at hiss
    cases hiss
  have hvU : cellS.slots[T.fUnassigned.slot]? = some u0.v := by rw [hkeep _ (hout' _)]; exact hu0
  have hvSen : cellS.slots[T.fSentinel.slot]? = some sen.v := by rw [hkeep _ (hout' _)]; exact hsen
  obtain ⟨tyC, dC, hdC, hdnC⟩ := Cond.laysAt hfound hk Y.cause (a' (.lays Bundle.nN Bundle.tN "cause" "Ljava/lang/Throwable;") (by simp [Bundle.npeArmAtoms]))
  obtain ⟨tyS, dS, hdS, hdnS⟩ := Cond.laysAt hfound hk Y.stack (a' (.lays Bundle.nN Bundle.tN "stackTrace" Bundle.steD) (by simp [Bundle.npeArmAtoms]))
  obtain ⟨tyP, dP, hdP, hdnP⟩ := Cond.laysAt hfound hk Y.supp (a' (.lays Bundle.nN Bundle.tN "suppressedExceptions" Bundle.listD) (by simp [Bundle.npeArmAtoms]))
  obtain ⟨tyX, dX, hdX, hdnX⟩ := Cond.laysAt hfound hk hffS (a' (.lays Bundle.nN Bundle.nN "extendedMessageState" "I") (by simp [Bundle.npeArmAtoms, Bundle.npeAtoms]))
  obtain ⟨hnX, htX⟩ := State.fieldFound?_type hffS (t := .int) (by decide +kernel)
  have xC := Cond.laysApart hdC hdX hdnC hdnX (by rw [hnX, Y.causeName]; decide)
  have xS := Cond.laysApart hdS hdX hdnS hdnX (by rw [hnX, Y.stackName]; decide)
  have xP := Cond.laysApart hdP hdX hdnP hdnX (by rw [hnX, Y.suppName]; decide)
  have hv0 : (freshCell P1.m.cls N.kN).slots[N.fState.slot]? = some (.int 0) := by
    have := fresh_default (c := P1.m.cls) tyX
    rw [htX] at this; exact this
  obtain ⟨tyB, dB, hdB, hdnB⟩ := Cond.laysAt hfound hk hffB (a' (.lays Bundle.nN Bundle.tN "backtrace" Bundle.objD) (by simp [Bundle.npeArmAtoms]))
  have bC := Cond.laysApart hdB hdC hdnB hdnC (by rw [hnB, Y.causeName]; decide)
  have bS := Cond.laysApart hdB hdS hdnB hdnS (by rw [hnB, Y.stackName]; decide)
  have bP := Cond.laysApart hdB hdP hdnB hdnP (by rw [hnB, Y.suppName]; decide)
  have bX := Cond.laysApart hdB hdX hdnB hdnX (by rw [hnB, hnX]; decide)
  have hbk : ((npeCell N.toNpeT (preparedCellV T.toThrowableT (freshCell P1.m.cls N.kN) W.heap.size u0 sen) W.cur).withEntry W.cur).slots[fB.slot]? = some .null := by
    have := fresh_default (c := P1.m.cls) tyB
    rw [htB] at this
    simpa [npeCell, preparedCellV, Cell.setSlot, Cell.withEntry, Array.getElem?_setIfInBounds, bC, bS, bP, bX, bC.symm, bS.symm, bP.symm, bX.symm, defaultValue] using this
  have tkC := Takes.of_laid (v := .ref W.heap.size) hk hordN tyC (by rw [Y.causeType]; rfl)
  have tkS := Takes.of_laid (v := u0.v) hk hordN tyS (by rw [Y.stackType]; exact fits_refV_array _ u0)
  have tkP := Takes.of_laid (v := sen.v) hk hordN tyP (by rw [Y.suppType]; exact fits_refV_object _ sen)
  have tkX := Takes.of_laid (v := .int 1) hk hordN tyX (by rw [htX]; rfl)
  have hskip : SkipFacts T e.platform s (fun u => u) u0 ((npeCell N.toNpeT (preparedCellV T.toThrowableT (freshCell P1.m.cls N.kN) W.heap.size u0 sen) W.cur).withEntry W.cur) := ⟨{ ci198 := ci198, i198 := i198, fBack := fB }, ⟨hk198, hg198, ha198, hsB⟩, hbk, fun _ _ => rfl⟩
  obtain ⟨vm', X3, st, -⟩ := X.throwsNpeColdBareVAt hexec hg hsize T L Z LZ N LN P1 L1 [PR, PE] hLs hlink1 ⟨hlinkR, hlinkE, trivial⟩ hfound hk hinit hordN hctor hsel0 hselF hcellS hknownS hvU hvSen
    hv0 xC xS xP tkC tkS tkP tkX Y.objLocals hskip (fun _ _ hA hW _ hroom _ hrest => L.nativeOff p htr hA hW hroom hrest) (by simpa using hRframes) hRlocals (by simp) hRcells (by rw [hn]; exact hRslots)
  have hlt : W.heap.size < ((W.pushCell (freshCell P1.m.cls N.kN)).setVm vm').heap.size := by
    show W.heap.size < (W.pushCell (freshCell P1.m.cls N.kN)).heap.size
    rw [State.heap_size_pushCell]; omega
  rw [hfsz] at X3
  obtain ⟨g₁, hfrM⟩ := X3.frames_eq
  have hU : ((((W.pushCell (freshCell P1.m.cls N.kN)).setVm vm').setCell W.heap.size (npeBareV T.toThrowableT N.toNpeT (freshCell P1.m.cls N.kN) W.heap.size u0 sen)).setTop g).pushFrame (.throwing W.heap.size) = (((W.pushCell (freshCell P1.m.cls N.kN)).setVm vm').setCell W.heap.size (npeBareV T.toThrowableT N.toNpeT (freshCell P1.m.cls N.kN) W.heap.size u0 sen)).setFrames (.throwing W.heap.size :: .java g :: below) := by
    rw [State.pushFrame, State.frames_setTop _ hfrM, State.setTop_of_frames _ hfrM, State.setFrames_setFrames]
  refine ⟨_, W.heap.size, _, fun target ht => st.trans (by rw [← hU]; exact ht), X3.forget (fun y hy => ?_), heapAt_setCell_self _ hlt, hfound, rfl⟩
  simp only [List.mem_cons, List.not_mem_nil, or_false] at hy
  have hge : s.heap.size ≤ W.heap.size := X.same.2.1
  rcases hy with rfl | rfl | rfl | rfl | rfl <;> exact hge
/-- the words of a machine's NullPointerException, but the four that speak of the heap -/
def vx_atN (n : Nat) : List Cond := (Bundle.npeArmAtoms n).filter vx_no
/-- the words of a machine's throw with a message, but the four that speak of the heap -/
def vx_atM (X : String) (names : List String) : List Cond := (Bundle.messageArmAtoms X names).filter vx_no
section
variable {p : Program} {l : Launch} {e : Env} {R : Room} {s : State} {m : MethodId} {args : Array Value} {below : List Frame} {meth : Method} {c : Code} {H : Heap} {locs : List Loc} {cells slots : Nat}
/-- a frame seen from a rebased start, seen from the first start again -/
theorem vx_back9 {T S : State} {R' : Room} {k n : Nat} (X : Stand p l e R s m args below meth c T locs cells slots) (Y : Stand p l e R' ((T.setVm s.vm).setFrames (.invoking m args :: below)) m args below meth c T [] 0 0) (Z : Stand p l e R' ((T.setVm s.vm).setFrames (.invoking m args :: below)) m args below meth c S [] k n) :
    Stand p l e R s m args below meth c S locs (cells + k) (slots + n) := by
  have hW0 : s.WarmedH ((T.setVm s.vm).setFrames (.invoking m args :: below)).vm := State.WarmedH.refl s
  refine { admits := X.admits, cas := X.cas, clock := X.clock, frames := X.frames, room := X.room, hears := X.hears, method := X.method, code := X.code, here := Z.here, tail := Z.tail, warmed := State.WarmedH.trans hW0 Z.warmed, limits := Z.limits.trans (Y.limits.symm.trans X.limits), bytes := Z.bytes.trans (Y.bytes.symm.trans X.bytes), same := ?_ }
  obtain ⟨e1, e2⟩ := Z.same
  rw [State.setFrames_setFrames] at e1
  have h2 : (T.setVm s.vm).sameButNew (S.setVm s.vm) [] k n := ⟨e1, e2⟩
  have h3 := X.same.trans h2
  rw [List.append_nil] at h3
  exact h3
/-- from the machine's note that E is thrown here with this text -/
def vx_Note (p : Program) (l : Launch) (e : Env) (R : Room) (s : State) (m : MethodId) (args : Array Value) (below : List Frame) (meth : Method) (c : Code) (H : Heap) (locs : List Loc) (cells slots : Nat) (Q : State → Prop) (g : JFrame) (E text : String) : Prop :=
  ∀ T : State, T.heap = H → Stand p l e R s m args below meth c T locs cells slots → ∃ t, Steps p.tables e below ((T.setTop g).pushFrame (.throwNew E (some text) none)) t ∧ Q t
theorem vx_vm {pc : Nat} {ls : Array Slot} {rest : List Value} {Q : State → Prop} (hexec : p.tables.exec = Jvm.exec) (hl : l.stackTraces = false) {cls text : String} {names : List String} {nb : Nat} {A : Nat → Prop}
    (hcls : Bundle.fit cls = true) (hnames : ∀ n ∈ names, Bundle.fit n = true) (hsoe : (cls == "java/lang/StackOverflowError") = false) (hoom : (cls == "java/lang/OutOfMemoryError") = false)
    (hat : ∀ w ∈ vx_atM cls names, w.before args s = true) (hgood : ∀ w ∈ vx_atM cls names, vx_ot w = true)
    (hU : vx_Zq Bundle.tN "UNASSIGNED_STACK" Bundle.steD A s s.heap) (hN : vx_Zq Bundle.tN "SUPPRESSED_SENTINEL" Bundle.listD A s s.heap) (hS : va_S A s.heap H locs) (hsize : ls.size = c.maxLocals)
    (htext : (text == notModelled) = false) (hnb : (stringBytes (stringToUtf16 text)).size ≤ nb) (hnb1 : nb ≤ 1000)
    (hRframes : names.length + 4 < R.frames) (hRlocals : (rest.map fun v => v.category).sum + 10240 ≤ R.locals) (hshort : 13 * names.length + 55 ≤ 10240) (hRcells : cells + 3 ≤ R.cells) (hRslots : slots + (nb + 10) ≤ R.slots) (hlocks : meth.locks = false)
    (k : ∀ (H1 : Heap) (q9 : Addr) (ce : Cell), H.size ≤ H1.size → (∀ q : Nat, q < H.size → H1[q]? = H[q]?) → va_S A s.heap H1 locs → H1[q9]? = some ce → ce.vm = .none → s.vm.findClass cls = some ce.cls → vx_W p l e R s m args below meth c H1 locs (cells + 3) (slots + (nb + 10)) Q (F0 m pc ls rest) q9) :
    vx_Note p l e R s m args below meth c H locs cells slots Q (F0 m pc ls rest) cls text := by
  intro T hT X
  have htr : e.platform.stackTraces = false := (show e.platform.stackTraces = l.stackTraces by rw [X.admits.platform]).trans hl
  have Y := vx_rebase X (R' := { frames := R.frames, locals := R.locals, cells := 3, slots := nb + 10 }) (Nat.le_refl _) (Nat.le_refl _) hRcells hRslots
  have hhp : ((T.setVm s.vm).setFrames (.invoking m args :: below)).heap = H := hT
  have hW0 : s.WarmedH ((T.setVm s.vm).setFrames (.invoking m args :: below)).vm := State.WarmedH.refl s
  have hat' : ∀ w ∈ vx_atM cls names, w.before args ((T.setVm s.vm).setFrames (.invoking m args :: below)) = true := fun w hw => vx_ot_at hW0 rfl (hgood w hw) (hat w hw)
  have hU' : vx_Zq Bundle.tN "UNASSIGNED_STACK" Bundle.steD A ((T.setVm s.vm).setFrames (.invoking m args :: below)) ((T.setVm s.vm).setFrames (.invoking m args :: below)).heap := by rw [hhp]; exact vx_Zq.moved hW0.alike (hU.kept hS.2.1)
  have hN' : vx_Zq Bundle.tN "SUPPRESSED_SENTINEL" Bundle.listD A ((T.setVm s.vm).setFrames (.invoking m args :: below)) ((T.setVm s.vm).setFrames (.invoking m args :: below)).heap := by rw [hhp]; exact vx_Zq.moved hW0.alike (hN.kept hS.2.1)
  obtain ⟨S, q, ce, st, Z, hce, hcl', hv⟩ := vx_vmAt Y hexec htr (cls := cls) (names := names) (text := text) hcls hnames hsoe hoom (vx_own hat' (vx_isRefq hU'.1) (vx_isRefq hN'.1) hU'.2.word hN'.2.word) (fun x hx => nomatch hx) htext
    (by rw [Launch.admits_arrayLengthLimit X.admits]; omega) (by rw [Launch.admits_maxHeapBytes X.admits]; simp only [componentBytes]; omega)
    (g := F0 m pc ls rest) rfl hsize hRframes (by show 2 * 0 + (rest.map fun v => v.category).sum + 10240 ≤ R.locals; omega) hshort (by show 0 + 3 ≤ 3; omega) (by show 0 + (_ + 4 + 6) ≤ nb + 10; omega) hlocks
  obtain ⟨f1, f2⟩ := vx_frame Z.same
  have f1' : H.size ≤ S.heap.size := by rw [← hT]; exact f1
  have f2' : ∀ q : Nat, q < H.size → S.heap[q]? = H[q]? := fun q hq => by
    rw [← hT]
    exact f2 q (by rw [← hT] at hq; exact hq) (fun z hz => nomatch hz)
  have X5 := vx_back9 X Y Z
  have X6 : Stand p l e R s m args below meth c S locs (cells + 3) (slots + (nb + 10)) := { X5 with same := X5.same.mono (by omega) (by omega) }
  obtain ⟨t, a1, b1⟩ := k S.heap q ce f1' f2' ⟨Nat.le_trans hS.1 f1', fun q h1 h2 => (f2' q (Nat.lt_of_lt_of_le h1 hS.1)).trans (hS.2.1 q h1 h2), hS.2.2⟩ hce hv hcl' S rfl X6
  exact ⟨t, st t a1, b1⟩
/-- from the machine's note that NullPointerException is thrown here -/
def vx_NoteN (p : Program) (l : Launch) (e : Env) (R : Room) (s : State) (m : MethodId) (args : Array Value) (below : List Frame) (meth : Method) (c : Code) (H : Heap) (locs : List Loc) (cells slots : Nat) (Q : State → Prop) (g : JFrame) : Prop :=
  ∀ T : State, T.heap = H → Stand p l e R s m args below meth c T locs cells slots → ∃ t, Steps p.tables e below ((T.setTop g).pushFrame (.throwNew "java/lang/NullPointerException" none none)) t ∧ Q t
theorem vx_npe {pc : Nat} {ls : Array Slot} {rest : List Value} {Q : State → Prop} (hexec : p.tables.exec = Jvm.exec) (hl : l.stackTraces = false) {nb : Nat} {A : Nat → Prop}
    (hat : ∀ w ∈ vx_atN nb, w.before args s = true) (hgood : ∀ w ∈ vx_atN nb, vx_ot w = true)
    (hU : vx_Zq Bundle.tN "UNASSIGNED_STACK" Bundle.steD A s s.heap) (hN : vx_Zq Bundle.tN "SUPPRESSED_SENTINEL" Bundle.listD A s s.heap) (hS : va_S A s.heap H locs) (hsize : ls.size = c.maxLocals)
    (hRframes : 7 < R.frames) (hRlocals : (rest.map fun v => v.category).sum + 10240 ≤ R.locals) (hRcells : cells + 1 ≤ R.cells) (hRslots : slots + nb ≤ R.slots) (hlocks : meth.locks = false)
    (k : ∀ (H1 : Heap) (q9 : Addr) (ce : Cell), H.size ≤ H1.size → (∀ q : Nat, q < H.size → H1[q]? = H[q]?) → va_S A s.heap H1 locs → H1[q9]? = some ce → ce.vm = .none → s.vm.findClass "java/lang/NullPointerException" = some ce.cls → vx_W p l e R s m args below meth c H1 locs (cells + 1) (slots + nb) Q (F0 m pc ls rest) q9) :
    vx_NoteN p l e R s m args below meth c H locs cells slots Q (F0 m pc ls rest) := by
  intro T hT X
  have htr : e.platform.stackTraces = false := (show e.platform.stackTraces = l.stackTraces by rw [X.admits.platform]).trans hl
  have Y := vx_rebase X (R' := { frames := R.frames, locals := R.locals, cells := 1, slots := nb }) (Nat.le_refl _) (Nat.le_refl _) hRcells hRslots
  have hhp : ((T.setVm s.vm).setFrames (.invoking m args :: below)).heap = H := hT
  have hW0 : s.WarmedH ((T.setVm s.vm).setFrames (.invoking m args :: below)).vm := State.WarmedH.refl s
  have hat' : ∀ w ∈ vx_atN nb, w.before args ((T.setVm s.vm).setFrames (.invoking m args :: below)) = true := fun w hw => vx_ot_at hW0 rfl (hgood w hw) (hat w hw)
  have hU' : vx_Zq Bundle.tN "UNASSIGNED_STACK" Bundle.steD A ((T.setVm s.vm).setFrames (.invoking m args :: below)) ((T.setVm s.vm).setFrames (.invoking m args :: below)).heap := by rw [hhp]; exact vx_Zq.moved hW0.alike (hU.kept hS.2.1)
  have hN' : vx_Zq Bundle.tN "SUPPRESSED_SENTINEL" Bundle.listD A ((T.setVm s.vm).setFrames (.invoking m args :: below)) ((T.setVm s.vm).setFrames (.invoking m args :: below)).heap := by rw [hhp]; exact vx_Zq.moved hW0.alike (hN.kept hS.2.1)
  obtain ⟨S, q, ce, st, Z, hce, hcl', hv⟩ := vx_npeAt Y hexec htr (n := nb) (vx_own hat' (vx_isRefq hU'.1) (vx_isRefq hN'.1) hU'.2.word hN'.2.word) (fun x hx => nomatch hx)
    (g := F0 m pc ls rest) rfl hsize hRframes (by show 2 * 0 + (rest.map fun v => v.category).sum + 10240 ≤ R.locals; omega) (by show 0 + 1 ≤ 1; omega) (by show 0 + nb ≤ nb; omega) hlocks
  obtain ⟨f1, f2⟩ := vx_frame Z.same
  have f1' : H.size ≤ S.heap.size := by rw [← hT]; exact f1
  have f2' : ∀ q : Nat, q < H.size → S.heap[q]? = H[q]? := fun q hq => by
    rw [← hT]
    exact f2 q (by rw [← hT] at hq; exact hq) (fun z hz => nomatch hz)
  have X5 := vx_back9 X Y Z
  have X6 : Stand p l e R s m args below meth c S locs (cells + 1) (slots + nb) := { X5 with same := X5.same.mono (by omega) (by omega) }
  obtain ⟨t, a1, b1⟩ := k S.heap q ce f1' f2' ⟨Nat.le_trans hS.1 f1', fun q h1 h2 => (f2' q (Nat.lt_of_lt_of_le h1 hS.1)).trans (hS.2.1 q h1 h2), hS.2.2⟩ hce hv hcl' S rfl X6
  exact ⟨t, st t a1, b1⟩
variable {Q : State → Prop} {cc : ByteArray} {pc : Nat} {ls : Array Slot} {rest : List Value}
theorem vx_idivZ (hexec : p.tables.exec = Jvm.exec) (hb : c.code = cc) {a b : Int32} (h0 : b = 0) (d : decode cc pc = .ok (.idiv, 1)) (k : vx_Note p l e R s m args below meth c H locs cells slots Q (F0 m pc ls rest) "java/lang/ArithmeticException" "/ by zero") :
    W p l e R s m args below meth c H locs cells slots Q (F0 m pc ls (.int b :: .int a :: rest)) := by
  intro T hT X
  obtain ⟨t, st, q⟩ := k T hT X
  exact ⟨t, X.idivZero hexec (g := F0 m pc ls (.int b :: .int a :: rest)) rfl (a := a) (rest := rest) (by rw [h0]) (by rw [hb]; exact d) t st, q⟩
theorem vx_iremZ (hexec : p.tables.exec = Jvm.exec) (hb : c.code = cc) {a b : Int32} (h0 : b = 0) (d : decode cc pc = .ok (.irem, 1)) (k : vx_Note p l e R s m args below meth c H locs cells slots Q (F0 m pc ls rest) "java/lang/ArithmeticException" "/ by zero") :
    W p l e R s m args below meth c H locs cells slots Q (F0 m pc ls (.int b :: .int a :: rest)) := by
  intro T hT X
  obtain ⟨t, st, q⟩ := k T hT X
  exact ⟨t, X.iremZero hexec (g := F0 m pc ls (.int b :: .int a :: rest)) rfl (a := a) (rest := rest) (by rw [h0]) (by rw [hb]; exact d) t st, q⟩
theorem vx_ldivZ (hexec : p.tables.exec = Jvm.exec) (hb : c.code = cc) {a b : Int64} (h0 : b = 0) (d : decode cc pc = .ok (.ldiv, 1)) (k : vx_Note p l e R s m args below meth c H locs cells slots Q (F0 m pc ls rest) "java/lang/ArithmeticException" "/ by zero") :
    W p l e R s m args below meth c H locs cells slots Q (F0 m pc ls (.long b :: .long a :: rest)) := by
  intro T hT X
  obtain ⟨t, st, q⟩ := k T hT X
  exact ⟨t, X.ldivZero hexec (g := F0 m pc ls (.long b :: .long a :: rest)) rfl (a := a) (rest := rest) (by rw [h0]) (by rw [hb]; exact d) t st, q⟩
theorem vx_lremZ (hexec : p.tables.exec = Jvm.exec) (hb : c.code = cc) {a b : Int64} (h0 : b = 0) (d : decode cc pc = .ok (.lrem, 1)) (k : vx_Note p l e R s m args below meth c H locs cells slots Q (F0 m pc ls rest) "java/lang/ArithmeticException" "/ by zero") :
    W p l e R s m args below meth c H locs cells slots Q (F0 m pc ls (.long b :: .long a :: rest)) := by
  intro T hT X
  obtain ⟨t, st, q⟩ := k T hT X
  exact ⟨t, X.lremZero hexec (g := F0 m pc ls (.long b :: .long a :: rest)) rfl (a := a) (rest := rest) (by rw [h0]) (by rw [hb]; exact d) t st, q⟩
theorem vx_ialdZ {D : va_G} {cl : List vw_C} {ws : va_W} {tys : List (ClassId × FieldType)} {a : Nat} (hexec : p.tables.exec = Jvm.exec) (hb : c.code = cc) (hK : va_K D cl tys s) (hP : va_P D cl ws H) (q0 t0 : Nat) {cA : ClassId} {n : Nat} {f : Nat → Int32} (ha : ws[q0]? = some (a, .inl (cA, n, .inl f))) (ht : tys[t0]? = some (cA, .int)) {i : Int32} (hout : ¬ vp_in i n) (hdg : decode cc pc = .ok (.iaload, 1))
    (k : ∀ tx : String, tx = (toString "Index " ++ toString i ++ toString " out of bounds for length " ++ toString n : String) → vx_Note p l e R s m args below meth c H locs cells slots Q (F0 m pc ls rest) "java/lang/ArrayIndexOutOfBoundsException" tx) : W p l e R s m args below meth c H locs cells slots Q (F0 m pc ls (.int i :: .ref a :: rest)) := by
  intro T hT X
  obtain ⟨t, st, q⟩ := k _ rfl T hT X
  refine ⟨t, ?_, q⟩
  have h1 := X.ialoadOut hexec (by rw [hT]; exact hP q0 _ ha) ((hK.2 t0 _ ht).1 n (fun j => .int (f j))) (j := i) (by show (i < 0 ∨ (arrV _ _ _).slots.size ≤ _); rw [arrV_size]; exact Classical.byContradiction hout) (g := F0 m pc ls (.int i :: .ref a :: rest)) rfl (rest := rest) rfl (by rw [hb]; exact hdg) t
  simp only [arrV_size] at h1
  exact h1 st
theorem vx_iastZ {D : va_G} {cl : List vw_C} {ws : va_W} {tys : List (ClassId × FieldType)} {a : Nat} (hexec : p.tables.exec = Jvm.exec) (hb : c.code = cc) (hK : va_K D cl tys s) (hP : va_P D cl ws H) (q0 t0 : Nat) {cA : ClassId} {n : Nat} {f : Nat → Int32} (ha : ws[q0]? = some (a, .inl (cA, n, .inl f))) (ht : tys[t0]? = some (cA, .int)) {i : Int32} {x : Int32} (hout : ¬ vp_in i n) (hdg : decode cc pc = .ok (.iastore, 1))
    (k : ∀ tx : String, tx = (toString "Index " ++ toString i ++ toString " out of bounds for length " ++ toString n : String) → vx_Note p l e R s m args below meth c H locs cells slots Q (F0 m pc ls rest) "java/lang/ArrayIndexOutOfBoundsException" tx) : W p l e R s m args below meth c H locs cells slots Q (F0 m pc ls (.int x :: .int i :: .ref a :: rest)) := by
  intro T hT X
  obtain ⟨t, st, q⟩ := k _ rfl T hT X
  refine ⟨t, ?_, q⟩
  have h1 := X.iastoreOut hexec (by rw [hT]; exact hP q0 _ ha) ((hK.2 t0 _ ht).1 n (fun j => .int (f j))) (j := i) (by show (i < 0 ∨ (arrV _ _ _).slots.size ≤ _); rw [arrV_size]; exact Classical.byContradiction hout) (g := F0 m pc ls (.int x :: .int i :: .ref a :: rest)) rfl (rest := rest) rfl (by rw [hb]; exact hdg) t
  simp only [arrV_size] at h1
  exact h1 st
theorem vx_baldZ {D : va_G} {cl : List vw_C} {ws : va_W} {tys : List (ClassId × FieldType)} {a : Nat} (hexec : p.tables.exec = Jvm.exec) (hb : c.code = cc) (hK : va_K D cl tys s) (hP : va_P D cl ws H) (q0 t0 : Nat) {cA : ClassId} {n : Nat} {f : Nat → Int32} (ha : ws[q0]? = some (a, .inl (cA, n, .inl f))) (ht : tys[t0]? = some (cA, .byte)) {i : Int32} (hout : ¬ vp_in i n) (hdg : decode cc pc = .ok (.baload, 1))
    (k : ∀ tx : String, tx = (toString "Index " ++ toString i ++ toString " out of bounds for length " ++ toString n : String) → vx_Note p l e R s m args below meth c H locs cells slots Q (F0 m pc ls rest) "java/lang/ArrayIndexOutOfBoundsException" tx) : W p l e R s m args below meth c H locs cells slots Q (F0 m pc ls (.int i :: .ref a :: rest)) := by
  intro T hT X
  obtain ⟨t, st, q⟩ := k _ rfl T hT X
  refine ⟨t, ?_, q⟩
  have h1 := X.baloadOut hexec (by rw [hT]; exact hP q0 _ ha) ((hK.2 t0 _ ht).1 n (fun j => .int (f j))) (j := i) (by show (i < 0 ∨ (arrV _ _ _).slots.size ≤ _); rw [arrV_size]; exact Classical.byContradiction hout) (g := F0 m pc ls (.int i :: .ref a :: rest)) rfl (rest := rest) rfl (by rw [hb]; exact hdg) t
  simp only [arrV_size] at h1
  exact h1 st
theorem vx_bastZ {D : va_G} {cl : List vw_C} {ws : va_W} {tys : List (ClassId × FieldType)} {a : Nat} (hexec : p.tables.exec = Jvm.exec) (hb : c.code = cc) (hK : va_K D cl tys s) (hP : va_P D cl ws H) (q0 t0 : Nat) {cA : ClassId} {n : Nat} {f : Nat → Int32} (ha : ws[q0]? = some (a, .inl (cA, n, .inl f))) (ht : tys[t0]? = some (cA, .byte)) {i : Int32} {x : Int32} (hout : ¬ vp_in i n) (hdg : decode cc pc = .ok (.bastore, 1))
    (k : ∀ tx : String, tx = (toString "Index " ++ toString i ++ toString " out of bounds for length " ++ toString n : String) → vx_Note p l e R s m args below meth c H locs cells slots Q (F0 m pc ls rest) "java/lang/ArrayIndexOutOfBoundsException" tx) : W p l e R s m args below meth c H locs cells slots Q (F0 m pc ls (.int x :: .int i :: .ref a :: rest)) := by
  intro T hT X
  obtain ⟨t, st, q⟩ := k _ rfl T hT X
  refine ⟨t, ?_, q⟩
  have h1 := X.bastoreOut hexec (by rw [hT]; exact hP q0 _ ha) ((hK.2 t0 _ ht).1 n (fun j => .int (f j))) (j := i) (by show (i < 0 ∨ (arrV _ _ _).slots.size ≤ _); rw [arrV_size]; exact Classical.byContradiction hout) (g := F0 m pc ls (.int x :: .int i :: .ref a :: rest)) rfl (rest := rest) rfl (by rw [hb]; exact hdg) t
  simp only [arrV_size] at h1
  exact h1 st
theorem vx_zaldZ {D : va_G} {cl : List vw_C} {ws : va_W} {tys : List (ClassId × FieldType)} {a : Nat} (hexec : p.tables.exec = Jvm.exec) (hb : c.code = cc) (hK : va_K D cl tys s) (hP : va_P D cl ws H) (q0 t0 : Nat) {cA : ClassId} {n : Nat} {f : Nat → Int32} (ha : ws[q0]? = some (a, .inl (cA, n, .inl f))) (ht : tys[t0]? = some (cA, .boolean)) {i : Int32} (hout : ¬ vp_in i n) (hdg : decode cc pc = .ok (.baload, 1))
    (k : ∀ tx : String, tx = (toString "Index " ++ toString i ++ toString " out of bounds for length " ++ toString n : String) → vx_Note p l e R s m args below meth c H locs cells slots Q (F0 m pc ls rest) "java/lang/ArrayIndexOutOfBoundsException" tx) : W p l e R s m args below meth c H locs cells slots Q (F0 m pc ls (.int i :: .ref a :: rest)) := by
  intro T hT X
  obtain ⟨t, st, q⟩ := k _ rfl T hT X
  refine ⟨t, ?_, q⟩
  have h1 := X.baloadOut hexec (by rw [hT]; exact hP q0 _ ha) ((hK.2 t0 _ ht).1 n (fun j => .int (f j))) (j := i) (by show (i < 0 ∨ (arrV _ _ _).slots.size ≤ _); rw [arrV_size]; exact Classical.byContradiction hout) (g := F0 m pc ls (.int i :: .ref a :: rest)) rfl (rest := rest) rfl (by rw [hb]; exact hdg) t
  simp only [arrV_size] at h1
  exact h1 st
theorem vx_zastZ {D : va_G} {cl : List vw_C} {ws : va_W} {tys : List (ClassId × FieldType)} {a : Nat} (hexec : p.tables.exec = Jvm.exec) (hb : c.code = cc) (hK : va_K D cl tys s) (hP : va_P D cl ws H) (q0 t0 : Nat) {cA : ClassId} {n : Nat} {f : Nat → Int32} (ha : ws[q0]? = some (a, .inl (cA, n, .inl f))) (ht : tys[t0]? = some (cA, .boolean)) {i : Int32} {x : Int32} (hout : ¬ vp_in i n) (hdg : decode cc pc = .ok (.bastore, 1))
    (k : ∀ tx : String, tx = (toString "Index " ++ toString i ++ toString " out of bounds for length " ++ toString n : String) → vx_Note p l e R s m args below meth c H locs cells slots Q (F0 m pc ls rest) "java/lang/ArrayIndexOutOfBoundsException" tx) : W p l e R s m args below meth c H locs cells slots Q (F0 m pc ls (.int x :: .int i :: .ref a :: rest)) := by
  intro T hT X
  obtain ⟨t, st, q⟩ := k _ rfl T hT X
  refine ⟨t, ?_, q⟩
  have h1 := X.bastoreOut hexec (by rw [hT]; exact hP q0 _ ha) ((hK.2 t0 _ ht).1 n (fun j => .int (f j))) (j := i) (by show (i < 0 ∨ (arrV _ _ _).slots.size ≤ _); rw [arrV_size]; exact Classical.byContradiction hout) (g := F0 m pc ls (.int x :: .int i :: .ref a :: rest)) rfl (rest := rest) rfl (by rw [hb]; exact hdg) t
  simp only [arrV_size] at h1
  exact h1 st
theorem vx_caldZ {D : va_G} {cl : List vw_C} {ws : va_W} {tys : List (ClassId × FieldType)} {a : Nat} (hexec : p.tables.exec = Jvm.exec) (hb : c.code = cc) (hK : va_K D cl tys s) (hP : va_P D cl ws H) (q0 t0 : Nat) {cA : ClassId} {n : Nat} {f : Nat → Int32} (ha : ws[q0]? = some (a, .inl (cA, n, .inl f))) (ht : tys[t0]? = some (cA, .char)) {i : Int32} (hout : ¬ vp_in i n) (hdg : decode cc pc = .ok (.caload, 1))
    (k : ∀ tx : String, tx = (toString "Index " ++ toString i ++ toString " out of bounds for length " ++ toString n : String) → vx_Note p l e R s m args below meth c H locs cells slots Q (F0 m pc ls rest) "java/lang/ArrayIndexOutOfBoundsException" tx) : W p l e R s m args below meth c H locs cells slots Q (F0 m pc ls (.int i :: .ref a :: rest)) := by
  intro T hT X
  obtain ⟨t, st, q⟩ := k _ rfl T hT X
  refine ⟨t, ?_, q⟩
  have h1 := X.caloadOut hexec (by rw [hT]; exact hP q0 _ ha) ((hK.2 t0 _ ht).1 n (fun j => .int (f j))) (j := i) (by show (i < 0 ∨ (arrV _ _ _).slots.size ≤ _); rw [arrV_size]; exact Classical.byContradiction hout) (g := F0 m pc ls (.int i :: .ref a :: rest)) rfl (rest := rest) rfl (by rw [hb]; exact hdg) t
  simp only [arrV_size] at h1
  exact h1 st
theorem vx_castZ {D : va_G} {cl : List vw_C} {ws : va_W} {tys : List (ClassId × FieldType)} {a : Nat} (hexec : p.tables.exec = Jvm.exec) (hb : c.code = cc) (hK : va_K D cl tys s) (hP : va_P D cl ws H) (q0 t0 : Nat) {cA : ClassId} {n : Nat} {f : Nat → Int32} (ha : ws[q0]? = some (a, .inl (cA, n, .inl f))) (ht : tys[t0]? = some (cA, .char)) {i : Int32} {x : Int32} (hout : ¬ vp_in i n) (hdg : decode cc pc = .ok (.castore, 1))
    (k : ∀ tx : String, tx = (toString "Index " ++ toString i ++ toString " out of bounds for length " ++ toString n : String) → vx_Note p l e R s m args below meth c H locs cells slots Q (F0 m pc ls rest) "java/lang/ArrayIndexOutOfBoundsException" tx) : W p l e R s m args below meth c H locs cells slots Q (F0 m pc ls (.int x :: .int i :: .ref a :: rest)) := by
  intro T hT X
  obtain ⟨t, st, q⟩ := k _ rfl T hT X
  refine ⟨t, ?_, q⟩
  have h1 := X.castoreOut hexec (by rw [hT]; exact hP q0 _ ha) ((hK.2 t0 _ ht).1 n (fun j => .int (f j))) (j := i) (by show (i < 0 ∨ (arrV _ _ _).slots.size ≤ _); rw [arrV_size]; exact Classical.byContradiction hout) (g := F0 m pc ls (.int x :: .int i :: .ref a :: rest)) rfl (rest := rest) rfl (by rw [hb]; exact hdg) t
  simp only [arrV_size] at h1
  exact h1 st
theorem vx_saldZ {D : va_G} {cl : List vw_C} {ws : va_W} {tys : List (ClassId × FieldType)} {a : Nat} (hexec : p.tables.exec = Jvm.exec) (hb : c.code = cc) (hK : va_K D cl tys s) (hP : va_P D cl ws H) (q0 t0 : Nat) {cA : ClassId} {n : Nat} {f : Nat → Int32} (ha : ws[q0]? = some (a, .inl (cA, n, .inl f))) (ht : tys[t0]? = some (cA, .short)) {i : Int32} (hout : ¬ vp_in i n) (hdg : decode cc pc = .ok (.saload, 1))
    (k : ∀ tx : String, tx = (toString "Index " ++ toString i ++ toString " out of bounds for length " ++ toString n : String) → vx_Note p l e R s m args below meth c H locs cells slots Q (F0 m pc ls rest) "java/lang/ArrayIndexOutOfBoundsException" tx) : W p l e R s m args below meth c H locs cells slots Q (F0 m pc ls (.int i :: .ref a :: rest)) := by
  intro T hT X
  obtain ⟨t, st, q⟩ := k _ rfl T hT X
  refine ⟨t, ?_, q⟩
  have h1 := X.saloadOut hexec (by rw [hT]; exact hP q0 _ ha) ((hK.2 t0 _ ht).1 n (fun j => .int (f j))) (j := i) (by show (i < 0 ∨ (arrV _ _ _).slots.size ≤ _); rw [arrV_size]; exact Classical.byContradiction hout) (g := F0 m pc ls (.int i :: .ref a :: rest)) rfl (rest := rest) rfl (by rw [hb]; exact hdg) t
  simp only [arrV_size] at h1
  exact h1 st
theorem vx_sastZ {D : va_G} {cl : List vw_C} {ws : va_W} {tys : List (ClassId × FieldType)} {a : Nat} (hexec : p.tables.exec = Jvm.exec) (hb : c.code = cc) (hK : va_K D cl tys s) (hP : va_P D cl ws H) (q0 t0 : Nat) {cA : ClassId} {n : Nat} {f : Nat → Int32} (ha : ws[q0]? = some (a, .inl (cA, n, .inl f))) (ht : tys[t0]? = some (cA, .short)) {i : Int32} {x : Int32} (hout : ¬ vp_in i n) (hdg : decode cc pc = .ok (.sastore, 1))
    (k : ∀ tx : String, tx = (toString "Index " ++ toString i ++ toString " out of bounds for length " ++ toString n : String) → vx_Note p l e R s m args below meth c H locs cells slots Q (F0 m pc ls rest) "java/lang/ArrayIndexOutOfBoundsException" tx) : W p l e R s m args below meth c H locs cells slots Q (F0 m pc ls (.int x :: .int i :: .ref a :: rest)) := by
  intro T hT X
  obtain ⟨t, st, q⟩ := k _ rfl T hT X
  refine ⟨t, ?_, q⟩
  have h1 := X.sastoreOut hexec (by rw [hT]; exact hP q0 _ ha) ((hK.2 t0 _ ht).1 n (fun j => .int (f j))) (j := i) (by show (i < 0 ∨ (arrV _ _ _).slots.size ≤ _); rw [arrV_size]; exact Classical.byContradiction hout) (g := F0 m pc ls (.int x :: .int i :: .ref a :: rest)) rfl (rest := rest) rfl (by rw [hb]; exact hdg) t
  simp only [arrV_size] at h1
  exact h1 st
theorem vx_laldZ {D : va_G} {cl : List vw_C} {ws : va_W} {tys : List (ClassId × FieldType)} {a : Nat} (hexec : p.tables.exec = Jvm.exec) (hb : c.code = cc) (hK : va_K D cl tys s) (hP : va_P D cl ws H) (q0 t0 : Nat) {cA : ClassId} {n : Nat} {f : Nat → Int64} (ha : ws[q0]? = some (a, .inl (cA, n, .inr (.inl f)))) (ht : tys[t0]? = some (cA, .long)) {i : Int32} (hout : ¬ vp_in i n) (hdg : decode cc pc = .ok (.laload, 1))
    (k : ∀ tx : String, tx = (toString "Index " ++ toString i ++ toString " out of bounds for length " ++ toString n : String) → vx_Note p l e R s m args below meth c H locs cells slots Q (F0 m pc ls rest) "java/lang/ArrayIndexOutOfBoundsException" tx) : W p l e R s m args below meth c H locs cells slots Q (F0 m pc ls (.int i :: .ref a :: rest)) := by
  intro T hT X
  obtain ⟨t, st, q⟩ := k _ rfl T hT X
  refine ⟨t, ?_, q⟩
  have h1 := X.laloadOut hexec (by rw [hT]; exact hP q0 _ ha) ((hK.2 t0 _ ht).1 n (fun j => .long (f j))) (j := i) (by show (i < 0 ∨ (arrV _ _ _).slots.size ≤ _); rw [arrV_size]; exact Classical.byContradiction hout) (g := F0 m pc ls (.int i :: .ref a :: rest)) rfl (rest := rest) rfl (by rw [hb]; exact hdg) t
  simp only [arrV_size] at h1
  exact h1 st
theorem vx_lastZ {D : va_G} {cl : List vw_C} {ws : va_W} {tys : List (ClassId × FieldType)} {a : Nat} (hexec : p.tables.exec = Jvm.exec) (hb : c.code = cc) (hK : va_K D cl tys s) (hP : va_P D cl ws H) (q0 t0 : Nat) {cA : ClassId} {n : Nat} {f : Nat → Int64} (ha : ws[q0]? = some (a, .inl (cA, n, .inr (.inl f)))) (ht : tys[t0]? = some (cA, .long)) {i : Int32} {x : Int64} (hout : ¬ vp_in i n) (hdg : decode cc pc = .ok (.lastore, 1))
    (k : ∀ tx : String, tx = (toString "Index " ++ toString i ++ toString " out of bounds for length " ++ toString n : String) → vx_Note p l e R s m args below meth c H locs cells slots Q (F0 m pc ls rest) "java/lang/ArrayIndexOutOfBoundsException" tx) : W p l e R s m args below meth c H locs cells slots Q (F0 m pc ls (.long x :: .int i :: .ref a :: rest)) := by
  intro T hT X
  obtain ⟨t, st, q⟩ := k _ rfl T hT X
  refine ⟨t, ?_, q⟩
  have h1 := X.lastoreOut hexec (by rw [hT]; exact hP q0 _ ha) ((hK.2 t0 _ ht).1 n (fun j => .long (f j))) (j := i) (by show (i < 0 ∨ (arrV _ _ _).slots.size ≤ _); rw [arrV_size]; exact Classical.byContradiction hout) (g := F0 m pc ls (.long x :: .int i :: .ref a :: rest)) rfl (rest := rest) rfl (by rw [hb]; exact hdg) t
  simp only [arrV_size] at h1
  exact h1 st
theorem vx_faldZ {D : va_G} {cl : List vw_C} {ws : va_W} {tys : List (ClassId × FieldType)} {a : Nat} (hexec : p.tables.exec = Jvm.exec) (hb : c.code = cc) (hK : va_K D cl tys s) (hP : va_P D cl ws H) (q0 t0 : Nat) {cA : ClassId} {n : Nat} {f : Nat → UInt32} (ha : ws[q0]? = some (a, .inl (cA, n, .inr (.inr (.inl f))))) (ht : tys[t0]? = some (cA, .float)) {i : Int32} (hout : ¬ vp_in i n) (hdg : decode cc pc = .ok (.faload, 1))
    (k : ∀ tx : String, tx = (toString "Index " ++ toString i ++ toString " out of bounds for length " ++ toString n : String) → vx_Note p l e R s m args below meth c H locs cells slots Q (F0 m pc ls rest) "java/lang/ArrayIndexOutOfBoundsException" tx) : W p l e R s m args below meth c H locs cells slots Q (F0 m pc ls (.int i :: .ref a :: rest)) := by
  intro T hT X
  obtain ⟨t, st, q⟩ := k _ rfl T hT X
  refine ⟨t, ?_, q⟩
  have h1 := X.faloadOut hexec (by rw [hT]; exact hP q0 _ ha) ((hK.2 t0 _ ht).1 n (fun j => .float (f j))) (j := i) (by show (i < 0 ∨ (arrV _ _ _).slots.size ≤ _); rw [arrV_size]; exact Classical.byContradiction hout) (g := F0 m pc ls (.int i :: .ref a :: rest)) rfl (rest := rest) rfl (by rw [hb]; exact hdg) t
  simp only [arrV_size] at h1
  exact h1 st
theorem vx_fastZ {D : va_G} {cl : List vw_C} {ws : va_W} {tys : List (ClassId × FieldType)} {a : Nat} (hexec : p.tables.exec = Jvm.exec) (hb : c.code = cc) (hK : va_K D cl tys s) (hP : va_P D cl ws H) (q0 t0 : Nat) {cA : ClassId} {n : Nat} {f : Nat → UInt32} (ha : ws[q0]? = some (a, .inl (cA, n, .inr (.inr (.inl f))))) (ht : tys[t0]? = some (cA, .float)) {i : Int32} {x : UInt32} (hout : ¬ vp_in i n) (hdg : decode cc pc = .ok (.fastore, 1))
    (k : ∀ tx : String, tx = (toString "Index " ++ toString i ++ toString " out of bounds for length " ++ toString n : String) → vx_Note p l e R s m args below meth c H locs cells slots Q (F0 m pc ls rest) "java/lang/ArrayIndexOutOfBoundsException" tx) : W p l e R s m args below meth c H locs cells slots Q (F0 m pc ls (.float x :: .int i :: .ref a :: rest)) := by
  intro T hT X
  obtain ⟨t, st, q⟩ := k _ rfl T hT X
  refine ⟨t, ?_, q⟩
  have h1 := X.fastoreOut hexec (by rw [hT]; exact hP q0 _ ha) ((hK.2 t0 _ ht).1 n (fun j => .float (f j))) (j := i) (by show (i < 0 ∨ (arrV _ _ _).slots.size ≤ _); rw [arrV_size]; exact Classical.byContradiction hout) (g := F0 m pc ls (.float x :: .int i :: .ref a :: rest)) rfl (rest := rest) rfl (by rw [hb]; exact hdg) t
  simp only [arrV_size] at h1
  exact h1 st
theorem vx_daldZ {D : va_G} {cl : List vw_C} {ws : va_W} {tys : List (ClassId × FieldType)} {a : Nat} (hexec : p.tables.exec = Jvm.exec) (hb : c.code = cc) (hK : va_K D cl tys s) (hP : va_P D cl ws H) (q0 t0 : Nat) {cA : ClassId} {n : Nat} {f : Nat → UInt64} (ha : ws[q0]? = some (a, .inl (cA, n, .inr (.inr (.inr (.inl f)))))) (ht : tys[t0]? = some (cA, .double)) {i : Int32} (hout : ¬ vp_in i n) (hdg : decode cc pc = .ok (.daload, 1))
    (k : ∀ tx : String, tx = (toString "Index " ++ toString i ++ toString " out of bounds for length " ++ toString n : String) → vx_Note p l e R s m args below meth c H locs cells slots Q (F0 m pc ls rest) "java/lang/ArrayIndexOutOfBoundsException" tx) : W p l e R s m args below meth c H locs cells slots Q (F0 m pc ls (.int i :: .ref a :: rest)) := by
  intro T hT X
  obtain ⟨t, st, q⟩ := k _ rfl T hT X
  refine ⟨t, ?_, q⟩
  have h1 := X.daloadOut hexec (by rw [hT]; exact hP q0 _ ha) ((hK.2 t0 _ ht).1 n (fun j => .double (f j))) (j := i) (by show (i < 0 ∨ (arrV _ _ _).slots.size ≤ _); rw [arrV_size]; exact Classical.byContradiction hout) (g := F0 m pc ls (.int i :: .ref a :: rest)) rfl (rest := rest) rfl (by rw [hb]; exact hdg) t
  simp only [arrV_size] at h1
  exact h1 st
theorem vx_dastZ {D : va_G} {cl : List vw_C} {ws : va_W} {tys : List (ClassId × FieldType)} {a : Nat} (hexec : p.tables.exec = Jvm.exec) (hb : c.code = cc) (hK : va_K D cl tys s) (hP : va_P D cl ws H) (q0 t0 : Nat) {cA : ClassId} {n : Nat} {f : Nat → UInt64} (ha : ws[q0]? = some (a, .inl (cA, n, .inr (.inr (.inr (.inl f)))))) (ht : tys[t0]? = some (cA, .double)) {i : Int32} {x : UInt64} (hout : ¬ vp_in i n) (hdg : decode cc pc = .ok (.dastore, 1))
    (k : ∀ tx : String, tx = (toString "Index " ++ toString i ++ toString " out of bounds for length " ++ toString n : String) → vx_Note p l e R s m args below meth c H locs cells slots Q (F0 m pc ls rest) "java/lang/ArrayIndexOutOfBoundsException" tx) : W p l e R s m args below meth c H locs cells slots Q (F0 m pc ls (.double x :: .int i :: .ref a :: rest)) := by
  intro T hT X
  obtain ⟨t, st, q⟩ := k _ rfl T hT X
  refine ⟨t, ?_, q⟩
  have h1 := X.dastoreOut hexec (by rw [hT]; exact hP q0 _ ha) ((hK.2 t0 _ ht).1 n (fun j => .double (f j))) (j := i) (by show (i < 0 ∨ (arrV _ _ _).slots.size ≤ _); rw [arrV_size]; exact Classical.byContradiction hout) (g := F0 m pc ls (.double x :: .int i :: .ref a :: rest)) rfl (rest := rest) rfl (by rw [hb]; exact hdg) t
  simp only [arrV_size] at h1
  exact h1 st
theorem vx_arraylengthN (hexec : p.tables.exec = Jvm.exec) (hb : c.code = cc) (hdg : decode cc pc = .ok (.arraylength, 1)) (k : vx_NoteN p l e R s m args below meth c H locs cells slots Q (F0 m pc ls rest)) : W p l e R s m args below meth c H locs cells slots Q (F0 m pc ls (.null :: rest)) := by
  intro T hT X
  obtain ⟨t, st, q⟩ := k T hT X
  exact ⟨t, X.arraylengthNull hexec (g := F0 m pc ls (.null :: rest)) rfl (rest := rest) rfl (by rw [hb]; exact hdg) t st, q⟩
theorem vx_ialoadN (hexec : p.tables.exec = Jvm.exec) (hb : c.code = cc) {i : Int32} (hdg : decode cc pc = .ok (.iaload, 1)) (k : vx_NoteN p l e R s m args below meth c H locs cells slots Q (F0 m pc ls rest)) : W p l e R s m args below meth c H locs cells slots Q (F0 m pc ls (.int i :: .null :: rest)) := by
  intro T hT X
  obtain ⟨t, st, q⟩ := k T hT X
  exact ⟨t, X.ialoadNull hexec (g := F0 m pc ls (.int i :: .null :: rest)) rfl (rest := rest) rfl (by rw [hb]; exact hdg) t st, q⟩
theorem vx_laloadN (hexec : p.tables.exec = Jvm.exec) (hb : c.code = cc) {i : Int32} (hdg : decode cc pc = .ok (.laload, 1)) (k : vx_NoteN p l e R s m args below meth c H locs cells slots Q (F0 m pc ls rest)) : W p l e R s m args below meth c H locs cells slots Q (F0 m pc ls (.int i :: .null :: rest)) := by
  intro T hT X
  obtain ⟨t, st, q⟩ := k T hT X
  exact ⟨t, X.laloadNull hexec (g := F0 m pc ls (.int i :: .null :: rest)) rfl (rest := rest) rfl (by rw [hb]; exact hdg) t st, q⟩
theorem vx_faloadN (hexec : p.tables.exec = Jvm.exec) (hb : c.code = cc) {i : Int32} (hdg : decode cc pc = .ok (.faload, 1)) (k : vx_NoteN p l e R s m args below meth c H locs cells slots Q (F0 m pc ls rest)) : W p l e R s m args below meth c H locs cells slots Q (F0 m pc ls (.int i :: .null :: rest)) := by
  intro T hT X
  obtain ⟨t, st, q⟩ := k T hT X
  exact ⟨t, X.faloadNull hexec (g := F0 m pc ls (.int i :: .null :: rest)) rfl (rest := rest) rfl (by rw [hb]; exact hdg) t st, q⟩
theorem vx_daloadN (hexec : p.tables.exec = Jvm.exec) (hb : c.code = cc) {i : Int32} (hdg : decode cc pc = .ok (.daload, 1)) (k : vx_NoteN p l e R s m args below meth c H locs cells slots Q (F0 m pc ls rest)) : W p l e R s m args below meth c H locs cells slots Q (F0 m pc ls (.int i :: .null :: rest)) := by
  intro T hT X
  obtain ⟨t, st, q⟩ := k T hT X
  exact ⟨t, X.daloadNull hexec (g := F0 m pc ls (.int i :: .null :: rest)) rfl (rest := rest) rfl (by rw [hb]; exact hdg) t st, q⟩
theorem vx_aaloadN (hexec : p.tables.exec = Jvm.exec) (hb : c.code = cc) {i : Int32} (hdg : decode cc pc = .ok (.aaload, 1)) (k : vx_NoteN p l e R s m args below meth c H locs cells slots Q (F0 m pc ls rest)) : W p l e R s m args below meth c H locs cells slots Q (F0 m pc ls (.int i :: .null :: rest)) := by
  intro T hT X
  obtain ⟨t, st, q⟩ := k T hT X
  exact ⟨t, X.aaloadNull hexec (g := F0 m pc ls (.int i :: .null :: rest)) rfl (rest := rest) rfl (by rw [hb]; exact hdg) t st, q⟩
theorem vx_baloadN (hexec : p.tables.exec = Jvm.exec) (hb : c.code = cc) {i : Int32} (hdg : decode cc pc = .ok (.baload, 1)) (k : vx_NoteN p l e R s m args below meth c H locs cells slots Q (F0 m pc ls rest)) : W p l e R s m args below meth c H locs cells slots Q (F0 m pc ls (.int i :: .null :: rest)) := by
  intro T hT X
  obtain ⟨t, st, q⟩ := k T hT X
  exact ⟨t, X.baloadNull hexec (g := F0 m pc ls (.int i :: .null :: rest)) rfl (rest := rest) rfl (by rw [hb]; exact hdg) t st, q⟩
theorem vx_caloadN (hexec : p.tables.exec = Jvm.exec) (hb : c.code = cc) {i : Int32} (hdg : decode cc pc = .ok (.caload, 1)) (k : vx_NoteN p l e R s m args below meth c H locs cells slots Q (F0 m pc ls rest)) : W p l e R s m args below meth c H locs cells slots Q (F0 m pc ls (.int i :: .null :: rest)) := by
  intro T hT X
  obtain ⟨t, st, q⟩ := k T hT X
  exact ⟨t, X.caloadNull hexec (g := F0 m pc ls (.int i :: .null :: rest)) rfl (rest := rest) rfl (by rw [hb]; exact hdg) t st, q⟩
theorem vx_saloadN (hexec : p.tables.exec = Jvm.exec) (hb : c.code = cc) {i : Int32} (hdg : decode cc pc = .ok (.saload, 1)) (k : vx_NoteN p l e R s m args below meth c H locs cells slots Q (F0 m pc ls rest)) : W p l e R s m args below meth c H locs cells slots Q (F0 m pc ls (.int i :: .null :: rest)) := by
  intro T hT X
  obtain ⟨t, st, q⟩ := k T hT X
  exact ⟨t, X.saloadNull hexec (g := F0 m pc ls (.int i :: .null :: rest)) rfl (rest := rest) rfl (by rw [hb]; exact hdg) t st, q⟩
theorem vx_iastoreN (hexec : p.tables.exec = Jvm.exec) (hb : c.code = cc) {x : Int32} {i : Int32} (hdg : decode cc pc = .ok (.iastore, 1)) (k : vx_NoteN p l e R s m args below meth c H locs cells slots Q (F0 m pc ls rest)) : W p l e R s m args below meth c H locs cells slots Q (F0 m pc ls (.int x :: .int i :: .null :: rest)) := by
  intro T hT X
  obtain ⟨t, st, q⟩ := k T hT X
  exact ⟨t, X.iastoreNull hexec (g := F0 m pc ls (.int x :: .int i :: .null :: rest)) rfl (rest := rest) rfl (by rw [hb]; exact hdg) t st, q⟩
theorem vx_lastoreN (hexec : p.tables.exec = Jvm.exec) (hb : c.code = cc) {x : Int64} {i : Int32} (hdg : decode cc pc = .ok (.lastore, 1)) (k : vx_NoteN p l e R s m args below meth c H locs cells slots Q (F0 m pc ls rest)) : W p l e R s m args below meth c H locs cells slots Q (F0 m pc ls (.long x :: .int i :: .null :: rest)) := by
  intro T hT X
  obtain ⟨t, st, q⟩ := k T hT X
  exact ⟨t, X.lastoreNull hexec (g := F0 m pc ls (.long x :: .int i :: .null :: rest)) rfl (rest := rest) rfl (by rw [hb]; exact hdg) t st, q⟩
theorem vx_fastoreN (hexec : p.tables.exec = Jvm.exec) (hb : c.code = cc) {x : UInt32} {i : Int32} (hdg : decode cc pc = .ok (.fastore, 1)) (k : vx_NoteN p l e R s m args below meth c H locs cells slots Q (F0 m pc ls rest)) : W p l e R s m args below meth c H locs cells slots Q (F0 m pc ls (.float x :: .int i :: .null :: rest)) := by
  intro T hT X
  obtain ⟨t, st, q⟩ := k T hT X
  exact ⟨t, X.fastoreNull hexec (g := F0 m pc ls (.float x :: .int i :: .null :: rest)) rfl (rest := rest) rfl (by rw [hb]; exact hdg) t st, q⟩
theorem vx_dastoreN (hexec : p.tables.exec = Jvm.exec) (hb : c.code = cc) {x : UInt64} {i : Int32} (hdg : decode cc pc = .ok (.dastore, 1)) (k : vx_NoteN p l e R s m args below meth c H locs cells slots Q (F0 m pc ls rest)) : W p l e R s m args below meth c H locs cells slots Q (F0 m pc ls (.double x :: .int i :: .null :: rest)) := by
  intro T hT X
  obtain ⟨t, st, q⟩ := k T hT X
  exact ⟨t, X.dastoreNull hexec (g := F0 m pc ls (.double x :: .int i :: .null :: rest)) rfl (rest := rest) rfl (by rw [hb]; exact hdg) t st, q⟩
theorem vx_bastoreN (hexec : p.tables.exec = Jvm.exec) (hb : c.code = cc) {x : Int32} {i : Int32} (hdg : decode cc pc = .ok (.bastore, 1)) (k : vx_NoteN p l e R s m args below meth c H locs cells slots Q (F0 m pc ls rest)) : W p l e R s m args below meth c H locs cells slots Q (F0 m pc ls (.int x :: .int i :: .null :: rest)) := by
  intro T hT X
  obtain ⟨t, st, q⟩ := k T hT X
  exact ⟨t, X.bastoreNull hexec (g := F0 m pc ls (.int x :: .int i :: .null :: rest)) rfl (rest := rest) rfl (by rw [hb]; exact hdg) t st, q⟩
theorem vx_castoreN (hexec : p.tables.exec = Jvm.exec) (hb : c.code = cc) {x : Int32} {i : Int32} (hdg : decode cc pc = .ok (.castore, 1)) (k : vx_NoteN p l e R s m args below meth c H locs cells slots Q (F0 m pc ls rest)) : W p l e R s m args below meth c H locs cells slots Q (F0 m pc ls (.int x :: .int i :: .null :: rest)) := by
  intro T hT X
  obtain ⟨t, st, q⟩ := k T hT X
  exact ⟨t, X.castoreNull hexec (g := F0 m pc ls (.int x :: .int i :: .null :: rest)) rfl (rest := rest) rfl (by rw [hb]; exact hdg) t st, q⟩
theorem vx_sastoreN (hexec : p.tables.exec = Jvm.exec) (hb : c.code = cc) {x : Int32} {i : Int32} (hdg : decode cc pc = .ok (.sastore, 1)) (k : vx_NoteN p l e R s m args below meth c H locs cells slots Q (F0 m pc ls rest)) : W p l e R s m args below meth c H locs cells slots Q (F0 m pc ls (.int x :: .int i :: .null :: rest)) := by
  intro T hT X
  obtain ⟨t, st, q⟩ := k T hT X
  exact ⟨t, X.sastoreNull hexec (g := F0 m pc ls (.int x :: .int i :: .null :: rest)) rfl (rest := rest) rfl (by rw [hb]; exact hdg) t st, q⟩
theorem vx_invokeN {own C : String} {index maxL : Nat} {y : MethodName} {bytes : ByteArray} {ret : Option FieldType} (hexec : p.tables.exec = Jvm.exec) (hb : c.code = cc) (hown : s.vm.findClass own = some m.cls) (hlink : (Cond.methodLink own index y).before args s = true) (hinst : (Cond.instanceMethod y).before args s = true) (hcode : (Cond.code y bytes maxL ret).before args s = true) (hsel : (Cond.selects C y y).before args s = true)
    (hx : y.cls ≠ "java/lang/invoke/MethodHandle" ∧ y.cls ≠ "java/lang/invoke/VarHandle") {As : List Value} (hlen : (parseMethodDescriptor y.desc).map (fun d => d.parameters.length) = some As.length) (hdg : decode cc pc = .ok (.invokevirtual index, 3))
    (k : vx_NoteN p l e R s m args below meth c H locs cells slots Q (F0 m pc ls rest)) {st0 : List Value} (hst : st0 = As.reverse ++ .null :: rest) : W p l e R s m args below meth c H locs cells slots Q (F0 m pc ls st0) := by
  intro T hT X
  obtain ⟨r0, r, hn, hrm, hstR, hsigR⟩ := va_Decl.of hinst hcode
  obtain ⟨c2, r2, m2, q1, q2, q3, q4, kP, hkP, hkPi⟩ := Cond.selects_spec hsel
  cases hn.symm.trans q3
  have hl9 : As.length = r.sig.parameters.length := by
    rw [hsigR] at hlen
    exact (Option.some.inj hlen).symm
  obtain ⟨vm', X1, st1⟩ := X.invokevirtualNull hexec hown hlink hn hrm hstR hkP hkPi hx (g := F0 m pc ls st0) rfl (argsL := As) (rest := rest) hl9 hst (by rw [hb]; exact hdg)
  obtain ⟨t, st, q⟩ := k (T.setVm vm') hT X1
  exact ⟨t, st1 t st, q⟩
theorem vx_newarrayZ {atype : ArrayType} (hexec : p.tables.exec = Jvm.exec) (hb : c.code = cc) {n : Int32} (h0 : n < 0) (hdg : decode cc pc = .ok (.newarray atype, 2)) (k : ∀ tx : String, tx = toString n → vx_Note p l e R s m args below meth c H locs cells slots Q (F0 m pc ls rest) "java/lang/NegativeArraySizeException" tx) : W p l e R s m args below meth c H locs cells slots Q (F0 m pc ls (.int n :: rest)) := by
  intro T hT X
  obtain ⟨t, st, q⟩ := k _ rfl T hT X
  exact ⟨t, X.newarrayNegative hexec (g := F0 m pc ls (.int n :: rest)) rfl h0 (rest := rest) rfl (by rw [hb]; exact hdg) t st, q⟩
end
end VXM
/-! ===== END ===== -/
/-! ===== BEGIN an exception as an object: made, kept, thrown later (no traces kept) ===== -/
section VXK
variable {p : Program} {l : Launch} {e : Env} {R : Room} {s : State} {m₀ : MethodId} {args : Array Value} {below : List Frame} {meth : Method} {c : Code} {W : State} {locs : List Loc} {cells slots : Nat}
set_option maxHeartbeats 1000000 in
theorem vx_ctorMadeS (X : Stand p l e R s m₀ args below meth c W locs cells slots) (hexec : p.tables.exec = Jvm.exec) (htr : e.platform.stackTraces = false) {own cls : String} {names : List String} {ic : Nat}
    (hown : s.vm.findClass own = some m₀.cls) (hcls : Bundle.fit cls = true) (hnames : ∀ n ∈ names, Bundle.fit n = true)
    (h : ∀ a ∈ Bundle.ownAtoms own ic cls names, a.before args s = true)
    (hlocs : ∀ x ∈ locs, ∀ cell, s.heap[x.base]? = some cell → cell.vm.isStatics = false)
    {a : Addr} {cX : ClassId} {kX : Class} (hfoundX : s.vm.findClass cls = some cX) (hkX : s.vm.classes[cX]? = some kX) (hcell : W.heap[a]? = some (freshCell cX kX)) (hnew : s.heap.size ≤ a)
    {msg : Value} (hmsg : msg.isRef = true)
    {g : JFrame} (hg : g.method = m₀) (hsize : g.locals.size = c.maxLocals) {rest : List Value} (hstack : g.stack = msg :: .ref a :: .ref a :: rest)
    (hd6 : decode c.code g.pc = .ok (.invokespecial ic, 3))
    (hRframes : names.length + 3 < R.frames) (hRlocals : 2 * g.monitorRoom + ((Value.ref a :: rest).map fun v => v.category).sum + (13 * (names.length + 1) + 42) ≤ R.locals) :
    ∃ (V : State) (ce : Cell) (L : List Loc), Stand p l e R s m₀ args below meth c (V.setCell a ce) (locs ++ L) cells slots ∧ (∀ y ∈ L, y.base = a) ∧ a < V.heap.size ∧ ce.cls = cX ∧ ce.vm = .none ∧
      ∀ target, Steps p.tables e below ((V.setCell a ce).setTop { g with stack := .ref a :: rest, pc := g.pc + 3 }) target → Steps p.tables e below (W.setTop g) target := by
  have howns : e.platform.frameOwnsMonitors = true := by rw [X.admits.platform]
  have hfin : e.platform.finalization = false := by rw [X.admits.platform]
  have hpl : e.platform.magicAccessors = ({} : Platform).magicAccessors := by rw [X.admits.platform]
  have a' : ∀ x, x ∈ Bundle.ownAtoms own ic cls names → x.holds args s none s [] = true := fun x hx => h x hx
  obtain ⟨T, Z0, L, -, Y⟩ := ThrowableC.of_atoms (args := args) howns hfin hpl (fun x hx => h x (by simp [Bundle.ownAtoms, hx]))
  obtain ⟨Z, M, LZ, LM, hnZ⟩ := Init0T.ofS_atoms (args := args) hpl L Y (fun x hx => h x (by simp [Bundle.ownAtoms, hx]))
  obtain ⟨P1, Ps, hlen, L1, hL, hP1m, hlink1, hlink⟩ := Bundle.chainS (args := args) hpl hnZ names cls hcls hnames (fun x hx => h x (by simp [Bundle.ownAtoms, hx]))
  have hfound : s.vm.findClass cls = some P1.m.cls := findClass_of_methodNamed hP1m
  cases Option.some.inj (hfoundX.symm.trans hfound)
  obtain ⟨c1, kX', hc1, hk, hord, -, -, hn6⟩ := Cond.instantiable_spec (a' (.instantiable cls 6) (by simp [Bundle.ownAtoms]))
  cases Option.some.inj (hc1.symm.trans hfound)
  cases Option.some.inj (hkX.symm.trans hk)
  have hsel0 : selectMethod e.platform s.vm P1.m.cls T.fill0 = .method T.fill0 := by
    obtain ⟨c2, r2, m2, q1, q2, q3, q4, -⟩ := Cond.selects_spec (a' (.selects cls Bundle.tFill0 Bundle.tFill0) (by simp [Bundle.ownAtoms]))
    cases Option.some.inj (q1.symm.trans hfound)
    cases Option.some.inj (q2.symm.trans (State.methodFound?_of_named Y.fill0 (by decide)))
    cases Option.some.inj (q3.symm.trans Y.fill0)
    rw [Launch.admits_selectMethod X.admits]; exact q4
  have hselF : selectMethod e.platform s.vm P1.m.cls T.fill = .method T.fill := by
    obtain ⟨c2, r2, m2, q1, q2, q3, q4, -⟩ := Cond.selects_spec (a' (.selects cls Bundle.tFill Bundle.tFill) (by simp [Bundle.ownAtoms]))
    cases Option.some.inj (q1.symm.trans hfound)
    cases Option.some.inj (q2.symm.trans (State.methodFound?_of_named Y.fill (by decide)))
    cases Option.some.inj (q3.symm.trans Y.fill)
    rw [Launch.admits_selectMethod X.admits]; exact q4
  obtain ⟨cellS0, hcS0, hiss⟩ := Y.statics
  obtain ⟨u0, hu0⟩ := Cond.staticRefV Y.unassigned L.unassignedStatic L.statics hcS0 hiss (a' (.isRef (.static Bundle.tN "UNASSIGNED_STACK" Bundle.steD)) (by simp [Bundle.ownAtoms]))
  obtain ⟨sen, hsen⟩ := Cond.staticRefV Y.sentinel L.sentinelStatic L.statics hcS0 hiss (a' (.isRef (.static Bundle.tN "SUPPRESSED_SENTINEL" Bundle.listD)) (by simp [Bundle.ownAtoms]))
  obtain ⟨ci198, i198, fB, hk198, hg198, ha198, hsB, -, hnB, htB, hffB⟩ := Cond.ownField (t := .object "java/lang/Object") Y.found L.cls (by decide +kernel) (a' (.fieldLink Bundle.tN 198 Bundle.tN "backtrace" "Ljava/lang/Object;") (by simp [Bundle.ownAtoms])) (a' (.lays Bundle.tN Bundle.tN "backtrace" "Ljava/lang/Object;") (by simp [Bundle.ownAtoms])) e.platform hpl
  obtain ⟨cellS, hcS', heS, -, hkeep⟩ := X.same.2.2.2.2.2 T.aS cellS0 hcS0
  have hcellS : W.heap[T.aS]? = some cellS := hcS'
  have hout' : ∀ i, (⟨T.aS, i⟩ : Loc) ∉ locs := fun i hmem => by
    have := hlocs _ hmem cellS0 hcS0
    rw [hiss] at this; cases this
  have hknownS : cellS.vm ≠ .unknown := by
    rw [heS]; intro hu
    rw [show cellS0.vm = .unknown from hu] at hiss
    cases hiss
  have hneS : T.aS ≠ a := Nat.ne_of_lt (Nat.lt_of_lt_of_le (Array.getElem?_eq_some_iff.mp hcS0).1 hnew)
  obtain ⟨iM, hffM⟩ := Y.msg
  obtain ⟨tyC, dC, hdC, hdnC⟩ := Cond.laysAt hfound hk Y.cause (a' (.lays cls Bundle.tN "cause" "Ljava/lang/Throwable;") (by simp [Bundle.ownAtoms]))
  obtain ⟨tyS, dS, hdS, hdnS⟩ := Cond.laysAt hfound hk Y.stack (a' (.lays cls Bundle.tN "stackTrace" Bundle.steD) (by simp [Bundle.ownAtoms]))
  obtain ⟨tyP, dP, hdP, hdnP⟩ := Cond.laysAt hfound hk Y.supp (a' (.lays cls Bundle.tN "suppressedExceptions" Bundle.listD) (by simp [Bundle.ownAtoms]))
  obtain ⟨tyM, dM, hdM, hdnM⟩ := Cond.laysAt hfound hk hffM (a' (.lays cls Bundle.tN "detailMessage" "Ljava/lang/String;") (by simp [Bundle.ownAtoms]))
  obtain ⟨tyB, dB, hdB, hdnB⟩ := Cond.laysAt hfound hk hffB (a' (.lays cls Bundle.tN "backtrace" "Ljava/lang/Object;") (by simp [Bundle.ownAtoms]))
  have bC := Cond.laysApart hdB hdC hdnB hdnC (by rw [hnB, Y.causeName]; decide)
  have bS := Cond.laysApart hdB hdS hdnB hdnS (by rw [hnB, Y.stackName]; decide)
  have bP := Cond.laysApart hdB hdP hdnB hdnP (by rw [hnB, Y.suppName]; decide)
  have hskip : SkipFacts T e.platform s (fun u => u) u0 ((preparedCellV T.toThrowableT (freshCell P1.m.cls kX) a u0 sen).withEntry W.cur) :=
    ⟨{ ci198 := ci198, i198 := i198, fBack := fB }, ⟨hk198, hg198, ha198, hsB⟩, by
      have := fresh_default (c := P1.m.cls) tyB
      rw [htB] at this
      simpa [preparedCellV, Cell.setSlot, Cell.withEntry, Array.getElem?_setIfInBounds, bC, bS, bP, bC.symm, bS.symm, bP.symm, defaultValue] using this, fun _ _ => rfl⟩
  obtain ⟨tm, methC, cdC, kC, vm₁, hnC, -, -, -, -, -, -, -, hW₁, st1⟩ := Steps.initColdS (tb := p.tables) (e := e) (below := below) (s := s) (U := W) X.here hexec X.warmed hpl hown (t := Bundle.initS cls) rfl rfl (Bundle.fit_spec hcls).2
    (a' (.methodLink own ic (Bundle.initS cls)) (by simp [Bundle.ownAtoms])) (h (.instanceMethod (Bundle.initS cls)) (by cases names <;> simp [Bundle.ownAtoms, Bundle.chainSAtoms, Bundle.passSAtoms])) (bytes := Bundle.six) (maxL := 2) (h (.code (Bundle.initS cls) Bundle.six 2 none) (by cases names <;> simp [Bundle.ownAtoms, Bundle.chainSAtoms, Bundle.passSAtoms]))
    (f := g) hg (a := a) (msg := msg) (rest := .ref a :: rest) hstack hd6
  cases Option.some.inj (hnC.symm.trans hP1m)
  have X₁ := X.noted hW₁
  obtain ⟨vm₂, X₂, st2⟩ := X₁.ctorMessageOffV hexec (g := { g with stack := .ref a :: rest }) hg hsize T L Z LZ M LM (P1 :: Ps)
    (fun P hP => by rcases List.mem_cons.mp hP with rfl | hP; exact L1; exact hL P hP) ⟨hlink1, hlink⟩ (u0 := u0) (sen := sen) (self := a) hmsg (cell := freshCell P1.m.cls kX) (cellS := cellS)
    hcell (fun _ => by simp) (by simp) rfl rfl hsel0 hselF hcellS hneS hknownS (by rw [hkeep _ (hout' _)]; exact hu0) (by rw [hkeep _ (hout' _)]; exact hsen)
    (Takes.of_laid hk hord tyC (by rw [Y.causeType]; rfl)) (Takes.of_laid hk hord tyS (by rw [Y.stackType]; exact fits_refV_array _ u0)) (Takes.of_laid hk hord tyP (by rw [Y.suppType]; exact fits_refV_object _ sen))
    (Takes.of_laid hk hord tyM (by rw [Y.msgType]; exact fits_refV_object _ ⟨msg, hmsg⟩)) Y.objLocals hskip htr [] hd6
    (by simp only [List.length_cons, hlen]; omega) (by simp only [List.length_cons, hlen]; exact hRlocals)
  have hlt : a < ((W.setVm vm₁).setVm vm₂).heap.size := (Array.getElem?_eq_some_iff.mp hcell).1
  refine ⟨(W.setVm vm₁).setVm vm₂, _, _, X₂, fun y hy => ?_, hlt, rfl, rfl, fun target hwalk => st1 _ (fun acts => ?_)⟩
  · simp only [List.mem_cons, List.not_mem_nil, or_false] at hy
    rcases hy with rfl | rfl | rfl | rfl | rfl <;> rfl
  · rw [doInvoke_state]
    exact st2 _ hwalk
set_option maxHeartbeats 1000000 in
theorem vx_ctorMade0 (X : Stand p l e R s m₀ args below meth c W locs cells slots) (hexec : p.tables.exec = Jvm.exec) (htr : e.platform.stackTraces = false) {own cls : String} {names : List String} {ic : Nat}
    (hown : s.vm.findClass own = some m₀.cls) (hcls : Bundle.fit cls = true) (hnames : ∀ n ∈ names, Bundle.fit n = true)
    (h : ∀ a ∈ Bundle.ownAtoms0 own ic cls names, a.before args s = true)
    (hlocs : ∀ x ∈ locs, ∀ cell, s.heap[x.base]? = some cell → cell.vm.isStatics = false)
    {a : Addr} {cX : ClassId} {kX : Class} (hfoundX : s.vm.findClass cls = some cX) (hkX : s.vm.classes[cX]? = some kX) (hcell : W.heap[a]? = some (freshCell cX kX)) (hnew : s.heap.size ≤ a)
    {g : JFrame} (hg : g.method = m₀) (hsize : g.locals.size = c.maxLocals) {rest : List Value} (hstack : g.stack = .ref a :: .ref a :: rest)
    (hd6 : decode c.code g.pc = .ok (.invokespecial ic, 3))
    (hRframes : names.length + 3 < R.frames) (hRlocals : 2 * g.monitorRoom + ((Value.ref a :: rest).map fun v => v.category).sum + (13 * (names.length + 1) + 41) ≤ R.locals) :
    ∃ (V : State) (ce : Cell) (L : List Loc), Stand p l e R s m₀ args below meth c (V.setCell a ce) (locs ++ L) cells slots ∧ (∀ y ∈ L, y.base = a) ∧ a < V.heap.size ∧ ce.cls = cX ∧ ce.vm = .none ∧
      ∀ target, Steps p.tables e below ((V.setCell a ce).setTop { g with stack := .ref a :: rest, pc := g.pc + 3 }) target → Steps p.tables e below (W.setTop g) target := by
  have howns : e.platform.frameOwnsMonitors = true := by rw [X.admits.platform]
  have hfin : e.platform.finalization = false := by rw [X.admits.platform]
  have hpl : e.platform.magicAccessors = ({} : Platform).magicAccessors := by rw [X.admits.platform]
  have a' : ∀ x, x ∈ Bundle.ownAtoms0 own ic cls names → x.holds args s none s [] = true := fun x hx => h x hx
  obtain ⟨T, Z, L, LZ, Y⟩ := ThrowableC.of_atoms (args := args) howns hfin hpl (fun x hx => h x (by simp [Bundle.ownAtoms0, hx]))
  obtain ⟨P1, Ps, hlen, L1, hL, hP1m, hlink1, hlink⟩ := Bundle.chain0 (args := args) hpl Y.init0 names cls hcls hnames (fun x hx => h x (by simp [Bundle.ownAtoms0, hx]))
  have hfound : s.vm.findClass cls = some P1.m.cls := findClass_of_methodNamed hP1m
  cases Option.some.inj (hfoundX.symm.trans hfound)
  obtain ⟨c1, kX', hc1, hk, hord, -, -, hn6⟩ := Cond.instantiable_spec (a' (.instantiable cls 6) (by simp [Bundle.ownAtoms0]))
  cases Option.some.inj (hc1.symm.trans hfound)
  cases Option.some.inj (hkX.symm.trans hk)
  have hsel0 : selectMethod e.platform s.vm P1.m.cls T.fill0 = .method T.fill0 := by
    obtain ⟨c2, r2, m2, q1, q2, q3, q4, -⟩ := Cond.selects_spec (a' (.selects cls Bundle.tFill0 Bundle.tFill0) (by simp [Bundle.ownAtoms0]))
    cases Option.some.inj (q1.symm.trans hfound)
    cases Option.some.inj (q2.symm.trans (State.methodFound?_of_named Y.fill0 (by decide)))
    cases Option.some.inj (q3.symm.trans Y.fill0)
    rw [Launch.admits_selectMethod X.admits]; exact q4
  have hselF : selectMethod e.platform s.vm P1.m.cls T.fill = .method T.fill := by
    obtain ⟨c2, r2, m2, q1, q2, q3, q4, -⟩ := Cond.selects_spec (a' (.selects cls Bundle.tFill Bundle.tFill) (by simp [Bundle.ownAtoms0]))
    cases Option.some.inj (q1.symm.trans hfound)
    cases Option.some.inj (q2.symm.trans (State.methodFound?_of_named Y.fill (by decide)))
    cases Option.some.inj (q3.symm.trans Y.fill)
    rw [Launch.admits_selectMethod X.admits]; exact q4
  obtain ⟨cellS0, hcS0, hiss⟩ := Y.statics
  obtain ⟨u0, hu0⟩ := Cond.staticRefV Y.unassigned L.unassignedStatic L.statics hcS0 hiss (a' (.isRef (.static Bundle.tN "UNASSIGNED_STACK" Bundle.steD)) (by simp [Bundle.ownAtoms0]))
  obtain ⟨sen, hsen⟩ := Cond.staticRefV Y.sentinel L.sentinelStatic L.statics hcS0 hiss (a' (.isRef (.static Bundle.tN "SUPPRESSED_SENTINEL" Bundle.listD)) (by simp [Bundle.ownAtoms0]))
  obtain ⟨ci198, i198, fB, hk198, hg198, ha198, hsB, -, hnB, htB, hffB⟩ := Cond.ownField (t := .object "java/lang/Object") Y.found L.cls (by decide +kernel) (a' (.fieldLink Bundle.tN 198 Bundle.tN "backtrace" "Ljava/lang/Object;") (by simp [Bundle.ownAtoms0])) (a' (.lays Bundle.tN Bundle.tN "backtrace" "Ljava/lang/Object;") (by simp [Bundle.ownAtoms0])) e.platform hpl
  obtain ⟨cellS, hcS', heS, -, hkeep⟩ := X.same.2.2.2.2.2 T.aS cellS0 hcS0
  have hcellS : W.heap[T.aS]? = some cellS := hcS'
  have hout' : ∀ i, (⟨T.aS, i⟩ : Loc) ∉ locs := fun i hmem => by
    have := hlocs _ hmem cellS0 hcS0
    rw [hiss] at this; cases this
  have hknownS : cellS.vm ≠ .unknown := by
    rw [heS]; intro hu
    rw [show cellS0.vm = .unknown from hu] at hiss
    cases hiss
  have hneS : T.aS ≠ a := Nat.ne_of_lt (Nat.lt_of_lt_of_le (Array.getElem?_eq_some_iff.mp hcS0).1 hnew)
  obtain ⟨iM, hffM⟩ := Y.msg
  obtain ⟨tyC, dC, hdC, hdnC⟩ := Cond.laysAt hfound hk Y.cause (a' (.lays cls Bundle.tN "cause" "Ljava/lang/Throwable;") (by simp [Bundle.ownAtoms0]))
  obtain ⟨tyS, dS, hdS, hdnS⟩ := Cond.laysAt hfound hk Y.stack (a' (.lays cls Bundle.tN "stackTrace" Bundle.steD) (by simp [Bundle.ownAtoms0]))
  obtain ⟨tyP, dP, hdP, hdnP⟩ := Cond.laysAt hfound hk Y.supp (a' (.lays cls Bundle.tN "suppressedExceptions" Bundle.listD) (by simp [Bundle.ownAtoms0]))
  obtain ⟨tyM, dM, hdM, hdnM⟩ := Cond.laysAt hfound hk hffM (a' (.lays cls Bundle.tN "detailMessage" "Ljava/lang/String;") (by simp [Bundle.ownAtoms0]))
  obtain ⟨tyB, dB, hdB, hdnB⟩ := Cond.laysAt hfound hk hffB (a' (.lays cls Bundle.tN "backtrace" "Ljava/lang/Object;") (by simp [Bundle.ownAtoms0]))
  have bC := Cond.laysApart hdB hdC hdnB hdnC (by rw [hnB, Y.causeName]; decide)
  have bS := Cond.laysApart hdB hdS hdnB hdnS (by rw [hnB, Y.stackName]; decide)
  have bP := Cond.laysApart hdB hdP hdnB hdnP (by rw [hnB, Y.suppName]; decide)
  have hskip : SkipFacts T e.platform s (fun u => u) u0 ((preparedCellV T.toThrowableT (freshCell P1.m.cls kX) a u0 sen).withEntry W.cur) :=
    ⟨{ ci198 := ci198, i198 := i198, fBack := fB }, ⟨hk198, hg198, ha198, hsB⟩, by
      have := fresh_default (c := P1.m.cls) tyB
      rw [htB] at this
      simpa [preparedCellV, Cell.setSlot, Cell.withEntry, Array.getElem?_setIfInBounds, bC, bS, bP, bC.symm, bS.symm, bP.symm, defaultValue] using this, fun _ _ => rfl⟩
  obtain ⟨tm, methC, cdC, kC, vm₁, hnC, -, -, -, -, -, -, -, hW₁, st1⟩ := Steps.initCold (tb := p.tables) (e := e) (below := below) (s := s) (U := W) X.here hexec X.warmed hpl hown (t := Bundle.init0 cls) rfl rfl (Bundle.fit_spec hcls).2
    (a' (.methodLink own ic (Bundle.init0 cls)) (by simp [Bundle.ownAtoms0])) (h (.instanceMethod (Bundle.init0 cls)) (by cases names <;> simp [Bundle.ownAtoms0, Bundle.chain0Atoms, Bundle.passAtoms])) (bytes := Bundle.five) (maxL := 1) (h (.code (Bundle.init0 cls) Bundle.five 1 none) (by cases names <;> simp [Bundle.ownAtoms0, Bundle.chain0Atoms, Bundle.passAtoms]))
    (f := g) hg (a := a) (rest := .ref a :: rest) hstack hd6
  cases Option.some.inj (hnC.symm.trans hP1m)
  have X₁ := X.noted hW₁
  obtain ⟨vm₂, X₂, st2⟩ := X₁.ctorPlainOffV hexec (g := { g with stack := .ref a :: rest }) hg hsize T L Z LZ (P1 :: Ps)
    (fun P hP => by rcases List.mem_cons.mp hP with rfl | hP; exact L1; exact hL P hP) ⟨hlink1, hlink⟩ (u0 := u0) (sen := sen) (self := a) (cell := freshCell P1.m.cls kX) (cellS := cellS)
    hcell (fun _ => by simp) (by simp) rfl rfl hsel0 hselF hcellS hneS hknownS (by rw [hkeep _ (hout' _)]; exact hu0) (by rw [hkeep _ (hout' _)]; exact hsen)
    (Takes.of_laid hk hord tyC (by rw [Y.causeType]; rfl)) (Takes.of_laid hk hord tyS (by rw [Y.stackType]; exact fits_refV_array _ u0)) (Takes.of_laid hk hord tyP (by rw [Y.suppType]; exact fits_refV_object _ sen)) Y.objLocals hskip htr [] hd6
    (by simp only [List.length_cons, hlen]; omega) (by simp only [List.length_cons, hlen]; exact hRlocals)
  have hlt : a < ((W.setVm vm₁).setVm vm₂).heap.size := (Array.getElem?_eq_some_iff.mp hcell).1
  refine ⟨(W.setVm vm₁).setVm vm₂, _, _, X₂, fun y hy => ?_, hlt, rfl, rfl, fun target hwalk => st1 _ (fun acts => ?_)⟩
  · simp only [List.mem_cons, List.not_mem_nil, or_false] at hy
    rcases hy with rfl | rfl | rfl | rfl <;> rfl
  · rw [doInvoke_state]
    exact st2 _ hwalk
end VXK
section VXK2
variable {p : Program} {l : Launch} {e : Env} {R : Room} {s : State} {m : MethodId} {args : Array Value} {below : List Frame} {meth : Method} {c : Code} {H : Heap} {locs : List Loc} {cells slots : Nat} {Q : State → Prop}
variable {ls : Array Slot} {rest : List Value} {D : va_G} {cl : List vw_C} {tys : List (ClassId × FieldType)} {ws : va_W}
/-- 'new E("text")' that isn't thrown at once: the object goes on the stack -/
theorem vx_makeS {cc : ByteArray} {pc : Nat} (hexec : p.tables.exec = Jvm.exec) (hb : c.code = cc) (hl : l.stackTraces = false) {own cls text : String} {names : List String} {ik is ic sa ci : Nat} {A : Nat → Prop} {T0 : u_T}
    (hown : s.vm.findClass own = some m.cls) (hcls : Bundle.fit cls = true) (hnames : ∀ n ∈ names, Bundle.fit n = true)
    (hk : (Cond.classLink own ik cls).before args s = true) (hini : (Cond.initialized cls).before args s = true) (hstr : vk_R own is text sa s) (hat : ∀ w ∈ vx_atS own ic cls names, w.before args s = true)
    (hgood : ∀ w ∈ Cond.classLink own ik cls :: Cond.initialized cls :: vx_atS own ic cls names, vx_ot w = true)
    (hU : vx_Zq Bundle.tN "UNASSIGNED_STACK" Bundle.steD A s s.heap) (hN : vx_Zq Bundle.tN "SUPPRESSED_SENTINEL" Bundle.listD A s s.heap) (hS : va_S A s.heap H locs) (hsize : ls.size = c.maxLocals)
    (d0 : decode cc pc = .ok (.new ik, 3)) (d3 : decode cc (pc + 3) = .ok (.dup, 1)) (d4 : decode cc (pc + 4) = .ok (.ldc is, 2)) (d6 : decode cc (pc + 6) = .ok (.invokespecial ic, 3))
    (hK : va_K D cl tys s) (hP : va_P D cl ws H) (hD : va_D A ws) (hA : ∀ q, s.heap.size ≤ q → A q) (hc : cl[ci]? = some (cls, T0, 0))
    (hRframes : names.length + 3 < R.frames) (hRlocals : (rest.map fun v => v.category).sum + (13 * (names.length + 1) + 43) ≤ R.locals) (hRcells : cells + 1 ≤ R.cells) (hRslots : slots + 6 ≤ R.slots)
    (kk : ∀ (q : Nat) (H1 : Heap), va_P D cl (ws ++ [(q, .inr (ci, []))]) H1 → va_D A (ws ++ [(q, .inr (ci, []))]) → va_S A s.heap H1 locs → W p l e R s m args below meth c H1 locs (cells + 1) (slots + 6) Q (F0 m (pc + 9) ls (.ref q :: rest))) :
    W p l e R s m args below meth c H locs cells slots Q (F0 m pc ls rest) := by
  intro T hT X
  subst hT
  have htr : e.platform.stackTraces = false := (show e.platform.stackTraces = l.stackTraces by rw [X.admits.platform]).trans hl
  have Y := vx_rebase X (R' := { frames := R.frames, locals := R.locals, cells := 1, slots := 6 }) (Nat.le_refl _) (Nat.le_refl _) hRcells hRslots
  obtain ⟨s', hA'⟩ : ∃ z, z = (T.setVm s.vm).setFrames (.invoking m args :: below) := ⟨_, rfl⟩
  rw [← hA'] at Y
  have hvm : s'.vm = s.vm := by rw [hA']; rfl
  have hhp : s'.heap = T.heap := by rw [hA']; rfl
  have hW0 : s.WarmedH s'.vm := by rw [hvm]; exact State.WarmedH.refl s
  have hat' : ∀ w ∈ vx_atS own ic cls names, w.before args s' = true := fun w hw => vx_ot_at hW0 hvm.symm (hgood w (List.mem_cons_of_mem _ (List.mem_cons_of_mem _ hw))) (hat w hw)
  have hk' : (Cond.classLink own ik cls).before args s' = true := vx_ot_at hW0 hvm.symm (hgood _ List.mem_cons_self) hk
  have hini' : (Cond.initialized cls).before args s' = true := vx_ot_at hW0 hvm.symm (hgood _ (List.mem_cons_of_mem _ List.mem_cons_self)) hini
  have hU' : vx_Zq Bundle.tN "UNASSIGNED_STACK" Bundle.steD A s' s'.heap := by rw [hhp]; exact vx_Zq.moved hW0.alike (hU.kept hS.2.1)
  have hN' : vx_Zq Bundle.tN "SUPPRESSED_SENTINEL" Bundle.listD A s' s'.heap := by rw [hhp]; exact vx_Zq.moved hW0.alike (hN.kept hS.2.1)
  have h : ∀ w ∈ Bundle.ownAtoms own ic cls names, w.before args s' = true := vx_own hat' (vx_isRefq hU'.1) (vx_isRefq hN'.1) hU'.2.word hN'.2.word
  have hown' : s'.vm.findClass own = some m.cls := by rw [hvm]; exact hown
  have hins : (Cond.instantiable cls 6).before args s' = true := h _ (by simp [Bundle.ownAtoms])
  obtain ⟨vm₁, cX, kX, hfX, hkX, -, -, X₁, st1⟩ := Y.newCold hexec (own := own) (C := cls) (index := ik) (n := 6) hown' hk' hins hini'
    (g := F0 m pc ls rest) rfl (by rw [hb]; exact d0) (Nat.le_refl _) (Nat.le_refl _)
  generalize hT1 : (T.setVm vm₁).pushCell { cls := cX, slots := kX.instanceTypes.map defaultValue, vm := .none } = T1 at X₁ st1
  have hcat : (Value.ref T.heap.size).category = 1 := rfl
  have hcellA : T1.heap[T.heap.size]? = some (freshCell cX kX) := by rw [← hT1]; exact State.heap_pushCell_size _ _
  have d3' : decode c.code (pc + 3) = .ok (.dup, 1) := by rw [hb]; exact d3
  have d4' : decode c.code (pc + 4) = .ok (.ldc is, 2) := by rw [hb]; exact d4
  have hstr' : vk_R own is text sa s' := vk_R.warm hW0 hstr
  obtain ⟨V, ce, L, Z, hL, hlt, hcl9, hvm9, st⟩ := vx_ctorMadeS X₁ hexec htr (own := own) (cls := cls) (names := names) (ic := ic) hown' hcls hnames h (fun x hx => nomatch hx) hfX hkX hcellA (by rw [hhp]; exact Nat.le_refl _) (msg := .ref sa) rfl
    (g := { method := m, pc := pc + 6, locals := ls, stack := .ref sa :: .ref T.heap.size :: .ref T.heap.size :: rest, locked := none }) rfl hsize (rest := rest) rfl
    (by rw [hb]; exact d6) hRframes (by simp only [List.map_cons, List.sum_cons, hcat]; omega)
  have Z0 := Stand.forget (locs := []) Z (fun y hy => by rw [hL y hy, hhp]; exact Nat.le_refl _)
  obtain ⟨f1, f2⟩ := vx_frame Z0.same
  rw [hhp] at f1 f2
  have hcid : ce.cls = D.1 ci := by
    rw [hcl9]
    have h1 := (hK.1 ci _ hc).2.1
    rw [hvm] at hfX
    exact Option.some.inj (hfX.symm.trans h1)
  have hh : (V.setCell T.heap.size ce).heap[T.heap.size]? = some ce := heapAt_setCell_self (s := V) ce hlt
  subst hA'
  have X5 := vx_back9 X Y Z0
  have X6 : Stand p l e R s m args below meth c (V.setCell T.heap.size ce) locs (cells + 1) (slots + 6) := { X5 with same := X5.same.mono (by omega) (by omega) }
  have hk9 : ∀ (k : Nat) (x : Nat × va_E), ws[k]? = some x → (V.setCell T.heap.size ce).heap[x.1]? = T.heap[x.1]? := fun k x hx => f2 x.1 ((hP k x hx).lt) (fun z hz => nomatch hz)
  obtain ⟨t, a1, b1⟩ := kk T.heap.size (V.setCell T.heap.size ce).heap ((hP.kept hk9).app (fun k x hx => by
      have hz : k < 1 := (List.getElem?_eq_some_iff.mp hx).1
      rw [show k = 0 by omega] at hx
      cases hx
      exact ⟨_, hc, ce, hh, hcid, hvm9, fun k hk => absurd hk (Nat.not_lt_zero k)⟩)) (hD.push hP rfl (hA _ hS.1)) ⟨Nat.le_trans hS.1 f1, fun q h1 h2 => (f2 q (Nat.lt_of_lt_of_le h1 hS.1) (fun z hz => nomatch hz)).trans (hS.2.1 q h1 h2), hS.2.2⟩ _ rfl X6
  refine ⟨t, st1 _ ?_, b1⟩
  show Steps p.tables e below (T1.setTop { method := m, pc := pc + 3, locals := ls, stack := .ref T.heap.size :: rest, locked := none }) _
  jvm_step X₁.here [X₁.here.top, hexec, d3', Value.category]
  exact X₁.ldcString hexec (own := own) (text := text) (index := is) (a := sa) hown' hstr'.1 hstr'.2
    (g := { method := m, pc := pc + 4, locals := ls, stack := .ref T.heap.size :: .ref T.heap.size :: rest, locked := none }) rfl d4' _ (st _ a1)
/-- 'new E()' that isn't thrown at once: the object goes on the stack -/
theorem vx_make0 {cc : ByteArray} {pc : Nat} (hexec : p.tables.exec = Jvm.exec) (hb : c.code = cc) (hl : l.stackTraces = false) {own cls : String} {names : List String} {ik ic ci : Nat} {A : Nat → Prop} {T0 : u_T}
    (hown : s.vm.findClass own = some m.cls) (hcls : Bundle.fit cls = true) (hnames : ∀ n ∈ names, Bundle.fit n = true)
    (hk : (Cond.classLink own ik cls).before args s = true) (hini : (Cond.initialized cls).before args s = true) (hat : ∀ w ∈ vx_at0 own ic cls names, w.before args s = true)
    (hgood : ∀ w ∈ Cond.classLink own ik cls :: Cond.initialized cls :: vx_at0 own ic cls names, vx_ot w = true)
    (hU : vx_Zq Bundle.tN "UNASSIGNED_STACK" Bundle.steD A s s.heap) (hN : vx_Zq Bundle.tN "SUPPRESSED_SENTINEL" Bundle.listD A s s.heap) (hS : va_S A s.heap H locs) (hsize : ls.size = c.maxLocals)
    (d0 : decode cc pc = .ok (.new ik, 3)) (d3 : decode cc (pc + 3) = .ok (.dup, 1)) (d4 : decode cc (pc + 4) = .ok (.invokespecial ic, 3))
    (hK : va_K D cl tys s) (hP : va_P D cl ws H) (hD : va_D A ws) (hA : ∀ q, s.heap.size ≤ q → A q) (hc : cl[ci]? = some (cls, T0, 0))
    (hRframes : names.length + 3 < R.frames) (hRlocals : (rest.map fun v => v.category).sum + (13 * (names.length + 1) + 42) ≤ R.locals) (hRcells : cells + 1 ≤ R.cells) (hRslots : slots + 6 ≤ R.slots)
    (kk : ∀ (q : Nat) (H1 : Heap), va_P D cl (ws ++ [(q, .inr (ci, []))]) H1 → va_D A (ws ++ [(q, .inr (ci, []))]) → va_S A s.heap H1 locs → W p l e R s m args below meth c H1 locs (cells + 1) (slots + 6) Q (F0 m (pc + 7) ls (.ref q :: rest))) :
    W p l e R s m args below meth c H locs cells slots Q (F0 m pc ls rest) := by
  intro T hT X
  subst hT
  have htr : e.platform.stackTraces = false := (show e.platform.stackTraces = l.stackTraces by rw [X.admits.platform]).trans hl
  have Y := vx_rebase X (R' := { frames := R.frames, locals := R.locals, cells := 1, slots := 6 }) (Nat.le_refl _) (Nat.le_refl _) hRcells hRslots
  obtain ⟨s', hA'⟩ : ∃ z, z = (T.setVm s.vm).setFrames (.invoking m args :: below) := ⟨_, rfl⟩
  rw [← hA'] at Y
  have hvm : s'.vm = s.vm := by rw [hA']; rfl
  have hhp : s'.heap = T.heap := by rw [hA']; rfl
  have hW0 : s.WarmedH s'.vm := by rw [hvm]; exact State.WarmedH.refl s
  have hat' : ∀ w ∈ vx_at0 own ic cls names, w.before args s' = true := fun w hw => vx_ot_at hW0 hvm.symm (hgood w (List.mem_cons_of_mem _ (List.mem_cons_of_mem _ hw))) (hat w hw)
  have hk' : (Cond.classLink own ik cls).before args s' = true := vx_ot_at hW0 hvm.symm (hgood _ List.mem_cons_self) hk
  have hini' : (Cond.initialized cls).before args s' = true := vx_ot_at hW0 hvm.symm (hgood _ (List.mem_cons_of_mem _ List.mem_cons_self)) hini
  have hU' : vx_Zq Bundle.tN "UNASSIGNED_STACK" Bundle.steD A s' s'.heap := by rw [hhp]; exact vx_Zq.moved hW0.alike (hU.kept hS.2.1)
  have hN' : vx_Zq Bundle.tN "SUPPRESSED_SENTINEL" Bundle.listD A s' s'.heap := by rw [hhp]; exact vx_Zq.moved hW0.alike (hN.kept hS.2.1)
  have h : ∀ w ∈ Bundle.ownAtoms0 own ic cls names, w.before args s' = true := vx_own hat' (vx_isRefq hU'.1) (vx_isRefq hN'.1) hU'.2.word hN'.2.word
  have hown' : s'.vm.findClass own = some m.cls := by rw [hvm]; exact hown
  have hins : (Cond.instantiable cls 6).before args s' = true := h _ (by simp [Bundle.ownAtoms0])
  obtain ⟨vm₁, cX, kX, hfX, hkX, -, -, X₁, st1⟩ := Y.newCold hexec (own := own) (C := cls) (index := ik) (n := 6) hown' hk' hins hini'
    (g := F0 m pc ls rest) rfl (by rw [hb]; exact d0) (Nat.le_refl _) (Nat.le_refl _)
  generalize hT1 : (T.setVm vm₁).pushCell { cls := cX, slots := kX.instanceTypes.map defaultValue, vm := .none } = T1 at X₁ st1
  have hcat : (Value.ref T.heap.size).category = 1 := rfl
  have hcellA : T1.heap[T.heap.size]? = some (freshCell cX kX) := by rw [← hT1]; exact State.heap_pushCell_size _ _
  have d3' : decode c.code (pc + 3) = .ok (.dup, 1) := by rw [hb]; exact d3
  obtain ⟨V, ce, L, Z, hL, hlt, hcl9, hvm9, st⟩ := vx_ctorMade0 X₁ hexec htr (own := own) (cls := cls) (names := names) (ic := ic) hown' hcls hnames h (fun x hx => nomatch hx) hfX hkX hcellA (by rw [hhp]; exact Nat.le_refl _)
    (g := { method := m, pc := pc + 4, locals := ls, stack := .ref T.heap.size :: .ref T.heap.size :: rest, locked := none }) rfl hsize (rest := rest) rfl
    (by rw [hb]; exact d4) hRframes (by simp only [List.map_cons, List.sum_cons, hcat]; omega)
  have Z0 := Stand.forget (locs := []) Z (fun y hy => by rw [hL y hy, hhp]; exact Nat.le_refl _)
  obtain ⟨f1, f2⟩ := vx_frame Z0.same
  rw [hhp] at f1 f2
  have hcid : ce.cls = D.1 ci := by
    rw [hcl9]
    have h1 := (hK.1 ci _ hc).2.1
    rw [hvm] at hfX
    exact Option.some.inj (hfX.symm.trans h1)
  have hh : (V.setCell T.heap.size ce).heap[T.heap.size]? = some ce := heapAt_setCell_self (s := V) ce hlt
  subst hA'
  have X5 := vx_back9 X Y Z0
  have X6 : Stand p l e R s m args below meth c (V.setCell T.heap.size ce) locs (cells + 1) (slots + 6) := { X5 with same := X5.same.mono (by omega) (by omega) }
  have hk9 : ∀ (k : Nat) (x : Nat × va_E), ws[k]? = some x → (V.setCell T.heap.size ce).heap[x.1]? = T.heap[x.1]? := fun k x hx => f2 x.1 ((hP k x hx).lt) (fun z hz => nomatch hz)
  obtain ⟨t, a1, b1⟩ := kk T.heap.size (V.setCell T.heap.size ce).heap ((hP.kept hk9).app (fun k x hx => by
      have hz : k < 1 := (List.getElem?_eq_some_iff.mp hx).1
      rw [show k = 0 by omega] at hx
      cases hx
      exact ⟨_, hc, ce, hh, hcid, hvm9, fun k hk => absurd hk (Nat.not_lt_zero k)⟩)) (hD.push hP rfl (hA _ hS.1)) ⟨Nat.le_trans hS.1 f1, fun q h1 h2 => (f2 q (Nat.lt_of_lt_of_le h1 hS.1) (fun z hz => nomatch hz)).trans (hS.2.1 q h1 h2), hS.2.2⟩ _ rfl X6
  refine ⟨t, st1 _ ?_, b1⟩
  show Steps p.tables e below (T1.setTop { method := m, pc := pc + 3, locals := ls, stack := .ref T.heap.size :: rest, locked := none }) _
  jvm_step X₁.here [X₁.here.top, hexec, d3', Value.category]
  exact st _ a1
/-- 'throw x' of an object that was made before -/
theorem vx_athrow {cc : ByteArray} {pc : Nat} (hexec : p.tables.exec = Jvm.exec) (hb : c.code = cc) {q : Addr} (hdg : decode cc pc = .ok (.athrow, 1)) (k : vx_W p l e R s m args below meth c H locs cells slots Q (F0 m pc ls rest) q) : W p l e R s m args below meth c H locs cells slots Q (F0 m pc ls (.ref q :: rest)) := by
  intro T hT X
  obtain ⟨t, st, hq⟩ := k T hT X
  refine ⟨t, ?_, hq⟩
  have hdg' : decode c.code pc = .ok (.athrow, 1) := by rw [hb]; exact hdg
  jvm_step X.here [X.here.top, hexec, hdg', athrow.wp_sem]
  exact st
end VXK2
/-! ===== END ===== -/
/-! ===== BEGIN a constructor that throws (launches without stack traces) ===== -/
section VXIA
variable {p : Program} {l : Launch} {e : Env} {R : Room} {s : State} {m : MethodId} {args : Array Value} {below : List Frame} {meth : Method} {c : Code} {T : State} {locs : List Loc} {cells slots : Nat}
theorem vx_callI (X : Stand p l e R s m args below meth c T locs cells slots) (hexec : p.tables.exec = Jvm.exec) {own : String} {index : Nat} {y : MethodName} {bytes : ByteArray} {maxL : Nat}
    (hown : s.vm.findClass own = some m.cls) (hy1 : y.name = "<init>") (hlink : (Cond.methodLink own index y).before args s = true) (hinst : (Cond.instanceMethod y).before args s = true)
    (hcode : (Cond.code y bytes maxL none).before args s = true) (hy : y.cls ≠ "java/lang/invoke/MethodHandle" ∧ y.cls ≠ "java/lang/invoke/VarHandle")
    {W9 : Nat} {Pre : Pt → Array Value → Prop} {Post : Pt → Array Value → Option Value → Pt → Prop} {PostX : Pt → Array Value → Addr → Pt → Prop} (hK : vx_Back l R p e below s args y 3 W9 Pre Post PostX)
    {g : JFrame} (hg : g.method = m) (hsize : g.locals.size = c.maxLocals) {a : Addr} {argsL rest : List Value} (hlen : ∀ sig, parseMethodDescriptor y.desc = some sig → argsL.length = sig.parameters.length)
    (hstack : g.stack = argsL.reverse ++ .ref a :: rest) (hW : 2 * g.monitorRoom + (rest.map fun v => v.category).sum ≤ W9) (hdg : decode c.code g.pc = .ok (.invokespecial index, 3))
    (hpre : ∀ vm₁, s.WarmedH vm₁ → Pre ⟨T.setVm vm₁, locs, cells, slots⟩ (Value.ref a :: argsL).toArray) :
    (∃ (v : Option Value) (vm₁ : Vm) (B : Pt), s.WarmedH vm₁ ∧ Stand p l e R s m args below meth c B.U B.locs B.cells B.slots ∧ Post ⟨T.setVm vm₁, locs, cells, slots⟩ (Value.ref a :: argsL).toArray v B ∧
      ∀ target, Steps p.tables e below (B.U.setTop { g with pc := g.pc + 3, stack := v.toList ++ rest }) target → Steps p.tables e below (T.setTop g) target) ∨
    (∃ (q : Addr) (vm₁ : Vm) (B : Pt), s.WarmedH vm₁ ∧ Stand p l e R s m args below meth c B.U B.locs B.cells B.slots ∧ PostX ⟨T.setVm vm₁, locs, cells, slots⟩ (Value.ref a :: argsL).toArray q B ∧
      Steps p.tables e below (T.setTop g) ((B.U.setTop { g with stack := rest }).pushFrame (.throwing q))) := by
  subst hg
  have hpl : e.platform.magicAccessors = ({} : Platform).magicAccessors := by rw [X.admits.platform]
  obtain ⟨mk, methM, cM, kP, vm₁, hnamed, hmethM, hcodeM, -, hlocalsM, -, hkP, -, hW₁, hstep₁⟩ := Steps.initColdArgs (e := e) X.here hexec X.warmed hpl hown hy1 hy hlink hinst hcode (f := g) rfl hlen hstack hdg
  have X₁ := X.noted hW₁
  rcases hK g.method meth c ⟨T.setVm vm₁, locs, cells, slots⟩ { g with stack := rest } (.invokespecial index) mk (Value.ref a :: argsL).toArray X₁ rfl hsize hdg hW (X₁.named hnamed) (hpre vm₁ X₁.warmed) with ⟨v, B, X', hpost, hsteps⟩ | ⟨q, B, X', hpost, hsteps⟩
  · exact Or.inl ⟨v, vm₁, B, X₁.warmed, X', hpost, fun target h => hstep₁ _ fun acts => by rw [doInvoke_state]; exact hsteps.trans h⟩
  · exact Or.inr ⟨q, vm₁, B, X₁.warmed, X', hpost, hstep₁ _ fun acts => by rw [doInvoke_state]; exact hsteps⟩
end VXIA
section VXIB
variable {p : Program} {l : Launch} {e : Env} {R : Room} {s : State} {m : MethodId} {args : Array Value} {below : List Frame} {meth : Method} {c : Code} {H : Heap} {locs : List Loc} {cells slots : Nat}
variable {y : MethodName} {bytes cc : ByteArray} {maxL nL mc ms n index : Nat} {ret : Option FieldType} {ws : List Cond} {rm : Room} {Pc : Array Value → State → Prop} {Qc : Array Value → State → Outcome → State → Prop} {XC : String → State → State → Prop} {free : Addr → Prop} {Ts : List Cond} {own C : String} {b : Addr} {As rest : List Value} {g : JFrame}
theorem vx_runI (S : CallFix p m c cc nL s args Ts own) (hM : vx_Met l y ws rm Pc Qc XC mc ms free) (cw : CallB R s args own index y bytes maxL none ws rm mc ms n ∧ y.name = "<init>" ∧ (Cond.instanceMethod y).before args s = true) (hp : PreS s H Pc (.ref b :: As))
    (hg : g.method = m) (hn : As.length = n) (hsize : g.locals.size = nL) (hstack : g.stack = As.reverse ++ .ref b :: rest) (hW : 2 * g.monitorRoom + (rest.map fun v => v.category).sum ≤ 8) (hdg : decode cc g.pc = .ok (.invokespecial index, 3)) (hf : cells + mc ≤ R.cells ∧ slots + ms ≤ R.slots) :
    vx_Run p l e R s m args below meth c H locs cells slots mc ms g rest (Qc (Value.ref b :: As).toArray) XC free := by
  have hK : vx_Back l R p e below s args y 3 8 (PreOf R mc ms Pc) (PostOf Qc mc ms free) (vx_Post XC mc ms free) := vx_callBack cw.1 hM hp.1
  obtain ⟨⟨-, -, -, -, -, -, hcode, -, hy, hlen, hl⟩, hy1, hin⟩ := cw
  obtain ⟨hx, hb, hml, ho, -⟩ := S
  have hPc := hp.2
  intro T hT X
  rcases vx_callI X hx (bytes := bytes) (maxL := maxL) ho hy1 hl hin hcode hy hK hg (hsize.trans hml.symm) (a := b) (argsL := As) (rest := rest) (fun sig h => hn.trans (hlen sig h)) hstack hW (by rw [hb]; exact hdg)
    (fun vm₁ hW₁ => ⟨hf.1, hf.2, hPc (T.setVm vm₁) hT hW₁⟩) with ⟨v, vm₁, ⟨U', l2, c2, s2⟩, hW₁, X', ⟨g', mk, t, L, e1, e2, hq, h1, hL, h2, h3⟩, st⟩ | ⟨q, vm₁, ⟨U', l2, c2, s2⟩, hW₁, X', ⟨g', mk, t, L, E, ce, e1, e2, hq, hce, hcv, hcl, h1, hL, h2, h3⟩, st⟩
  · dsimp only [Pt.U, Pt.locs, Pt.cells, Pt.slots] at X' e1 e2 h1 h2 h3 st
    subst h1; subst h2; subst h3
    exact Or.inl ⟨v, (T.setVm vm₁).calling g' mk (Value.ref b :: As).toArray, t, U', L, hT, X', hL, e1, e2, hq, st⟩
  · dsimp only [Pt.U, Pt.locs, Pt.cells, Pt.slots] at X' e1 e2 h1 h2 h3 st hcl
    subst h1; subst h2; subst h3
    exact Or.inr ⟨q, (T.setVm vm₁).calling g' mk (Value.ref b :: As).toArray, t, U', L, E, ce, hT, X', hL, e1, e2, hq, hce, hcv, vx_cls hW₁ hcl, st⟩
end VXIB
/-! ===== END ===== -/
/-! ===== BEGIN a private constructor of a nest mate that throws ===== -/
section VXIC
variable {p : Program} {l : Launch} {e : Env} {R : Room} {s : State} {m : MethodId} {args : Array Value} {below : List Frame} {meth : Method} {c : Code} {T : State} {locs : List Loc} {cells slots : Nat}
theorem vx_callIN (X : Stand p l e R s m args below meth c T locs cells slots) (hexec : p.tables.exec = Jvm.exec) {own : String} {index : Nat} {host : String} {y : MethodName} {bytes : ByteArray} {maxL : Nat}
    (hown : s.vm.findClass own = some m.cls) (hy1 : y.name = "<init>") (hlink : (Cond.methodLinkNest own index y host).before args s = true) (hinst : (Cond.instanceMethod y).before args s = true)
    (hcode : (Cond.code y bytes maxL none).before args s = true) (hy : y.cls ≠ "java/lang/invoke/MethodHandle" ∧ y.cls ≠ "java/lang/invoke/VarHandle")
    {W9 : Nat} {Pre : Pt → Array Value → Prop} {Post : Pt → Array Value → Option Value → Pt → Prop} {PostX : Pt → Array Value → Addr → Pt → Prop} (hK : vx_Back l R p e below s args y 3 W9 Pre Post PostX)
    {g : JFrame} (hg : g.method = m) (hsize : g.locals.size = c.maxLocals) {a : Addr} {argsL rest : List Value} (hlen : ∀ sig, parseMethodDescriptor y.desc = some sig → argsL.length = sig.parameters.length)
    (hstack : g.stack = argsL.reverse ++ .ref a :: rest) (hW : 2 * g.monitorRoom + (rest.map fun v => v.category).sum ≤ W9) (hdg : decode c.code g.pc = .ok (.invokespecial index, 3))
    (hpre : ∀ vm₁, s.WarmedH vm₁ → Pre ⟨T.setVm vm₁, locs, cells, slots⟩ (Value.ref a :: argsL).toArray) :
    (∃ (v : Option Value) (vm₁ : Vm) (B : Pt), s.WarmedH vm₁ ∧ Stand p l e R s m args below meth c B.U B.locs B.cells B.slots ∧ Post ⟨T.setVm vm₁, locs, cells, slots⟩ (Value.ref a :: argsL).toArray v B ∧
      ∀ target, Steps p.tables e below (B.U.setTop { g with pc := g.pc + 3, stack := v.toList ++ rest }) target → Steps p.tables e below (T.setTop g) target) ∨
    (∃ (q : Addr) (vm₁ : Vm) (B : Pt), s.WarmedH vm₁ ∧ Stand p l e R s m args below meth c B.U B.locs B.cells B.slots ∧ PostX ⟨T.setVm vm₁, locs, cells, slots⟩ (Value.ref a :: argsL).toArray q B ∧
      Steps p.tables e below (T.setTop g) ((B.U.setTop { g with stack := rest }).pushFrame (.throwing q))) := by
  subst hg
  have hpl : e.platform.magicAccessors = ({} : Platform).magicAccessors := by rw [X.admits.platform]
  obtain ⟨mk, methM, cM, kP, vm₁, hnamed, hmethM, hcodeM, -, hlocalsM, -, hkP, -, hW₁, hstep₁⟩ := Steps.initColdArgsNest (e := e) X.here hexec X.warmed hpl hown hy1 hy hlink hinst hcode (f := g) rfl hlen hstack hdg
  have X₁ := X.noted hW₁
  rcases hK g.method meth c ⟨T.setVm vm₁, locs, cells, slots⟩ { g with stack := rest } (.invokespecial index) mk (Value.ref a :: argsL).toArray X₁ rfl hsize hdg hW (X₁.named hnamed) (hpre vm₁ X₁.warmed) with ⟨v, B, X', hpost, hsteps⟩ | ⟨q, B, X', hpost, hsteps⟩
  · exact Or.inl ⟨v, vm₁, B, X₁.warmed, X', hpost, fun target h => hstep₁ _ fun acts => by rw [doInvoke_state]; exact hsteps.trans h⟩
  · exact Or.inr ⟨q, vm₁, B, X₁.warmed, X', hpost, hstep₁ _ fun acts => by rw [doInvoke_state]; exact hsteps⟩
end VXIC
section VXID
variable {p : Program} {l : Launch} {e : Env} {R : Room} {s : State} {m : MethodId} {args : Array Value} {below : List Frame} {meth : Method} {c : Code} {H : Heap} {locs : List Loc} {cells slots : Nat}
theorem vx_runIN {y : MethodName} {bytes cc : ByteArray} {maxL nL mc ms n index : Nat} {ws : List Cond} {rm : Room} {Pc : Array Value → State → Prop} {Qc : Array Value → State → Outcome → State → Prop} {XC : String → State → State → Prop} {free : Addr → Prop} {Ts : List Cond} {own host : String} {b : Addr} {As rest : List Value} {g : JFrame}
    (S : CallFix p m c cc nL s args Ts own) (hM : vx_Met l y ws rm Pc Qc XC mc ms free) (cw : va_CN R s args own index y host bytes maxL none ws rm mc ms n ∧ y.name = "<init>" ∧ (Cond.instanceMethod y).before args s = true) (hp : PreS s H Pc (.ref b :: As))
    (hg : g.method = m) (hn : As.length = n) (hsize : g.locals.size = nL) (hstack : g.stack = As.reverse ++ .ref b :: rest) (hW : 2 * g.monitorRoom + (rest.map fun v => v.category).sum ≤ 8) (hdg : decode cc g.pc = .ok (.invokespecial index, 3)) (hf : cells + mc ≤ R.cells ∧ slots + ms ≤ R.slots) :
    vx_Run p l e R s m args below meth c H locs cells slots mc ms g rest (Qc (Value.ref b :: As).toArray) XC free := by
  obtain ⟨⟨⟨hrc, hrs, hfr, hlo, hws, hcw⟩, hcode, hini, hy, hlen, hl⟩, hx1, hx2⟩ := cw
  have hK : vx_Back l R p e below s args y 3 8 (PreOf R mc ms Pc) (PostOf Qc mc ms free) (vx_Post XC mc ms free) := vx_back (bytes := bytes) (maxL := maxL) (ret := none) hM hp.1 hrc hrs hfr hlo hws hcw (fun a' U hW => word_at hW (Or.inl (by first | rfl | simp [Cond.onTables, Cond.keeps, Cond.steady])) hini)
  obtain ⟨hx, hb, hml, ho, -⟩ := S
  have hPc := hp.2
  intro T hT X
  rcases vx_callIN X hx (bytes := bytes) (maxL := maxL) ho hx1 hl hx2 hcode hy hK hg (hsize.trans hml.symm) (a := b) (argsL := As) (rest := rest) (fun sig h => hn.trans (hlen sig h)) hstack hW (by rw [hb]; exact hdg)
    (fun vm₁ hW₁ => ⟨hf.1, hf.2, hPc (T.setVm vm₁) hT hW₁⟩) with ⟨v, vm₁, ⟨U', l2, c2, s2⟩, hW₁, X', ⟨g', mk, t, L, e1, e2, hq, h1, hL, h2, h3⟩, st⟩ | ⟨q, vm₁, ⟨U', l2, c2, s2⟩, hW₁, X', ⟨g', mk, t, L, E, ce, e1, e2, hq, hce, hcv, hcl, h1, hL, h2, h3⟩, st⟩
  · dsimp only [Pt.U, Pt.locs, Pt.cells, Pt.slots] at X' e1 e2 h1 h2 h3 st
    subst h1; subst h2; subst h3
    exact Or.inl ⟨v, (T.setVm vm₁).calling g' mk (Value.ref b :: As).toArray, t, U', L, hT, X', hL, e1, e2, hq, st⟩
  · dsimp only [Pt.U, Pt.locs, Pt.cells, Pt.slots] at X' e1 e2 h1 h2 h3 st hcl
    subst h1; subst h2; subst h3
    exact Or.inr ⟨q, (T.setVm vm₁).calling g' mk (Value.ref b :: As).toArray, t, U', L, E, ce, hT, X', hL, e1, e2, hq, hce, hcv, vx_cls hW₁ hcl, st⟩
end VXID
/-! ===== END ===== -/
/-! ===== BEGIN a method of a class above, found by the receiver, that may throw (follows va_callVU, va_runU of this kit) ===== -/
section
variable {p : Program} {l : Launch} {e : Env} {R : Room} {s : State} {m : MethodId} {args : Array Value} {below : List Frame} {meth : Method} {c : Code} {H : Heap} {locs : List Loc} {cells slots : Nat}
theorem vx_callVU {T : State} {locs : List Loc} {cells slots : Nat} (X : Stand p l e R s m args below meth c T locs cells slots) (hexec : p.tables.exec = Jvm.exec) {own C owner : String} {index : Nat} {x y : MethodName} {bytes : ByteArray} {maxL : Nat} {ret : Option FieldType}
    (hown : s.vm.findClass own = some m.cls) (hlink : (Cond.methodLink own index x).before args s = true) (hsame : (Cond.sameMethod x.cls owner x.name x.desc).before args s = true)
    (hd0 : va_Decl s ⟨owner, x.name, x.desc⟩) (howner : owner ≠ "java/lang/invoke/MethodHandle" ∧ owner ≠ "java/lang/invoke/VarHandle")
    (hsel : (Cond.selects C x y).before args s = true) (hinst : (Cond.instanceMethod y).before args s = true) (hcode : (Cond.code y bytes maxL ret).before args s = true)
    {W : Nat} {Pre : Pt → Array Value → Prop} {Post : Pt → Array Value → Option Value → Pt → Prop} {PostX : Pt → Array Value → Addr → Pt → Prop} (hK : vx_Back l R p e below s args y 3 W Pre Post PostX)
    {b : Addr} {cellB : Cell} (hcell : T.heap[b]? = some cellB) (hobj : cellB.vm.isStatics = false) (hcls : s.vm.findClass C = some cellB.cls)
    {g : JFrame} (hg : g.method = m) (hsize : g.locals.size = c.maxLocals) {argsL rest : List Value} (hlen : ∀ sig, parseMethodDescriptor x.desc = some sig → argsL.length = sig.parameters.length)
    (hstack : g.stack = argsL.reverse ++ .ref b :: rest) (hW : 2 * g.monitorRoom + (rest.map fun v => v.category).sum ≤ W) (hdg : decode c.code g.pc = .ok (.invokevirtual index, 3))
    (hpre : ∀ vm₁, s.WarmedH vm₁ → Pre ⟨T.setVm vm₁, locs, cells, slots⟩ (Value.ref b :: argsL).toArray) :
    (∃ (v : Option Value) (vm₁ : Vm) (B : Pt), s.WarmedH vm₁ ∧ Stand p l e R s m args below meth c B.U B.locs B.cells B.slots ∧ Post ⟨T.setVm vm₁, locs, cells, slots⟩ (Value.ref b :: argsL).toArray v B ∧
      ∀ target, Steps p.tables e below (B.U.setTop { g with pc := g.pc + 3, stack := v.toList ++ rest }) target → Steps p.tables e below (T.setTop g) target) ∨
    (∃ (q : Addr) (vm₁ : Vm) (B : Pt), s.WarmedH vm₁ ∧ Stand p l e R s m args below meth c B.U B.locs B.cells B.slots ∧ PostX ⟨T.setVm vm₁, locs, cells, slots⟩ (Value.ref b :: argsL).toArray q B ∧
      Steps p.tables e below (T.setTop g) ((B.U.setTop { g with stack := rest }).pushFrame (.throwing q))) := by
  obtain ⟨r0, r, hn, hrm, hstR, hsigR⟩ := hd0
  obtain ⟨cn, ck, r1, hcn, hck, hni, hf, hn1⟩ := Cond.sameMethod_found hsame
  cases hn.symm.trans hn1
  obtain ⟨mk, methM, hnamed, hmethM, -, habM⟩ := Cond.instanceMethod_spec hinst
  obtain ⟨c2, r2, m2, q1, q2, q3, q4, kP, hkP, hkPi⟩ := Cond.selects_spec hsel
  cases hcls.symm.trans q1
  cases hf.symm.trans q2
  cases hnamed.symm.trans q3
  have hselP : selectMethod e.platform s.vm cellB.cls r0 = .method mk := by rw [Launch.admits_selectMethod X.admits]; exact q4
  obtain ⟨vm₁, X₁, hstep₁⟩ := X.invokevirtualUp hexec hown hlink hsame howner hn hrm hstR (a := b) (cell := cellB) hcell
    (fun z h => by rw [h] at hobj; cases hobj) hselP hmethM habM hkP hkPi (g := g) hg (argsL := argsL) (rest := rest) (hlen _ hsigR) hstack hdg
  rcases hK m meth c ⟨T.setVm vm₁, locs, cells, slots⟩ { g with stack := rest } (.invokevirtual index) mk (Value.ref b :: argsL).toArray X₁ hg hsize hdg hW (X₁.named hnamed) (hpre vm₁ X₁.warmed) with ⟨v, B, X', hpost, hsteps⟩ | ⟨q, B, X', hpost, hsteps⟩
  · exact Or.inl ⟨v, vm₁, B, X₁.warmed, X', hpost, fun target h => hstep₁ _ fun acts => by rw [doInvoke_state]; exact hsteps.trans h⟩
  · exact Or.inr ⟨q, vm₁, B, X₁.warmed, X', hpost, hstep₁ _ fun acts => by rw [doInvoke_state]; exact hsteps⟩
theorem vx_runU {x y : MethodName} {bytes cc : ByteArray} {maxL nL mc ms n index : Nat} {ret : Option FieldType} {ws : List Cond} {rm : Room} {Pc : Array Value → State → Prop} {Qc : Array Value → State → Outcome → State → Prop} {XC : String → State → State → Prop} {free : Addr → Prop} {Ts : List Cond} {own C owner : String} {b : Addr} {As rest : List Value} {g : JFrame}
    (S : CallFix p m c cc nL s args Ts own) (hM : vx_Met l y ws rm Pc Qc XC mc ms free) (cw : va_CU R s args own C owner index x y bytes maxL ret ws rm mc ms n) (hp : PreV s H C b Pc As)
    (hg : g.method = m) (hn : As.length = n) (hsize : g.locals.size = nL) (hstack : g.stack = As.reverse ++ .ref b :: rest) (hW : 2 * g.monitorRoom + (rest.map fun v => v.category).sum ≤ 8) (hdg : decode cc g.pc = .ok (.invokevirtual index, 3)) (hf : cells + mc ≤ R.cells ∧ slots + ms ≤ R.slots) :
    vx_Run p l e R s m args below meth c H locs cells slots mc ms g rest (Qc (Value.ref b :: As).toArray) XC free := by
  obtain ⟨hrc, hrs, hfr, hlo, hws, hcw⟩ := cw.back
  have hini := cw.init
  have hK : vx_Back l R p e below s args y 3 8 (PreOf R mc ms Pc) (PostOf Qc mc ms free) (vx_Post XC mc ms free) := vx_back (bytes := bytes) (maxL := maxL) (ret := ret) hM hp.1 hrc hrs hfr hlo hws hcw (fun a' U hW => word_at hW (Or.inl (by first | rfl | simp [Cond.onTables, Cond.keeps, Cond.steady])) hini)
  obtain ⟨hx, hb, hml, ho, -⟩ := S
  obtain ⟨-, ⟨cellB, hcB, hoB, hclB⟩, hPc⟩ := hp
  intro T hT X
  rcases vx_callVU X hx (C := C) (owner := owner) (bytes := bytes) (maxL := maxL) (ret := ret) ho cw.link cw.same cw.decl cw.notMH cw.sel cw.inst cw.code hK (by rw [hT]; exact hcB) hoB hclB hg (hsize.trans hml.symm) (argsL := As) (rest := rest) (fun sig h => hn.trans (cw.len sig h)) hstack hW (by rw [hb]; exact hdg)
    (fun vm₁ hW₁ => ⟨hf.1, hf.2, hPc (T.setVm vm₁) hT hW₁⟩) with ⟨v, vm₁, ⟨U', l2, c2, s2⟩, hW₁, X', ⟨g', mk, t, L, e1, e2, hq, h1, hL, h2, h3⟩, st⟩ | ⟨q, vm₁, ⟨U', l2, c2, s2⟩, hW₁, X', ⟨g', mk, t, L, E, ce, e1, e2, hq, hce, hcv, hcl, h1, hL, h2, h3⟩, st⟩
  · dsimp only [Pt.U, Pt.locs, Pt.cells, Pt.slots] at X' e1 e2 h1 h2 h3 st
    subst h1; subst h2; subst h3
    exact Or.inl ⟨v, (T.setVm vm₁).calling g' mk (Value.ref b :: As).toArray, t, U', L, hT, X', hL, e1, e2, hq, st⟩
  · dsimp only [Pt.U, Pt.locs, Pt.cells, Pt.slots] at X' e1 e2 h1 h2 h3 st hcl
    subst h1; subst h2; subst h3
    exact Or.inr ⟨q, (T.setVm vm₁).calling g' mk (Value.ref b :: As).toArray, t, U', L, E, ce, hT, X', hL, e1, e2, hq, hce, hcv, vx_cls hW₁ hcl, st⟩
end
/-! ===== END ===== -/
/-! ===== BEGIN super.m(..) that may throw (follows va_callSU, va_runSU) ===== -/
section
variable {p : Program} {l : Launch} {e : Env} {R : Room} {s : State} {m : MethodId} {args : Array Value} {below : List Frame} {meth : Method} {c : Code} {H : Heap} {locs : List Loc} {cells slots : Nat}
theorem vx_callSU {T : State} {locs : List Loc} {cells slots : Nat} (X : Stand p l e R s m args below meth c T locs cells slots) (hexec : p.tables.exec = Jvm.exec) {own : String} {index : Nat} {y : MethodName} {bytes : ByteArray} {maxL : Nat} {ret : Option FieldType}
    (hown : s.vm.findClass own = some m.cls) (hlink : (Cond.methodLink own index y).before args s = true) (hsame : (Cond.sameMethod y.cls y.cls y.name y.desc).before args s = true) (hsup : (Cond.superclass own y.cls).before args s = true)
    (hinst : (Cond.instanceMethod y).before args s = true) (hcode : (Cond.code y bytes maxL ret).before args s = true) (hno : y.name ≠ "<init>")
    {W : Nat} {Pre : Pt → Array Value → Prop} {Post : Pt → Array Value → Option Value → Pt → Prop} {PostX : Pt → Array Value → Addr → Pt → Prop} (hK : vx_Back l R p e below s args y 3 W Pre Post PostX)
    {b : Addr} {cellB : Cell} {kB : Class} (hcell : T.heap[b]? = some cellB) (hobj : cellB.vm.isStatics = false) (hkB : s.vm.classes[cellB.cls]? = some kB)
    {g : JFrame} (hg : g.method = m) (hsize : g.locals.size = c.maxLocals) {argsL rest : List Value} (hlen : ∀ sig, parseMethodDescriptor y.desc = some sig → argsL.length = sig.parameters.length)
    (hstack : g.stack = argsL.reverse ++ .ref b :: rest) (hW : 2 * g.monitorRoom + (rest.map fun v => v.category).sum ≤ W) (hdg : decode c.code g.pc = .ok (.invokespecial index, 3))
    (hpre : ∀ vm₁, s.WarmedH vm₁ → Pre ⟨T.setVm vm₁, locs, cells, slots⟩ (Value.ref b :: argsL).toArray) :
    (∃ (v : Option Value) (vm₁ : Vm) (B : Pt), s.WarmedH vm₁ ∧ Stand p l e R s m args below meth c B.U B.locs B.cells B.slots ∧ Post ⟨T.setVm vm₁, locs, cells, slots⟩ (Value.ref b :: argsL).toArray v B ∧
      ∀ target, Steps p.tables e below (B.U.setTop { g with pc := g.pc + 3, stack := v.toList ++ rest }) target → Steps p.tables e below (T.setTop g) target) ∨
    (∃ (q : Addr) (vm₁ : Vm) (B : Pt), s.WarmedH vm₁ ∧ Stand p l e R s m args below meth c B.U B.locs B.cells B.slots ∧ PostX ⟨T.setVm vm₁, locs, cells, slots⟩ (Value.ref b :: argsL).toArray q B ∧
      Steps p.tables e below (T.setTop g) ((B.U.setTop { g with stack := rest }).pushFrame (.throwing q))) := by
  obtain ⟨mk, methM, hnamed, hmethM, hstM, habM⟩ := Cond.instanceMethod_spec hinst
  obtain ⟨methM', cM, hmethM', -, -, -, -, -, -, hsigM⟩ := Cond.code_spec hnamed hcode
  cases hmethM.symm.trans hmethM'
  obtain ⟨ps, dk, kp, hps, hdk, hkp, hsuper, -, -, hnid⟩ := Cond.superclass_spec hown hsup
  have hn : s.methodNamed? ⟨y.cls, y.name, y.desc⟩ = some mk := hnamed
  have hpm : ps = mk.cls := Option.some.inj (hps.symm.trans (findClass_of_methodNamed hnamed))
  have hsub : s.vm.isSubclass ps mk.cls = true := by rw [hpm]; simp [Vm.isSubclass, Vm.isSubclassAux]
  obtain ⟨vm₁, X₁, hstep₁⟩ := X.invokespecialUp hexec hown hlink hsame hn hmethM hstM habM hno hdk hnid hps hsuper hsub (a := b) (cell := cellB) hcell
    (fun z h => by rw [h] at hobj; cases hobj) hkB (g := g) hg (argsL := argsL) (rest := rest) (hlen _ hsigM) hstack hdg
  rcases hK m meth c ⟨T.setVm vm₁, locs, cells, slots⟩ { g with stack := rest } (.invokespecial index) mk (Value.ref b :: argsL).toArray X₁ hg hsize hdg hW (X₁.named hnamed) (hpre vm₁ X₁.warmed) with ⟨v, B, X', hpost, hsteps⟩ | ⟨q, B, X', hpost, hsteps⟩
  · exact Or.inl ⟨v, vm₁, B, X₁.warmed, X', hpost, fun target h => hstep₁ _ (by rw [doInvoke_state]; exact hsteps.trans h)⟩
  · exact Or.inr ⟨q, vm₁, B, X₁.warmed, X', hpost, hstep₁ _ (by rw [doInvoke_state]; exact hsteps)⟩
theorem vx_runSU {y : MethodName} {bytes cc : ByteArray} {maxL nL mc ms n index : Nat} {ret : Option FieldType} {ws : List Cond} {rm : Room} {Pc : Array Value → State → Prop} {Qc : Array Value → State → Outcome → State → Prop} {XC : String → State → State → Prop} {free : Addr → Prop} {Ts : List Cond} {own C : String} {cC : ClassId} {b : Addr} {As rest : List Value} {g : JFrame}
    (hat : ClassAt s C cC) (S : CallFix p m c cc nL s args Ts own) (hM : vx_Met l y ws rm Pc Qc XC mc ms free) (cw : va_CS R s args own index y bytes maxL ret ws rm mc ms n) (hp : PreV s H C b Pc As)
    (hg : g.method = m) (hn : As.length = n) (hsize : g.locals.size = nL) (hstack : g.stack = As.reverse ++ .ref b :: rest) (hW : 2 * g.monitorRoom + (rest.map fun v => v.category).sum ≤ 8) (hdg : decode cc g.pc = .ok (.invokespecial index, 3)) (hf : cells + mc ≤ R.cells ∧ slots + ms ≤ R.slots) :
    vx_Run p l e R s m args below meth c H locs cells slots mc ms g rest (Qc (Value.ref b :: As).toArray) XC free := by
  obtain ⟨⟨hrc, hrs, hfr, hlo, hws, hcw⟩, hl1, hl2, hl3, hl4, hini, hcode, hno, hlen⟩ := cw
  have hK : vx_Back l R p e below s args y 3 8 (PreOf R mc ms Pc) (PostOf Qc mc ms free) (vx_Post XC mc ms free) := vx_back (bytes := bytes) (maxL := maxL) (ret := ret) hM hp.1 hrc hrs hfr hlo hws hcw (fun a' U hW => word_at hW (Or.inl (by first | rfl | simp [Cond.onTables, Cond.keeps, Cond.steady])) hini)
  obtain ⟨hx, hb, hml, ho, -⟩ := S
  obtain ⟨-, ⟨cellB, hcB, hoB, hclB⟩, hPc⟩ := hp
  obtain ⟨hfc, kB, hkB, -⟩ := hat
  cases hfc.symm.trans hclB
  intro T hT X
  rcases vx_callSU X hx (bytes := bytes) (maxL := maxL) (ret := ret) ho hl1 hl2 hl3 hl4 hcode hno hK (by rw [hT]; exact hcB) hoB hkB hg (hsize.trans hml.symm) (argsL := As) (rest := rest) (fun sig h => hn.trans (hlen sig h)) hstack hW (by rw [hb]; exact hdg)
    (fun vm₁ hW₁ => ⟨hf.1, hf.2, hPc (T.setVm vm₁) hT hW₁⟩) with ⟨v, vm₁, ⟨U', l2, c2, s2⟩, hW₁, X', ⟨g', mk, t, L, e1, e2, hq, h1, hL, h2, h3⟩, st⟩ | ⟨q, vm₁, ⟨U', l2, c2, s2⟩, hW₁, X', ⟨g', mk, t, L, E, ce, e1, e2, hq, hce, hcv, hcl, h1, hL, h2, h3⟩, st⟩
  · dsimp only [Pt.U, Pt.locs, Pt.cells, Pt.slots] at X' e1 e2 h1 h2 h3 st
    subst h1; subst h2; subst h3
    exact Or.inl ⟨v, (T.setVm vm₁).calling g' mk (Value.ref b :: As).toArray, t, U', L, hT, X', hL, e1, e2, hq, st⟩
  · dsimp only [Pt.U, Pt.locs, Pt.cells, Pt.slots] at X' e1 e2 h1 h2 h3 st hcl
    subst h1; subst h2; subst h3
    exact Or.inr ⟨q, (T.setVm vm₁).calling g' mk (Value.ref b :: As).toArray, t, U', L, E, ce, hT, X', hL, e1, e2, hq, hce, hcv, vx_cls hW₁ hcl, st⟩
end
/-! ===== END ===== -/
/-! ===== BEGIN a private method of a nest mate that may throw (follows va_callVN, va_callSN, va_runVN, va_runSN) ===== -/
section
variable {p : Program} {l : Launch} {e : Env} {R : Room} {s : State} {m : MethodId} {args : Array Value} {below : List Frame} {meth : Method} {c : Code} {H : Heap} {locs : List Loc} {cells slots : Nat}
variable {T : State}
theorem vx_callVN (X : Stand p l e R s m args below meth c T locs cells slots) (hexec : p.tables.exec = Jvm.exec) {own C : String} {index : Nat} {host : String} {y : MethodName} {bytes : ByteArray} {maxL : Nat} {ret : Option FieldType}
    (hown : s.vm.findClass own = some m.cls) (hlink : (Cond.methodLinkNest own index y host).before args s = true) (hinst : (Cond.instanceMethod y).before args s = true) (hsel : (Cond.selects C y y).before args s = true)
    (hcode : (Cond.code y bytes maxL ret).before args s = true) (hy : y.cls ≠ "java/lang/invoke/MethodHandle" ∧ y.cls ≠ "java/lang/invoke/VarHandle")
    {W : Nat} {Pre : Pt → Array Value → Prop} {Post : Pt → Array Value → Option Value → Pt → Prop} {PostX : Pt → Array Value → Addr → Pt → Prop} (hK : vx_Back l R p e below s args y 3 W Pre Post PostX)
    {b : Addr} {cellB : Cell} (hcell : T.heap[b]? = some cellB) (hobj : cellB.vm.isStatics = false) (hcls : s.vm.findClass C = some cellB.cls)
    {g : JFrame} (hg : g.method = m) (hsize : g.locals.size = c.maxLocals) {argsL rest : List Value} (hlen : ∀ sig, parseMethodDescriptor y.desc = some sig → argsL.length = sig.parameters.length)
    (hstack : g.stack = argsL.reverse ++ .ref b :: rest) (hW : 2 * g.monitorRoom + (rest.map fun v => v.category).sum ≤ W) (hdg : decode c.code g.pc = .ok (.invokevirtual index, 3))
    (hpre : ∀ vm₁, s.WarmedH vm₁ → Pre ⟨T.setVm vm₁, locs, cells, slots⟩ (Value.ref b :: argsL).toArray) :
    (∃ (v : Option Value) (vm₁ : Vm) (B : Pt), s.WarmedH vm₁ ∧ Stand p l e R s m args below meth c B.U B.locs B.cells B.slots ∧ Post ⟨T.setVm vm₁, locs, cells, slots⟩ (Value.ref b :: argsL).toArray v B ∧
      ∀ target, Steps p.tables e below (B.U.setTop { g with pc := g.pc + 3, stack := v.toList ++ rest }) target → Steps p.tables e below (T.setTop g) target) ∨
    (∃ (q : Addr) (vm₁ : Vm) (B : Pt), s.WarmedH vm₁ ∧ Stand p l e R s m args below meth c B.U B.locs B.cells B.slots ∧ PostX ⟨T.setVm vm₁, locs, cells, slots⟩ (Value.ref b :: argsL).toArray q B ∧
      Steps p.tables e below (T.setTop g) ((B.U.setTop { g with stack := rest }).pushFrame (.throwing q))) := by
  obtain ⟨mk, methM, hnamed, hmethM, hstM, habM⟩ := Cond.instanceMethod_spec hinst
  obtain ⟨methM', cM, hmethM', -, -, -, -, -, -, hsigM⟩ := Cond.code_spec hnamed hcode
  cases hmethM.symm.trans hmethM'
  obtain ⟨c2, r2, m2, q1, q2, q3, q4, kP, hkP, hkPi⟩ := Cond.selects_spec hsel
  cases hcls.symm.trans q1
  cases (State.methodFound?_of_named hnamed hy).symm.trans q2
  cases hnamed.symm.trans q3
  have hselP : selectMethod e.platform s.vm cellB.cls mk = .method mk := by rw [Launch.admits_selectMethod X.admits]; exact q4
  obtain ⟨vm₁, X₁, hstep₁⟩ := X.invokevirtualNest hexec hown hlink hnamed hmethM hstM hkP hkPi hy (a := b) (cell := cellB) hcell
    (fun z h => by rw [h] at hobj; cases hobj) hselP hmethM habM hkP hkPi (g := g) hg (argsL := argsL) (rest := rest) (hlen _ hsigM) hstack hdg
  rcases hK m meth c ⟨T.setVm vm₁, locs, cells, slots⟩ { g with stack := rest } (.invokevirtual index) mk (Value.ref b :: argsL).toArray X₁ hg hsize hdg hW (X₁.named hnamed) (hpre vm₁ X₁.warmed) with ⟨v, B, X', hpost, hsteps⟩ | ⟨q, B, X', hpost, hsteps⟩
  · exact Or.inl ⟨v, vm₁, B, X₁.warmed, X', hpost, fun target h => hstep₁ _ fun acts => by rw [doInvoke_state]; exact hsteps.trans h⟩
  · exact Or.inr ⟨q, vm₁, B, X₁.warmed, X', hpost, hstep₁ _ fun acts => by rw [doInvoke_state]; exact hsteps⟩
theorem vx_callSN (X : Stand p l e R s m args below meth c T locs cells slots) (hexec : p.tables.exec = Jvm.exec) {own : String} {index : Nat} {host : String} {y : MethodName} {bytes : ByteArray} {maxL : Nat} {ret : Option FieldType}
    (hown : s.vm.findClass own = some m.cls) (hlink : (Cond.methodLinkNest own index y host).before args s = true) (hstat : (Cond.static y).before args s = true) (hinit : (Cond.initialized y.cls).before args s = true)
    (hcode : (Cond.code y bytes maxL ret).before args s = true) (hy : y.cls ≠ "java/lang/invoke/MethodHandle" ∧ y.cls ≠ "java/lang/invoke/VarHandle")
    {W : Nat} {Pre : Pt → Array Value → Prop} {Post : Pt → Array Value → Option Value → Pt → Prop} {PostX : Pt → Array Value → Addr → Pt → Prop} (hK : vx_Back l R p e below s args y 3 W Pre Post PostX)
    {g : JFrame} (hg : g.method = m) (hsize : g.locals.size = c.maxLocals) {argsL rest : List Value} (hlen : ∀ sig, parseMethodDescriptor y.desc = some sig → argsL.length = sig.parameters.length)
    (hstack : g.stack = argsL.reverse ++ rest) (hW : 2 * g.monitorRoom + (rest.map fun v => v.category).sum ≤ W) (hdg : decode c.code g.pc = .ok (.invokestatic index, 3))
    (hpre : ∀ vm₁, s.WarmedH vm₁ → Pre ⟨T.setVm vm₁, locs, cells, slots⟩ argsL.toArray) :
    (∃ (v : Option Value) (vm₁ : Vm) (B : Pt), s.WarmedH vm₁ ∧ Stand p l e R s m args below meth c B.U B.locs B.cells B.slots ∧ Post ⟨T.setVm vm₁, locs, cells, slots⟩ argsL.toArray v B ∧
      ∀ target, Steps p.tables e below (B.U.setTop { g with pc := g.pc + 3, stack := v.toList ++ rest }) target → Steps p.tables e below (T.setTop g) target) ∨
    (∃ (q : Addr) (vm₁ : Vm) (B : Pt), s.WarmedH vm₁ ∧ Stand p l e R s m args below meth c B.U B.locs B.cells B.slots ∧ PostX ⟨T.setVm vm₁, locs, cells, slots⟩ argsL.toArray q B ∧
      Steps p.tables e below (T.setTop g) ((B.U.setTop { g with stack := rest }).pushFrame (.throwing q))) := by
  obtain ⟨mk, hnamed⟩ := Cond.code_named hcode
  obtain ⟨methM, cM, hmethM, -, -, -, -, -, -, hsigM⟩ := Cond.code_spec hnamed hcode
  have hstatic : methM.isStatic = true := Cond.static_spec hnamed hmethM hstat
  obtain ⟨kP, hkP, -⟩ := className_of_methodNamed hnamed
  have hinitP : kP.init = .initialized := Cond.initialized_spec (findClass_of_methodNamed hnamed) hkP hinit
  obtain ⟨vm₁, X₁, hstep₁⟩ := X.invokestaticNest hexec hown hlink hnamed hmethM hstatic hkP hinitP hy (g := g) hg (argsL := argsL) (rest := rest) (hlen _ hsigM) hstack hdg
  rcases hK m meth c ⟨T.setVm vm₁, locs, cells, slots⟩ { g with stack := rest } (.invokestatic index) mk argsL.toArray X₁ hg hsize hdg hW (X₁.named hnamed) (hpre vm₁ X₁.warmed) with ⟨v, B, X', hpost, hsteps⟩ | ⟨q, B, X', hpost, hsteps⟩
  · exact Or.inl ⟨v, vm₁, B, X₁.warmed, X', hpost, fun target h => hstep₁ _ fun acts => by rw [doInvoke_state]; exact hsteps.trans h⟩
  · exact Or.inr ⟨q, vm₁, B, X₁.warmed, X', hpost, hstep₁ _ fun acts => by rw [doInvoke_state]; exact hsteps⟩
theorem vx_runVN {y : MethodName} {bytes cc : ByteArray} {maxL nL mc ms n index : Nat} {ret : Option FieldType} {ws : List Cond} {rm : Room} {Pc : Array Value → State → Prop} {Qc : Array Value → State → Outcome → State → Prop} {XC : String → State → State → Prop} {free : Addr → Prop} {Ts : List Cond} {own C host : String} {b : Addr} {As rest : List Value} {g : JFrame}
    (S : CallFix p m c cc nL s args Ts own) (hM : vx_Met l y ws rm Pc Qc XC mc ms free) (cw : va_CN R s args own index y host bytes maxL ret ws rm mc ms n ∧ (Cond.instanceMethod y).before args s = true ∧ (Cond.selects C y y).before args s = true) (hp : PreV s H C b Pc As)
    (hg : g.method = m) (hn : As.length = n) (hsize : g.locals.size = nL) (hstack : g.stack = As.reverse ++ .ref b :: rest) (hW : 2 * g.monitorRoom + (rest.map fun v => v.category).sum ≤ 8) (hdg : decode cc g.pc = .ok (.invokevirtual index, 3)) (hf : cells + mc ≤ R.cells ∧ slots + ms ≤ R.slots) :
    vx_Run p l e R s m args below meth c H locs cells slots mc ms g rest (Qc (Value.ref b :: As).toArray) XC free := by
  obtain ⟨⟨⟨hrc, hrs, hfr, hlo, hws, hcw⟩, hcode, hini, hy, hlen, hl⟩, hx1, hx2⟩ := cw
  have hK : vx_Back l R p e below s args y 3 8 (PreOf R mc ms Pc) (PostOf Qc mc ms free) (vx_Post XC mc ms free) := vx_back (bytes := bytes) (maxL := maxL) (ret := ret) hM hp.1 hrc hrs hfr hlo hws hcw (fun a' U hW => word_at hW (Or.inl (by first | rfl | simp [Cond.onTables, Cond.keeps, Cond.steady])) hini)
  obtain ⟨hx, hb, hml, ho, -⟩ := S
  obtain ⟨-, ⟨cellB, hcB, hoB, hclB⟩, hPc⟩ := hp
  intro T hT X
  rcases vx_callVN X hx (C := C) (bytes := bytes) (maxL := maxL) (ret := ret) ho hl hx1 hx2 hcode hy hK (by rw [hT]; exact hcB) hoB hclB hg (hsize.trans hml.symm) (argsL := As) (rest := rest) (fun sig h => hn.trans (hlen sig h)) hstack hW (by rw [hb]; exact hdg)
    (fun vm₁ hW₁ => ⟨hf.1, hf.2, hPc (T.setVm vm₁) hT hW₁⟩) with ⟨v, vm₁, ⟨U', l2, c2, s2⟩, hW₁, X', ⟨g', mk, t, L, e1, e2, hq, h1, hL, h2, h3⟩, st⟩ | ⟨q, vm₁, ⟨U', l2, c2, s2⟩, hW₁, X', ⟨g', mk, t, L, E, ce, e1, e2, hq, hce, hcv, hcl, h1, hL, h2, h3⟩, st⟩
  · dsimp only [Pt.U, Pt.locs, Pt.cells, Pt.slots] at X' e1 e2 h1 h2 h3 st
    subst h1; subst h2; subst h3
    exact Or.inl ⟨v, (T.setVm vm₁).calling g' mk (Value.ref b :: As).toArray, t, U', L, hT, X', hL, e1, e2, hq, st⟩
  · dsimp only [Pt.U, Pt.locs, Pt.cells, Pt.slots] at X' e1 e2 h1 h2 h3 st hcl
    subst h1; subst h2; subst h3
    exact Or.inr ⟨q, (T.setVm vm₁).calling g' mk (Value.ref b :: As).toArray, t, U', L, E, ce, hT, X', hL, e1, e2, hq, hce, hcv, vx_cls hW₁ hcl, st⟩
theorem vx_runSN {y : MethodName} {bytes cc : ByteArray} {maxL nL mc ms n index : Nat} {ret : Option FieldType} {ws : List Cond} {rm : Room} {Pc : Array Value → State → Prop} {Qc : Array Value → State → Outcome → State → Prop} {XC : String → State → State → Prop} {free : Addr → Prop} {Ts : List Cond} {own host : String} {As rest : List Value} {g : JFrame}
    (S : CallFix p m c cc nL s args Ts own) (hM : vx_Met l y ws rm Pc Qc XC mc ms free) (cw : va_CN R s args own index y host bytes maxL ret ws rm mc ms n ∧ (Cond.static y).before args s = true ∧ True) (hp : PreS s H Pc As)
    (hg : g.method = m) (hn : As.length = n) (hsize : g.locals.size = nL) (hstack : g.stack = As.reverse ++ rest) (hW : 2 * g.monitorRoom + (rest.map fun v => v.category).sum ≤ 8) (hdg : decode cc g.pc = .ok (.invokestatic index, 3)) (hf : cells + mc ≤ R.cells ∧ slots + ms ≤ R.slots) :
    vx_Run p l e R s m args below meth c H locs cells slots mc ms g rest (Qc As.toArray) XC free := by
  obtain ⟨⟨⟨hrc, hrs, hfr, hlo, hws, hcw⟩, hcode, hini, hy, hlen, hl⟩, hx1, hx2⟩ := cw
  have hK : vx_Back l R p e below s args y 3 8 (PreOf R mc ms Pc) (PostOf Qc mc ms free) (vx_Post XC mc ms free) := vx_back (bytes := bytes) (maxL := maxL) (ret := ret) hM hp.1 hrc hrs hfr hlo hws hcw (fun a' U hW => word_at hW (Or.inl (by first | rfl | simp [Cond.onTables, Cond.keeps, Cond.steady])) hini)
  obtain ⟨hx, hb, hml, ho, -⟩ := S
  have hPc := hp.2
  intro T hT X
  rcases vx_callSN X hx (bytes := bytes) (maxL := maxL) (ret := ret) ho hl hx1 hini hcode hy hK hg (hsize.trans hml.symm) (argsL := As) (rest := rest) (fun sig h => hn.trans (hlen sig h)) hstack hW (by rw [hb]; exact hdg)
    (fun vm₁ hW₁ => ⟨hf.1, hf.2, hPc (T.setVm vm₁) hT hW₁⟩) with ⟨v, vm₁, ⟨U', l2, c2, s2⟩, hW₁, X', ⟨g', mk, t, L, e1, e2, hq, h1, hL, h2, h3⟩, st⟩ | ⟨q, vm₁, ⟨U', l2, c2, s2⟩, hW₁, X', ⟨g', mk, t, L, E, ce, e1, e2, hq, hce, hcv, hcl, h1, hL, h2, h3⟩, st⟩
  · dsimp only [Pt.U, Pt.locs, Pt.cells, Pt.slots] at X' e1 e2 h1 h2 h3 st
    subst h1; subst h2; subst h3
    exact Or.inl ⟨v, (T.setVm vm₁).calling g' mk As.toArray, t, U', L, hT, X', hL, e1, e2, hq, st⟩
  · dsimp only [Pt.U, Pt.locs, Pt.cells, Pt.slots] at X' e1 e2 h1 h2 h3 st hcl
    subst h1; subst h2; subst h3
    exact Or.inr ⟨q, (T.setVm vm₁).calling g' mk As.toArray, t, U', L, E, ce, hT, X', hL, e1, e2, hq, hce, hcv, vx_cls hW₁ hcl, st⟩
end
/-! ===== END ===== -/
/-! ===== BEGIN calls by an interface of methods that may throw (vx_callIF, vx_runF follow va_callIF, va_runF of this kit) ===== -/
section
variable {p : Program} {l : Launch} {e : Env} {R : Room} {s : State} {m : MethodId} {args : Array Value} {below : List Frame} {meth : Method} {c : Code} {H : Heap} {locs : List Loc} {cells slots : Nat} {Q : State → Prop}
variable {mc ms : Nat} {free : Addr → Prop} {A0 A1 : Nat → Prop} {H0 : Heap} {a : Array Value} {pc : Nat} {ls : Array Slot} {st0 rest : List Value}
def vx_Run5 (p : Program) (l : Launch) (e : Env) (R : Room) (s : State) (m : MethodId) (args : Array Value) (below : List Frame) (meth : Method) (c : Code) (H : Heap) (locs : List Loc) (cells slots mc ms : Nat) (g : JFrame) (rest : List Value) (Qa : State → Outcome → State → Prop) (XC : String → State → State → Prop) (free : Addr → Prop) : Prop :=
  ∀ T : State, T.heap = H → Stand p l e R s m args below meth c T locs cells slots →
    (∃ (v : Option Value) (st₀ t T' : State) (L : List Loc), st₀.heap = H ∧ Stand p l e R s m args below meth c T' (locs ++ L) (cells + mc) (slots + ms) ∧ (∀ q ∈ L, free q.base) ∧ T'.heap = t.heap ∧ T'.vm = t.vm ∧ Qa st₀ (.returned v) t ∧
      Goes p e below T g T' { g with pc := g.pc + 5, stack := v.toList ++ rest }) ∨
    (∃ (q : Addr) (st₀ t T' : State) (L : List Loc) (E : String) (ce : Cell), st₀.heap = H ∧ Stand p l e R s m args below meth c T' (locs ++ L) (cells + mc) (slots + ms) ∧ (∀ z ∈ L, free z.base) ∧ T'.heap = t.heap ∧ T'.vm = t.vm ∧ XC E st₀ t ∧ t.heap[q]? = some ce ∧ ce.vm = .none ∧ s.vm.findClass E = some ce.cls ∧
      Steps p.tables e below (T.setTop g) ((T'.setTop { g with stack := rest }).pushFrame (.throwing q)))
theorem vx_callIF {T : State} (X : Stand p l e R s m args below meth c T locs cells slots) (hexec : p.tables.exec = Jvm.exec) {own C : String} {index count : Nat} {x y : MethodName} {bytes : ByteArray} {maxL : Nat} {ret : Option FieldType}
    (hown : s.vm.findClass own = some m.cls) (hlink : (Cond.methodLink own index x).before args s = true) (hdecl : (Cond.declares x).before args s = true) (hface : (Cond.interfaceMethod x.cls x.cls x.name x.desc).before args s = true)
    (hsel : (Cond.selects C x y).before args s = true) (hinst : (Cond.instanceMethod y).before args s = true) (hpub : (Cond.publicMethod y).before args s = true) (hunh : (Cond.unhidden C x.name x.desc).before args s = true)
    (hcast : (Cond.castable C x.cls).before args s = true) (hcode : (Cond.code y bytes maxL ret).before args s = true) (hx : x.cls ≠ "java/lang/invoke/MethodHandle" ∧ x.cls ≠ "java/lang/invoke/VarHandle")
    {W9 : Nat} {Pre : Pt → Array Value → Prop} {Post : Pt → Array Value → Option Value → Pt → Prop} {PostX : Pt → Array Value → Addr → Pt → Prop} (hK : vx_Back l R p e below s args y 5 W9 Pre Post PostX)
    {b : Addr} {cellB : Cell} {kB : Class} (hcell : T.heap[b]? = some cellB) (hobj : cellB.vm.isStatics = false) (hcls : s.vm.findClass C = some cellB.cls) (hkB : s.vm.classes[cellB.cls]? = some kB)
    {g : JFrame} (hg : g.method = m) (hsize : g.locals.size = c.maxLocals) {argsL rest : List Value} (hlen : ∀ sig, parseMethodDescriptor x.desc = some sig → argsL.length = sig.parameters.length)
    (hstack : g.stack = argsL.reverse ++ .ref b :: rest) (hW : 2 * g.monitorRoom + (rest.map fun v => v.category).sum ≤ W9) (hdg : decode c.code g.pc = .ok (.invokeinterface index count, 5))
    (hpre : ∀ vm₁, s.WarmedH vm₁ → Pre ⟨T.setVm vm₁, locs, cells, slots⟩ (Value.ref b :: argsL).toArray) :
    (∃ (v : Option Value) (vm₁ : Vm) (B : Pt), s.WarmedH vm₁ ∧ Stand p l e R s m args below meth c B.U B.locs B.cells B.slots ∧ Post ⟨T.setVm vm₁, locs, cells, slots⟩ (Value.ref b :: argsL).toArray v B ∧
      ∀ target, Steps p.tables e below (B.U.setTop { g with pc := g.pc + 5, stack := v.toList ++ rest }) target → Steps p.tables e below (T.setTop g) target) ∨
    (∃ (q : Addr) (vm₁ : Vm) (B : Pt), s.WarmedH vm₁ ∧ Stand p l e R s m args below meth c B.U B.locs B.cells B.slots ∧ PostX ⟨T.setVm vm₁, locs, cells, slots⟩ (Value.ref b :: argsL).toArray q B ∧
      Steps p.tables e below (T.setTop g) ((B.U.setTop { g with stack := rest }).pushFrame (.throwing q))) := by
  obtain ⟨r0, r, hn, hrm, hstR, hsigR⟩ := Cond.declares_spec hdecl
  obtain ⟨cL, kL, r1, hcL, hkL, hiL, hfoundL, hn1⟩ := Cond.interfaceMethod_spec hface
  cases hn.symm.trans hn1
  have hr0cls : r0.cls = cL := Option.some.inj ((findClass_of_methodNamed hn).symm.trans hcL)
  obtain ⟨hnameR, hdescR⟩ := name_of_methodNamed hn hrm
  obtain ⟨mk, methM, hnamed, hmethM, -, habM⟩ := Cond.instanceMethod_spec hinst
  obtain ⟨c2, r2, m2, q1, q2, q3, q4, -⟩ := Cond.selects_spec hsel
  cases hcls.symm.trans q1
  cases hfoundL.symm.trans q2
  cases hnamed.symm.trans q3
  have hselP : selectMethod e.platform s.vm cellB.cls r0 = .method mk := by rw [Launch.admits_selectMethod X.admits]; exact q4
  have hpubM : hasFlag methM.accessFlags Acc.public_ = true := Cond.publicMethod_spec hnamed hmethM hpub
  have hway : ((cellB.cls :: s.vm.superclasses cellB.cls).any fun k => (declaredIn s.vm r.name r.desc k).any fun (_, z) => z.isPrivate || z.isStatic) = false := by
    rw [hnameR, hdescR]; exact Cond.unhidden_spec hcls hunh
  obtain ⟨c3, t3, w1, w2, w3⟩ := Cond.castable_spec hcast
  cases hcls.symm.trans w1
  cases hcL.symm.trans w2
  obtain ⟨vm₁, X₁, hstep₁⟩ := X.invokeinterface hexec hown hlink hn hrm hstR (by rw [hr0cls]; exact hkL) hiL hx (a := b) (cell := cellB) (kcell := kB) hcell
    (fun z h => by rw [h] at hobj; cases hobj) hkB (by rw [hr0cls]; exact w3) hselP hmethM hway hpubM habM (g := g) hg (argsL := argsL) (rest := rest) (hlen _ hsigR) hstack hdg
  rcases hK m meth c ⟨T.setVm vm₁, locs, cells, slots⟩ { g with stack := rest } (.invokeinterface index count) mk (Value.ref b :: argsL).toArray X₁ hg hsize hdg hW (X₁.named hnamed) (hpre vm₁ X₁.warmed) with ⟨v, B, X', hpost, hsteps⟩ | ⟨q, B, X', hpost, hsteps⟩
  · exact Or.inl ⟨v, vm₁, B, X₁.warmed, X', hpost, fun target h => hstep₁ _ fun acts => by rw [doInvoke_state]; exact hsteps.trans h⟩
  · exact Or.inr ⟨q, vm₁, B, X₁.warmed, X', hpost, hstep₁ _ fun acts => by rw [doInvoke_state]; exact hsteps⟩
theorem vx_runF {x y : MethodName} {bytes cc : ByteArray} {maxL nL mc ms n index count : Nat} {ret : Option FieldType} {ws : List Cond} {rm : Room} {Pc : Array Value → State → Prop} {Qc : Array Value → State → Outcome → State → Prop} {XC : String → State → State → Prop} {free : Addr → Prop} {Ts : List Cond} {own C : String} {cC : ClassId} {b : Addr} {As rest : List Value} {g : JFrame}
    (hat : ClassAt s C cC) (S : CallFix p m c cc nL s args Ts own) (hM : vx_Met l y ws rm Pc Qc XC mc ms free) (cw : va_CI R s args own C index x y bytes maxL ret ws rm mc ms n) (hp : PreV s H C b Pc As)
    (hg : g.method = m) (hn : As.length = n) (hsize : g.locals.size = nL) (hstack : g.stack = As.reverse ++ .ref b :: rest) (hW : 2 * g.monitorRoom + (rest.map fun v => v.category).sum ≤ 8) (hdg : decode cc g.pc = .ok (.invokeinterface index count, 5)) (hf : cells + mc ≤ R.cells ∧ slots + ms ≤ R.slots) :
    vx_Run5 p l e R s m args below meth c H locs cells slots mc ms g rest (Qc (Value.ref b :: As).toArray) XC free := by
  obtain ⟨hrc, hrs, hfr, hlo, hws, hcw⟩ := cw.back
  have hini := cw.init
  have hK : vx_Back l R p e below s args y 5 8 (PreOf R mc ms Pc) (PostOf Qc mc ms free) (vx_Post XC mc ms free) := vx_back (bytes := bytes) (maxL := maxL) (ret := ret) hM hp.1 hrc hrs hfr hlo hws hcw (fun a' U hW => word_at hW (Or.inl (by first | rfl | simp [Cond.onTables, Cond.keeps, Cond.steady])) hini)
  obtain ⟨hx, hb, hml, ho, -⟩ := S
  obtain ⟨-, ⟨cellB, hcB, hoB, hclB⟩, hPc⟩ := hp
  obtain ⟨hfc, kB, hkB, -⟩ := hat
  cases hfc.symm.trans hclB
  intro T hT X
  rcases vx_callIF X hx (C := C) (bytes := bytes) (maxL := maxL) (ret := ret) ho cw.link cw.decl cw.face cw.sel cw.inst cw.pub cw.unh cw.cast cw.code cw.notMH hK (by rw [hT]; exact hcB) hoB hclB hkB hg (hsize.trans hml.symm) (argsL := As) (rest := rest) (fun sig h => hn.trans (cw.len sig h)) hstack hW (by rw [hb]; exact hdg)
    (fun vm₁ hW₁ => ⟨hf.1, hf.2, hPc (T.setVm vm₁) hT hW₁⟩) with ⟨v, vm₁, ⟨U', l2, c2, s2⟩, hW₁, X', ⟨g', mk, t, L, e1, e2, hq, h1, hL, h2, h3⟩, st⟩ | ⟨q, vm₁, ⟨U', l2, c2, s2⟩, hW₁, X', ⟨g', mk, t, L, E, ce, e1, e2, hq, hce, hcv, hcl, h1, hL, h2, h3⟩, st⟩
  · dsimp only [Pt.U, Pt.locs, Pt.cells, Pt.slots] at X' e1 e2 h1 h2 h3 st
    subst h1; subst h2; subst h3
    exact Or.inl ⟨v, (T.setVm vm₁).calling g' mk (Value.ref b :: As).toArray, t, U', L, hT, X', hL, e1, e2, hq, st⟩
  · dsimp only [Pt.U, Pt.locs, Pt.cells, Pt.slots] at X' e1 e2 h1 h2 h3 st hcl
    subst h1; subst h2; subst h3
    exact Or.inr ⟨q, (T.setVm vm₁).calling g' mk (Value.ref b :: As).toArray, t, U', L, E, ce, hT, X', hL, e1, e2, hq, hce, hcv, vx_cls hW₁ hcl, st⟩
theorem vx_callFv {S SX : Type} {post : S → Prop} {px : SX → Prop} {B : S → State → Prop} {BX : String → SX → State → Prop} {AX : Nat → Prop} (hr : vx_Run5 p l e R s m args below meth c H locs cells slots mc ms (F0 m pc ls st0) rest (va_Qv post B A1 a) (vx_X px BX AX) free) (hS : va_S A0 H0 H locs) (hA : ∀ q, q < H.size → A1 q → A0 q) (hf : ∀ q, free q → A0 q) (hAX : ∀ q, q < H.size → AX q → A0 q)
    (kx : ∀ (E : String) (ce : Cell) (q9 : Addr) (u : SX) (t : State) (H1 : Heap) (locs1 : List Loc), t.heap = H1 → s.vm.Alike t.vm → px u → BX E u t → H.size ≤ H1.size → (∀ q : Nat, q < H.size → ¬ AX q → H1[q]? = H[q]?) → va_S A0 H0 H1 locs1 → H1[q9]? = some ce → ce.vm = .none → s.vm.findClass E = some ce.cls → vx_W p l e R s m args below meth c H1 locs1 (cells + mc) (slots + ms) Q (F0 m pc ls rest) q9)
    (kk : ∀ (u : S) (t : State) (H1 : Heap) (locs1 : List Loc), t.heap = H1 → s.vm.Alike t.vm → post u → B u t → H.size ≤ H1.size → (∀ q : Nat, q < H.size → ¬ A1 q → H1[q]? = H[q]?) → va_S A0 H0 H1 locs1 → W p l e R s m args below meth c H1 locs1 (cells + mc) (slots + ms) Q (F0 m (pc + 5) ls (rest))) : W p l e R s m args below meth c H locs cells slots Q (F0 m pc ls st0) := by
  intro T hT X
  rcases hr T hT X with ⟨v, st₀, t, T', L, h0, X', hL, e1, e2, ⟨⟨u, hv, hp, hb⟩, hF⟩, st⟩ | ⟨q, st₀, t, T', L, E, ce, h0, X', hL, e1, e2, ⟨u, hp, hb, hF⟩, hce, hcv, hcl, st⟩
  · cases hv
    obtain ⟨k1, k2, k3⟩ := vx_keep h0 e1 hS hA hf hL hF
    obtain ⟨t2, a1, b1⟩ := kk u t T'.heap (locs ++ L) e1.symm (by rw [← e2]; exact X'.warmed.alike) hp hb k1 k2 k3 T' rfl X'
    exact ⟨t2, st t2 a1, b1⟩
  · obtain ⟨k1, k2, k3⟩ := vx_keep h0 e1 hS hAX hf hL hF
    obtain ⟨t2, a1, b1⟩ := kx E ce q u t T'.heap (locs ++ L) e1.symm (by rw [← e2]; exact X'.warmed.alike) hp hb k1 k2 k3 (by rw [e1]; exact hce) hcv hcl T' rfl X'
    exact ⟨t2, st.trans a1, b1⟩
theorem vx_callFi {S SX : Type} {post : Int32 → S → Prop} {px : SX → Prop} {B : S → State → Prop} {BX : String → SX → State → Prop} {AX : Nat → Prop} (hr : vx_Run5 p l e R s m args below meth c H locs cells slots mc ms (F0 m pc ls st0) rest (va_Qi post B A1 a) (vx_X px BX AX) free) (hS : va_S A0 H0 H locs) (hA : ∀ q, q < H.size → A1 q → A0 q) (hf : ∀ q, free q → A0 q) (hAX : ∀ q, q < H.size → AX q → A0 q)
    (kx : ∀ (E : String) (ce : Cell) (q9 : Addr) (u : SX) (t : State) (H1 : Heap) (locs1 : List Loc), t.heap = H1 → s.vm.Alike t.vm → px u → BX E u t → H.size ≤ H1.size → (∀ q : Nat, q < H.size → ¬ AX q → H1[q]? = H[q]?) → va_S A0 H0 H1 locs1 → H1[q9]? = some ce → ce.vm = .none → s.vm.findClass E = some ce.cls → vx_W p l e R s m args below meth c H1 locs1 (cells + mc) (slots + ms) Q (F0 m pc ls rest) q9)
    (kk : ∀ (r : Int32) (u : S) (t : State) (H1 : Heap) (locs1 : List Loc), t.heap = H1 → s.vm.Alike t.vm → post r u → B u t → H.size ≤ H1.size → (∀ q : Nat, q < H.size → ¬ A1 q → H1[q]? = H[q]?) → va_S A0 H0 H1 locs1 → W p l e R s m args below meth c H1 locs1 (cells + mc) (slots + ms) Q (F0 m (pc + 5) ls (.int r :: rest))) : W p l e R s m args below meth c H locs cells slots Q (F0 m pc ls st0) := by
  intro T hT X
  rcases hr T hT X with ⟨v, st₀, t, T', L, h0, X', hL, e1, e2, ⟨⟨r, u, hv, hp, hb⟩, hF⟩, st⟩ | ⟨q, st₀, t, T', L, E, ce, h0, X', hL, e1, e2, ⟨u, hp, hb, hF⟩, hce, hcv, hcl, st⟩
  · cases hv
    obtain ⟨k1, k2, k3⟩ := vx_keep h0 e1 hS hA hf hL hF
    obtain ⟨t2, a1, b1⟩ := kk r u t T'.heap (locs ++ L) e1.symm (by rw [← e2]; exact X'.warmed.alike) hp hb k1 k2 k3 T' rfl X'
    exact ⟨t2, st t2 a1, b1⟩
  · obtain ⟨k1, k2, k3⟩ := vx_keep h0 e1 hS hAX hf hL hF
    obtain ⟨t2, a1, b1⟩ := kx E ce q u t T'.heap (locs ++ L) e1.symm (by rw [← e2]; exact X'.warmed.alike) hp hb k1 k2 k3 (by rw [e1]; exact hce) hcv hcl T' rfl X'
    exact ⟨t2, st.trans a1, b1⟩
theorem vx_callFl {S SX : Type} {post : Int64 → S → Prop} {px : SX → Prop} {B : S → State → Prop} {BX : String → SX → State → Prop} {AX : Nat → Prop} (hr : vx_Run5 p l e R s m args below meth c H locs cells slots mc ms (F0 m pc ls st0) rest (va_Ql post B A1 a) (vx_X px BX AX) free) (hS : va_S A0 H0 H locs) (hA : ∀ q, q < H.size → A1 q → A0 q) (hf : ∀ q, free q → A0 q) (hAX : ∀ q, q < H.size → AX q → A0 q)
    (kx : ∀ (E : String) (ce : Cell) (q9 : Addr) (u : SX) (t : State) (H1 : Heap) (locs1 : List Loc), t.heap = H1 → s.vm.Alike t.vm → px u → BX E u t → H.size ≤ H1.size → (∀ q : Nat, q < H.size → ¬ AX q → H1[q]? = H[q]?) → va_S A0 H0 H1 locs1 → H1[q9]? = some ce → ce.vm = .none → s.vm.findClass E = some ce.cls → vx_W p l e R s m args below meth c H1 locs1 (cells + mc) (slots + ms) Q (F0 m pc ls rest) q9)
    (kk : ∀ (r : Int64) (u : S) (t : State) (H1 : Heap) (locs1 : List Loc), t.heap = H1 → s.vm.Alike t.vm → post r u → B u t → H.size ≤ H1.size → (∀ q : Nat, q < H.size → ¬ A1 q → H1[q]? = H[q]?) → va_S A0 H0 H1 locs1 → W p l e R s m args below meth c H1 locs1 (cells + mc) (slots + ms) Q (F0 m (pc + 5) ls (.long r :: rest))) : W p l e R s m args below meth c H locs cells slots Q (F0 m pc ls st0) := by
  intro T hT X
  rcases hr T hT X with ⟨v, st₀, t, T', L, h0, X', hL, e1, e2, ⟨⟨r, u, hv, hp, hb⟩, hF⟩, st⟩ | ⟨q, st₀, t, T', L, E, ce, h0, X', hL, e1, e2, ⟨u, hp, hb, hF⟩, hce, hcv, hcl, st⟩
  · cases hv
    obtain ⟨k1, k2, k3⟩ := vx_keep h0 e1 hS hA hf hL hF
    obtain ⟨t2, a1, b1⟩ := kk r u t T'.heap (locs ++ L) e1.symm (by rw [← e2]; exact X'.warmed.alike) hp hb k1 k2 k3 T' rfl X'
    exact ⟨t2, st t2 a1, b1⟩
  · obtain ⟨k1, k2, k3⟩ := vx_keep h0 e1 hS hAX hf hL hF
    obtain ⟨t2, a1, b1⟩ := kx E ce q u t T'.heap (locs ++ L) e1.symm (by rw [← e2]; exact X'.warmed.alike) hp hb k1 k2 k3 (by rw [e1]; exact hce) hcv hcl T' rfl X'
    exact ⟨t2, st.trans a1, b1⟩
theorem vx_callFf {S SX : Type} {post : UInt32 → S → Prop} {px : SX → Prop} {B : S → State → Prop} {BX : String → SX → State → Prop} {AX : Nat → Prop} (hr : vx_Run5 p l e R s m args below meth c H locs cells slots mc ms (F0 m pc ls st0) rest (va_Qf post B A1 a) (vx_X px BX AX) free) (hS : va_S A0 H0 H locs) (hA : ∀ q, q < H.size → A1 q → A0 q) (hf : ∀ q, free q → A0 q) (hAX : ∀ q, q < H.size → AX q → A0 q)
    (kx : ∀ (E : String) (ce : Cell) (q9 : Addr) (u : SX) (t : State) (H1 : Heap) (locs1 : List Loc), t.heap = H1 → s.vm.Alike t.vm → px u → BX E u t → H.size ≤ H1.size → (∀ q : Nat, q < H.size → ¬ AX q → H1[q]? = H[q]?) → va_S A0 H0 H1 locs1 → H1[q9]? = some ce → ce.vm = .none → s.vm.findClass E = some ce.cls → vx_W p l e R s m args below meth c H1 locs1 (cells + mc) (slots + ms) Q (F0 m pc ls rest) q9)
    (kk : ∀ (r : UInt32) (u : S) (t : State) (H1 : Heap) (locs1 : List Loc), t.heap = H1 → s.vm.Alike t.vm → post r u → B u t → H.size ≤ H1.size → (∀ q : Nat, q < H.size → ¬ A1 q → H1[q]? = H[q]?) → va_S A0 H0 H1 locs1 → W p l e R s m args below meth c H1 locs1 (cells + mc) (slots + ms) Q (F0 m (pc + 5) ls (.float r :: rest))) : W p l e R s m args below meth c H locs cells slots Q (F0 m pc ls st0) := by
  intro T hT X
  rcases hr T hT X with ⟨v, st₀, t, T', L, h0, X', hL, e1, e2, ⟨⟨r, u, hv, hp, hb⟩, hF⟩, st⟩ | ⟨q, st₀, t, T', L, E, ce, h0, X', hL, e1, e2, ⟨u, hp, hb, hF⟩, hce, hcv, hcl, st⟩
  · cases hv
    obtain ⟨k1, k2, k3⟩ := vx_keep h0 e1 hS hA hf hL hF
    obtain ⟨t2, a1, b1⟩ := kk r u t T'.heap (locs ++ L) e1.symm (by rw [← e2]; exact X'.warmed.alike) hp hb k1 k2 k3 T' rfl X'
    exact ⟨t2, st t2 a1, b1⟩
  · obtain ⟨k1, k2, k3⟩ := vx_keep h0 e1 hS hAX hf hL hF
    obtain ⟨t2, a1, b1⟩ := kx E ce q u t T'.heap (locs ++ L) e1.symm (by rw [← e2]; exact X'.warmed.alike) hp hb k1 k2 k3 (by rw [e1]; exact hce) hcv hcl T' rfl X'
    exact ⟨t2, st.trans a1, b1⟩
theorem vx_callFd {S SX : Type} {post : UInt64 → S → Prop} {px : SX → Prop} {B : S → State → Prop} {BX : String → SX → State → Prop} {AX : Nat → Prop} (hr : vx_Run5 p l e R s m args below meth c H locs cells slots mc ms (F0 m pc ls st0) rest (va_Qd post B A1 a) (vx_X px BX AX) free) (hS : va_S A0 H0 H locs) (hA : ∀ q, q < H.size → A1 q → A0 q) (hf : ∀ q, free q → A0 q) (hAX : ∀ q, q < H.size → AX q → A0 q)
    (kx : ∀ (E : String) (ce : Cell) (q9 : Addr) (u : SX) (t : State) (H1 : Heap) (locs1 : List Loc), t.heap = H1 → s.vm.Alike t.vm → px u → BX E u t → H.size ≤ H1.size → (∀ q : Nat, q < H.size → ¬ AX q → H1[q]? = H[q]?) → va_S A0 H0 H1 locs1 → H1[q9]? = some ce → ce.vm = .none → s.vm.findClass E = some ce.cls → vx_W p l e R s m args below meth c H1 locs1 (cells + mc) (slots + ms) Q (F0 m pc ls rest) q9)
    (kk : ∀ (r : UInt64) (u : S) (t : State) (H1 : Heap) (locs1 : List Loc), t.heap = H1 → s.vm.Alike t.vm → post r u → B u t → H.size ≤ H1.size → (∀ q : Nat, q < H.size → ¬ A1 q → H1[q]? = H[q]?) → va_S A0 H0 H1 locs1 → W p l e R s m args below meth c H1 locs1 (cells + mc) (slots + ms) Q (F0 m (pc + 5) ls (.double r :: rest))) : W p l e R s m args below meth c H locs cells slots Q (F0 m pc ls st0) := by
  intro T hT X
  rcases hr T hT X with ⟨v, st₀, t, T', L, h0, X', hL, e1, e2, ⟨⟨r, u, hv, hp, hb⟩, hF⟩, st⟩ | ⟨q, st₀, t, T', L, E, ce, h0, X', hL, e1, e2, ⟨u, hp, hb, hF⟩, hce, hcv, hcl, st⟩
  · cases hv
    obtain ⟨k1, k2, k3⟩ := vx_keep h0 e1 hS hA hf hL hF
    obtain ⟨t2, a1, b1⟩ := kk r u t T'.heap (locs ++ L) e1.symm (by rw [← e2]; exact X'.warmed.alike) hp hb k1 k2 k3 T' rfl X'
    exact ⟨t2, st t2 a1, b1⟩
  · obtain ⟨k1, k2, k3⟩ := vx_keep h0 e1 hS hAX hf hL hF
    obtain ⟨t2, a1, b1⟩ := kx E ce q u t T'.heap (locs ++ L) e1.symm (by rw [← e2]; exact X'.warmed.alike) hp hb k1 k2 k3 (by rw [e1]; exact hce) hcv hcl T' rfl X'
    exact ⟨t2, st.trans a1, b1⟩
end
/-! ===== END ===== -/
/-! ===== BEGIN by an interface, a method with a table of its own that may throw (follows va_callIFW, va_runFW) ===== -/
section
variable {p : Program} {l : Launch} {e : Env} {R : Room} {s : State} {m : MethodId} {args : Array Value} {below : List Frame} {meth : Method} {c : Code} {H : Heap} {locs : List Loc} {cells slots : Nat}
theorem vx_callIFW {T : State} (X : Stand p l e R s m args below meth c T locs cells slots) (hexec : p.tables.exec = Jvm.exec) {own C : String} {index count : Nat} {x y : MethodName} {bytes : ByteArray} {maxL : Nat} {ret : Option FieldType} {hh : List (Nat × Nat × Nat × Nat)}
    (hown : s.vm.findClass own = some m.cls) (hlink : (Cond.methodLink own index x).before args s = true) (hdecl : (Cond.declares x).before args s = true) (hface : (Cond.interfaceMethod x.cls x.cls x.name x.desc).before args s = true)
    (hsel : (Cond.selects C x y).before args s = true) (hinst : (Cond.instanceMethod y).before args s = true) (hpub : (Cond.publicMethod y).before args s = true) (hunh : (Cond.unhidden C x.name x.desc).before args s = true)
    (hcast : (Cond.castable C x.cls).before args s = true) (hcode : (Cond.codeWith y bytes maxL ret hh).before args s = true) (hx : x.cls ≠ "java/lang/invoke/MethodHandle" ∧ x.cls ≠ "java/lang/invoke/VarHandle")
    {W : Nat} {Pre : Pt → Array Value → Prop} {Post : Pt → Array Value → Option Value → Pt → Prop} {PostX : Pt → Array Value → Addr → Pt → Prop} (hK : vx_Back l R p e below s args y 5 W Pre Post PostX)
    {b : Addr} {cellB : Cell} {kB : Class} (hcell : T.heap[b]? = some cellB) (hobj : cellB.vm.isStatics = false) (hcls : s.vm.findClass C = some cellB.cls) (hkB : s.vm.classes[cellB.cls]? = some kB)
    {g : JFrame} (hg : g.method = m) (hsize : g.locals.size = c.maxLocals) {argsL rest : List Value} (hlen : ∀ sig, parseMethodDescriptor x.desc = some sig → argsL.length = sig.parameters.length)
    (hstack : g.stack = argsL.reverse ++ .ref b :: rest) (hW : 2 * g.monitorRoom + (rest.map fun v => v.category).sum ≤ W) (hdg : decode c.code g.pc = .ok (.invokeinterface index count, 5))
    (hpre : ∀ vm₁, s.WarmedH vm₁ → Pre ⟨T.setVm vm₁, locs, cells, slots⟩ (Value.ref b :: argsL).toArray) :
    (∃ (v : Option Value) (vm₁ : Vm) (B : Pt), s.WarmedH vm₁ ∧ Stand p l e R s m args below meth c B.U B.locs B.cells B.slots ∧ Post ⟨T.setVm vm₁, locs, cells, slots⟩ (Value.ref b :: argsL).toArray v B ∧
      ∀ target, Steps p.tables e below (B.U.setTop { g with pc := g.pc + 5, stack := v.toList ++ rest }) target → Steps p.tables e below (T.setTop g) target) ∨
    (∃ (q : Addr) (vm₁ : Vm) (B : Pt), s.WarmedH vm₁ ∧ Stand p l e R s m args below meth c B.U B.locs B.cells B.slots ∧ PostX ⟨T.setVm vm₁, locs, cells, slots⟩ (Value.ref b :: argsL).toArray q B ∧
      Steps p.tables e below (T.setTop g) ((B.U.setTop { g with stack := rest }).pushFrame (.throwing q))) := by
  obtain ⟨r0, r, hn, hrm, hstR, hsigR⟩ := Cond.declares_spec hdecl
  obtain ⟨cL, kL, r1, hcL, hkL, hiL, hfoundL, hn1⟩ := Cond.interfaceMethod_spec hface
  cases hn.symm.trans hn1
  have hr0cls : r0.cls = cL := Option.some.inj ((findClass_of_methodNamed hn).symm.trans hcL)
  obtain ⟨hnameR, hdescR⟩ := name_of_methodNamed hn hrm
  obtain ⟨mk, methM, hnamed, hmethM, -, habM⟩ := Cond.instanceMethod_spec hinst
  obtain ⟨c2, r2, m2, q1, q2, q3, q4, -⟩ := Cond.selects_spec hsel
  cases hcls.symm.trans q1
  cases hfoundL.symm.trans q2
  cases hnamed.symm.trans q3
  have hselP : selectMethod e.platform s.vm cellB.cls r0 = .method mk := by rw [Launch.admits_selectMethod X.admits]; exact q4
  have hpubM : hasFlag methM.accessFlags Acc.public_ = true := Cond.publicMethod_spec hnamed hmethM hpub
  have hway : ((cellB.cls :: s.vm.superclasses cellB.cls).any fun k => (declaredIn s.vm r.name r.desc k).any fun (_, z) => z.isPrivate || z.isStatic) = false := by
    rw [hnameR, hdescR]; exact Cond.unhidden_spec hcls hunh
  obtain ⟨c3, t3, w1, w2, w3⟩ := Cond.castable_spec hcast
  cases hcls.symm.trans w1
  cases hcL.symm.trans w2
  obtain ⟨vm₁, X₁, hstep₁⟩ := X.invokeinterface hexec hown hlink hn hrm hstR (by rw [hr0cls]; exact hkL) hiL hx (a := b) (cell := cellB) (kcell := kB) hcell
    (fun z h => by rw [h] at hobj; cases hobj) hkB (by rw [hr0cls]; exact w3) hselP hmethM hway hpubM habM (g := g) hg (argsL := argsL) (rest := rest) (hlen _ hsigR) hstack hdg
  rcases hK m meth c ⟨T.setVm vm₁, locs, cells, slots⟩ { g with stack := rest } (.invokeinterface index count) mk (Value.ref b :: argsL).toArray X₁ hg hsize hdg hW (X₁.named hnamed) (hpre vm₁ X₁.warmed) with ⟨v, B, X', hpost, hsteps⟩ | ⟨q, B, X', hpost, hsteps⟩
  · exact Or.inl ⟨v, vm₁, B, X₁.warmed, X', hpost, fun target h => hstep₁ _ fun acts => by rw [doInvoke_state]; exact hsteps.trans h⟩
  · exact Or.inr ⟨q, vm₁, B, X₁.warmed, X', hpost, hstep₁ _ fun acts => by rw [doInvoke_state]; exact hsteps⟩
theorem vx_runFW {x y : MethodName} {bytes cc : ByteArray} {maxL nL mc ms n index count : Nat} {ret : Option FieldType} {hh : List (Nat × Nat × Nat × Nat)} {ws : List Cond} {rm : Room} {Pc : Array Value → State → Prop} {Qc : Array Value → State → Outcome → State → Prop} {XC : String → State → State → Prop} {free : Addr → Prop} {Ts : List Cond} {own C : String} {cC : ClassId} {b : Addr} {As rest : List Value} {g : JFrame}
    (hat : ClassAt s C cC) (S : CallFix p m c cc nL s args Ts own) (hM : vx_Met l y ws rm Pc Qc XC mc ms free) (cw : va_CIW R s args own C index x y bytes maxL ret hh ws rm mc ms n) (hp : PreV s H C b Pc As)
    (hg : g.method = m) (hn : As.length = n) (hsize : g.locals.size = nL) (hstack : g.stack = As.reverse ++ .ref b :: rest) (hW : 2 * g.monitorRoom + (rest.map fun v => v.category).sum ≤ 8) (hdg : decode cc g.pc = .ok (.invokeinterface index count, 5)) (hf : cells + mc ≤ R.cells ∧ slots + ms ≤ R.slots) :
    vx_Run5 p l e R s m args below meth c H locs cells slots mc ms g rest (Qc (Value.ref b :: As).toArray) XC free := by
  obtain ⟨hrc, hrs, hfr, hlo, hws, hcw⟩ := cw.back
  have hini := cw.init
  have hK : vx_Back l R p e below s args y 5 8 (PreOf R mc ms Pc) (PostOf Qc mc ms free) (vx_Post XC mc ms free) := vx_backW (hh := hh) (bytes := bytes) (maxL := maxL) (ret := ret) hM hp.1 hrc hrs hfr hlo hws hcw (fun a' U hW => word_at hW (Or.inl (by first | rfl | simp [Cond.onTables, Cond.keeps, Cond.steady])) hini)
  obtain ⟨hx, hb, hml, ho, -⟩ := S
  obtain ⟨-, ⟨cellB, hcB, hoB, hclB⟩, hPc⟩ := hp
  obtain ⟨hfc, kB, hkB, -⟩ := hat
  cases hfc.symm.trans hclB
  intro T hT X
  rcases vx_callIFW X hx (C := C) (hh := hh) (bytes := bytes) (maxL := maxL) (ret := ret) ho cw.link cw.decl cw.face cw.sel cw.inst cw.pub cw.unh cw.cast cw.code cw.notMH hK (by rw [hT]; exact hcB) hoB hclB hkB hg (hsize.trans hml.symm) (argsL := As) (rest := rest) (fun sig h => hn.trans (cw.len sig h)) hstack hW (by rw [hb]; exact hdg)
    (fun vm₁ hW₁ => ⟨hf.1, hf.2, hPc (T.setVm vm₁) hT hW₁⟩) with ⟨v, vm₁, ⟨U', l2, c2, s2⟩, hW₁, X', ⟨g', mk, t, L, e1, e2, hq, h1, hL, h2, h3⟩, st⟩ | ⟨q, vm₁, ⟨U', l2, c2, s2⟩, hW₁, X', ⟨g', mk, t, L, E, ce, e1, e2, hq, hce, hcv, hcl, h1, hL, h2, h3⟩, st⟩
  · dsimp only [Pt.U, Pt.locs, Pt.cells, Pt.slots] at X' e1 e2 h1 h2 h3 st
    subst h1; subst h2; subst h3
    exact Or.inl ⟨v, (T.setVm vm₁).calling g' mk (Value.ref b :: As).toArray, t, U', L, hT, X', hL, e1, e2, hq, st⟩
  · dsimp only [Pt.U, Pt.locs, Pt.cells, Pt.slots] at X' e1 e2 h1 h2 h3 st hcl
    subst h1; subst h2; subst h3
    exact Or.inr ⟨q, (T.setVm vm₁).calling g' mk (Value.ref b :: As).toArray, t, U', L, E, ce, hT, X', hL, e1, e2, hq, hce, hcv, vx_cls hW₁ hcl, st⟩
end
/-! ===== END ===== -/
/-! ===== BEGIN .. of methods that hand back an object of the pool ===== -/
section
variable {p : Program} {l : Launch} {e : Env} {R : Room} {s : State} {m : MethodId} {args : Array Value} {below : List Frame} {meth : Method} {c : Code} {H : Heap} {locs : List Loc} {cells slots : Nat} {Q : State → Prop}
variable {mc ms : Nat} {free : Addr → Prop} {A0 A1 : Nat → Prop} {H0 : Heap} {a : Array Value} {pc : Nat} {ls : Array Slot} {st0 rest : List Value}
theorem vx_callq {S SX : Type} {post : Option Nat → S → Prop} {px : SX → Prop} {B : S → State → Prop} {BX : String → SX → State → Prop} {AX : Nat → Prop} (hr : vx_Run p l e R s m args below meth c H locs cells slots mc ms (F0 m pc ls st0) rest (va_Qq post B A1 a) (vx_X px BX AX) free) (hS : va_S A0 H0 H locs) (hA : ∀ q, q < H.size → A1 q → A0 q) (hf : ∀ q, free q → A0 q) (hAX : ∀ q, q < H.size → AX q → A0 q)
    (kx : ∀ (E : String) (ce : Cell) (q9 : Addr) (u : SX) (t : State) (H1 : Heap) (locs1 : List Loc), t.heap = H1 → s.vm.Alike t.vm → px u → BX E u t → H.size ≤ H1.size → (∀ q : Nat, q < H.size → ¬ AX q → H1[q]? = H[q]?) → va_S A0 H0 H1 locs1 → H1[q9]? = some ce → ce.vm = .none → s.vm.findClass E = some ce.cls → vx_W p l e R s m args below meth c H1 locs1 (cells + mc) (slots + ms) Q (F0 m pc ls rest) q9)
    (kk : ∀ (r : Option Nat) (u : S) (t : State) (H1 : Heap) (locs1 : List Loc), t.heap = H1 → s.vm.Alike t.vm → post r u → B u t → H.size ≤ H1.size → (∀ q : Nat, q < H.size → ¬ A1 q → H1[q]? = H[q]?) → va_S A0 H0 H1 locs1 → W p l e R s m args below meth c H1 locs1 (cells + mc) (slots + ms) Q (F0 m (pc + 3) ls (va_rf r :: rest))) : W p l e R s m args below meth c H locs cells slots Q (F0 m pc ls st0) := by
  intro T hT X
  rcases hr T hT X with ⟨v, st₀, t, T', L, h0, X', hL, e1, e2, ⟨⟨r, u, hv, hp, hb⟩, hF⟩, st⟩ | ⟨q, st₀, t, T', L, E, ce, h0, X', hL, e1, e2, ⟨u, hp, hb, hF⟩, hce, hcv, hcl, st⟩
  · cases hv
    obtain ⟨k1, k2, k3⟩ := vx_keep h0 e1 hS hA hf hL hF
    obtain ⟨t2, a1, b1⟩ := kk r u t T'.heap (locs ++ L) e1.symm (by rw [← e2]; exact X'.warmed.alike) hp hb k1 k2 k3 T' rfl X'
    exact ⟨t2, st t2 a1, b1⟩
  · obtain ⟨k1, k2, k3⟩ := vx_keep h0 e1 hS hAX hf hL hF
    obtain ⟨t2, a1, b1⟩ := kx E ce q u t T'.heap (locs ++ L) e1.symm (by rw [← e2]; exact X'.warmed.alike) hp hb k1 k2 k3 (by rw [e1]; exact hce) hcv hcl T' rfl X'
    exact ⟨t2, st.trans a1, b1⟩
end
/-! ===== END ===== -/
/-! ===== BEGIN .. a constant ===== -/
section
variable {p : Program} {l : Launch} {e : Env} {R : Room} {s : State} {m : MethodId} {args : Array Value} {below : List Frame} {meth : Method} {c : Code} {H : Heap} {locs : List Loc} {cells slots : Nat} {Q : State → Prop}
variable {mc ms : Nat} {free : Addr → Prop} {A0 A1 : Nat → Prop} {H0 : Heap} {a : Array Value} {pc : Nat} {ls : Array Slot} {st0 rest : List Value}
theorem vx_calle {ad : Nat → Nat} {S SX : Type} {post : Option Nat → S → Prop} {px : SX → Prop} {B : S → State → Prop} {BX : String → SX → State → Prop} {AX : Nat → Prop} (hr : vx_Run p l e R s m args below meth c H locs cells slots mc ms (F0 m pc ls st0) rest (va_Qe ad post B A1 a) (vx_X px BX AX) free) (hS : va_S A0 H0 H locs) (hA : ∀ q, q < H.size → A1 q → A0 q) (hf : ∀ q, free q → A0 q) (hAX : ∀ q, q < H.size → AX q → A0 q)
    (kx : ∀ (E : String) (ce : Cell) (q9 : Addr) (u : SX) (t : State) (H1 : Heap) (locs1 : List Loc), t.heap = H1 → s.vm.Alike t.vm → px u → BX E u t → H.size ≤ H1.size → (∀ q : Nat, q < H.size → ¬ AX q → H1[q]? = H[q]?) → va_S A0 H0 H1 locs1 → H1[q9]? = some ce → ce.vm = .none → s.vm.findClass E = some ce.cls → vx_W p l e R s m args below meth c H1 locs1 (cells + mc) (slots + ms) Q (F0 m pc ls rest) q9)
    (kk : ∀ (r : Option Nat) (u : S) (t : State) (H1 : Heap) (locs1 : List Loc), t.heap = H1 → s.vm.Alike t.vm → post r u → B u t → H.size ≤ H1.size → (∀ q : Nat, q < H.size → ¬ A1 q → H1[q]? = H[q]?) → va_S A0 H0 H1 locs1 → W p l e R s m args below meth c H1 locs1 (cells + mc) (slots + ms) Q (F0 m (pc + 3) ls (va_re ad r :: rest))) : W p l e R s m args below meth c H locs cells slots Q (F0 m pc ls st0) := by
  intro T hT X
  rcases hr T hT X with ⟨v, st₀, t, T', L, h0, X', hL, e1, e2, ⟨⟨r, u, hv, hp, hb⟩, hF⟩, st⟩ | ⟨q, st₀, t, T', L, E, ce, h0, X', hL, e1, e2, ⟨u, hp, hb, hF⟩, hce, hcv, hcl, st⟩
  · cases hv
    obtain ⟨k1, k2, k3⟩ := vx_keep h0 e1 hS hA hf hL hF
    obtain ⟨t2, a1, b1⟩ := kk r u t T'.heap (locs ++ L) e1.symm (by rw [← e2]; exact X'.warmed.alike) hp hb k1 k2 k3 T' rfl X'
    exact ⟨t2, st t2 a1, b1⟩
  · obtain ⟨k1, k2, k3⟩ := vx_keep h0 e1 hS hAX hf hL hF
    obtain ⟨t2, a1, b1⟩ := kx E ce q u t T'.heap (locs ++ L) e1.symm (by rw [← e2]; exact X'.warmed.alike) hp hb k1 k2 k3 (by rw [e1]; exact hce) hcv hcl T' rfl X'
    exact ⟨t2, st.trans a1, b1⟩
end
/-! ===== END ===== -/
/-! ===== BEGIN .. by an interface, an object ===== -/
section
variable {p : Program} {l : Launch} {e : Env} {R : Room} {s : State} {m : MethodId} {args : Array Value} {below : List Frame} {meth : Method} {c : Code} {H : Heap} {locs : List Loc} {cells slots : Nat} {Q : State → Prop}
variable {mc ms : Nat} {free : Addr → Prop} {A0 A1 : Nat → Prop} {H0 : Heap} {a : Array Value} {pc : Nat} {ls : Array Slot} {st0 rest : List Value}
theorem vx_callFq {S SX : Type} {post : Option Nat → S → Prop} {px : SX → Prop} {B : S → State → Prop} {BX : String → SX → State → Prop} {AX : Nat → Prop} (hr : vx_Run5 p l e R s m args below meth c H locs cells slots mc ms (F0 m pc ls st0) rest (va_Qq post B A1 a) (vx_X px BX AX) free) (hS : va_S A0 H0 H locs) (hA : ∀ q, q < H.size → A1 q → A0 q) (hf : ∀ q, free q → A0 q) (hAX : ∀ q, q < H.size → AX q → A0 q)
    (kx : ∀ (E : String) (ce : Cell) (q9 : Addr) (u : SX) (t : State) (H1 : Heap) (locs1 : List Loc), t.heap = H1 → s.vm.Alike t.vm → px u → BX E u t → H.size ≤ H1.size → (∀ q : Nat, q < H.size → ¬ AX q → H1[q]? = H[q]?) → va_S A0 H0 H1 locs1 → H1[q9]? = some ce → ce.vm = .none → s.vm.findClass E = some ce.cls → vx_W p l e R s m args below meth c H1 locs1 (cells + mc) (slots + ms) Q (F0 m pc ls rest) q9)
    (kk : ∀ (r : Option Nat) (u : S) (t : State) (H1 : Heap) (locs1 : List Loc), t.heap = H1 → s.vm.Alike t.vm → post r u → B u t → H.size ≤ H1.size → (∀ q : Nat, q < H.size → ¬ A1 q → H1[q]? = H[q]?) → va_S A0 H0 H1 locs1 → W p l e R s m args below meth c H1 locs1 (cells + mc) (slots + ms) Q (F0 m (pc + 5) ls (va_rf r :: rest))) : W p l e R s m args below meth c H locs cells slots Q (F0 m pc ls st0) := by
  intro T hT X
  rcases hr T hT X with ⟨v, st₀, t, T', L, h0, X', hL, e1, e2, ⟨⟨r, u, hv, hp, hb⟩, hF⟩, st⟩ | ⟨q, st₀, t, T', L, E, ce, h0, X', hL, e1, e2, ⟨u, hp, hb, hF⟩, hce, hcv, hcl, st⟩
  · cases hv
    obtain ⟨k1, k2, k3⟩ := vx_keep h0 e1 hS hA hf hL hF
    obtain ⟨t2, a1, b1⟩ := kk r u t T'.heap (locs ++ L) e1.symm (by rw [← e2]; exact X'.warmed.alike) hp hb k1 k2 k3 T' rfl X'
    exact ⟨t2, st t2 a1, b1⟩
  · obtain ⟨k1, k2, k3⟩ := vx_keep h0 e1 hS hAX hf hL hF
    obtain ⟨t2, a1, b1⟩ := kx E ce q u t T'.heap (locs ++ L) e1.symm (by rw [← e2]; exact X'.warmed.alike) hp hb k1 k2 k3 (by rw [e1]; exact hce) hcv hcl T' rfl X'
    exact ⟨t2, st.trans a1, b1⟩
end
/-! ===== END ===== -/
/-! ===== BEGIN .. by an interface, a constant ===== -/
section
variable {p : Program} {l : Launch} {e : Env} {R : Room} {s : State} {m : MethodId} {args : Array Value} {below : List Frame} {meth : Method} {c : Code} {H : Heap} {locs : List Loc} {cells slots : Nat} {Q : State → Prop}
variable {mc ms : Nat} {free : Addr → Prop} {A0 A1 : Nat → Prop} {H0 : Heap} {a : Array Value} {pc : Nat} {ls : Array Slot} {st0 rest : List Value}
theorem vx_callFe {ad : Nat → Nat} {S SX : Type} {post : Option Nat → S → Prop} {px : SX → Prop} {B : S → State → Prop} {BX : String → SX → State → Prop} {AX : Nat → Prop} (hr : vx_Run5 p l e R s m args below meth c H locs cells slots mc ms (F0 m pc ls st0) rest (va_Qe ad post B A1 a) (vx_X px BX AX) free) (hS : va_S A0 H0 H locs) (hA : ∀ q, q < H.size → A1 q → A0 q) (hf : ∀ q, free q → A0 q) (hAX : ∀ q, q < H.size → AX q → A0 q)
    (kx : ∀ (E : String) (ce : Cell) (q9 : Addr) (u : SX) (t : State) (H1 : Heap) (locs1 : List Loc), t.heap = H1 → s.vm.Alike t.vm → px u → BX E u t → H.size ≤ H1.size → (∀ q : Nat, q < H.size → ¬ AX q → H1[q]? = H[q]?) → va_S A0 H0 H1 locs1 → H1[q9]? = some ce → ce.vm = .none → s.vm.findClass E = some ce.cls → vx_W p l e R s m args below meth c H1 locs1 (cells + mc) (slots + ms) Q (F0 m pc ls rest) q9)
    (kk : ∀ (r : Option Nat) (u : S) (t : State) (H1 : Heap) (locs1 : List Loc), t.heap = H1 → s.vm.Alike t.vm → post r u → B u t → H.size ≤ H1.size → (∀ q : Nat, q < H.size → ¬ A1 q → H1[q]? = H[q]?) → va_S A0 H0 H1 locs1 → W p l e R s m args below meth c H1 locs1 (cells + mc) (slots + ms) Q (F0 m (pc + 5) ls (va_re ad r :: rest))) : W p l e R s m args below meth c H locs cells slots Q (F0 m pc ls st0) := by
  intro T hT X
  rcases hr T hT X with ⟨v, st₀, t, T', L, h0, X', hL, e1, e2, ⟨⟨r, u, hv, hp, hb⟩, hF⟩, st⟩ | ⟨q, st₀, t, T', L, E, ce, h0, X', hL, e1, e2, ⟨u, hp, hb, hF⟩, hce, hcv, hcl, st⟩
  · cases hv
    obtain ⟨k1, k2, k3⟩ := vx_keep h0 e1 hS hA hf hL hF
    obtain ⟨t2, a1, b1⟩ := kk r u t T'.heap (locs ++ L) e1.symm (by rw [← e2]; exact X'.warmed.alike) hp hb k1 k2 k3 T' rfl X'
    exact ⟨t2, st t2 a1, b1⟩
  · obtain ⟨k1, k2, k3⟩ := vx_keep h0 e1 hS hAX hf hL hF
    obtain ⟨t2, a1, b1⟩ := kx E ce q u t T'.heap (locs ++ L) e1.symm (by rw [← e2]; exact X'.warmed.alike) hp hb k1 k2 k3 (by rw [e1]; exact hce) hcv hcl T' rfl X'
    exact ⟨t2, st.trans a1, b1⟩
end
/-! ===== END ===== -/
/-! ===== BEGIN what the machine throws by itself: null at a field, at athrow ===== -/
section VXM2
variable {p : Program} {l : Launch} {e : Env} {R : Room} {s : State} {m : MethodId} {args : Array Value} {below : List Frame} {meth : Method} {c : Code} {H : Heap} {locs : List Loc} {cells slots : Nat}
variable {Q : State → Prop} {cc : ByteArray} {pc : Nat} {ls : Array Slot} {rest : List Value}
theorem vx_getfN {D cl tys} {own ref C : String} {T : u_T} {N ci index : Nat} {Ts : List Cond} (hexec : p.tables.exec = Jvm.exec) (hb : c.code = cc) (hts : ∀ w ∈ Ts, w.before args s = true) (hin : ∀ w ∈ u_ws C T N, w ∈ Ts) (hown : s.vm.findClass own = some m.cls) (hK : va_K D cl tys s) (hc : cl[ci]? = some (C, T, N)) (k : Nat) (hk : k < N) (hlink : (Cond.fieldLink own index ref (T k).2.1 (T k).2.2.1).before args s = true) (hsame : ∀ x, s.fieldFound? (T k).1 (T k).2.1 (T k).2.2.1 = some x → s.fieldFound? ref (T k).2.1 (T k).2.2.1 = some x) (hdg : decode cc pc = .ok (.getfield index, 3)) (kk : vx_NoteN p l e R s m args below meth c H locs cells slots Q (F0 m pc ls rest)) : W p l e R s m args below meth c H locs cells slots Q (F0 m pc ls (.null :: rest)) := by
  obtain ⟨hS, hfc, kC, hkC, -⟩ := hK.1 ci _ hc
  obtain ⟨cf, kf, fi, f, hi, -⟩ := hS k hk
  intro U hU X
  obtain ⟨vm', X1, st1⟩ := X.getfieldNull hexec hown hlink (hsame _ hi) (u_facts hfc hkC (u_lays hts hin hk) hi).1 (g := F0 m pc ls (.null :: rest)) rfl (rest := rest) rfl (by rw [hb]; exact hdg)
  obtain ⟨t, st, q⟩ := kk (U.setVm vm') hU X1
  exact ⟨t, st1 t st, q⟩
theorem vx_getfNN {D cl tys} {own ref C host : String} {T : u_T} {N ci index : Nat} {Ts : List Cond} (hexec : p.tables.exec = Jvm.exec) (hb : c.code = cc) (hts : ∀ w ∈ Ts, w.before args s = true) (hin : ∀ w ∈ u_ws C T N, w ∈ Ts) (hown : s.vm.findClass own = some m.cls) (hK : va_K D cl tys s) (hc : cl[ci]? = some (C, T, N)) (k : Nat) (hk : k < N) (hlink : (Cond.fieldLinkNest own index ref (T k).2.1 (T k).2.2.1 host).before args s = true) (hsame : ∀ x, s.fieldFound? (T k).1 (T k).2.1 (T k).2.2.1 = some x → s.fieldFound? ref (T k).2.1 (T k).2.2.1 = some x) (hdg : decode cc pc = .ok (.getfield index, 3)) (kk : vx_NoteN p l e R s m args below meth c H locs cells slots Q (F0 m pc ls rest)) : W p l e R s m args below meth c H locs cells slots Q (F0 m pc ls (.null :: rest)) := by
  obtain ⟨hS, hfc, kC, hkC, -⟩ := hK.1 ci _ hc
  obtain ⟨cf, kf, fi, f, hi, -⟩ := hS k hk
  intro U hU X
  obtain ⟨vm', X1, st1⟩ := X.getfieldNullNest hexec hown hlink (hsame _ hi) (u_facts hfc hkC (u_lays hts hin hk) hi).1 (g := F0 m pc ls (.null :: rest)) rfl (rest := rest) rfl (by rw [hb]; exact hdg)
  obtain ⟨t, st, q⟩ := kk (U.setVm vm') hU X1
  exact ⟨t, st1 t st, q⟩
theorem vx_putfN {D cl tys} {own ref C : String} {T : u_T} {N ci index : Nat} {Ts : List Cond} (hexec : p.tables.exec = Jvm.exec) (hb : c.code = cc) (hts : ∀ w ∈ Ts, w.before args s = true) (hin : ∀ w ∈ u_ws C T N, w ∈ Ts) (hown : s.vm.findClass own = some m.cls) (hK : va_K D cl tys s) (hc : cl[ci]? = some (C, T, N)) (k : Nat) (hk : k < N) (hlink : (Cond.fieldLink own index ref (T k).2.1 (T k).2.2.1).before args s = true) (hsame : ∀ x, s.fieldFound? (T k).1 (T k).2.1 (T k).2.2.1 = some x → s.fieldFound? ref (T k).2.1 (T k).2.2.1 = some x) (hfin : (T k).2.2.2 = false) {v : Value} (hdg : decode cc pc = .ok (.putfield index, 3)) (kk : vx_NoteN p l e R s m args below meth c H locs cells slots Q (F0 m pc ls rest)) : W p l e R s m args below meth c H locs cells slots Q (F0 m pc ls (v :: .null :: rest)) := by
  obtain ⟨hS, hfc, kC, hkC, -⟩ := hK.1 ci _ hc
  obtain ⟨cf, kf, fi, f, hi, -⟩ := hS k hk
  have hlay := hts _ (hin _ (u_in_lay hk))
  unfold u_lay at hlay
  rw [if_neg (by rw [hfin]; decide)] at hlay
  obtain ⟨c9, k9, cf9, kf9, fi9, f9, -, -, hi9, hst9, hnf9, -⟩ := Cond.lays_spec hlay
  cases hi.symm.trans hi9
  intro U hU X
  obtain ⟨vm', X1, st1⟩ := X.putfieldNull hexec hown hlink (hsame _ hi) hst9 hnf9 (g := F0 m pc ls (v :: .null :: rest)) rfl (v := v) (rest := rest) rfl (by rw [hb]; exact hdg)
  obtain ⟨t, st, q⟩ := kk (U.setVm vm') hU X1
  exact ⟨t, st1 t st, q⟩
theorem vx_putfNN {D cl tys} {own ref C host : String} {T : u_T} {N ci index : Nat} {Ts : List Cond} (hexec : p.tables.exec = Jvm.exec) (hb : c.code = cc) (hts : ∀ w ∈ Ts, w.before args s = true) (hin : ∀ w ∈ u_ws C T N, w ∈ Ts) (hown : s.vm.findClass own = some m.cls) (hK : va_K D cl tys s) (hc : cl[ci]? = some (C, T, N)) (k : Nat) (hk : k < N) (hlink : (Cond.fieldLinkNest own index ref (T k).2.1 (T k).2.2.1 host).before args s = true) (hsame : ∀ x, s.fieldFound? (T k).1 (T k).2.1 (T k).2.2.1 = some x → s.fieldFound? ref (T k).2.1 (T k).2.2.1 = some x) (hfin : (T k).2.2.2 = false) {v : Value} (hdg : decode cc pc = .ok (.putfield index, 3)) (kk : vx_NoteN p l e R s m args below meth c H locs cells slots Q (F0 m pc ls rest)) : W p l e R s m args below meth c H locs cells slots Q (F0 m pc ls (v :: .null :: rest)) := by
  obtain ⟨hS, hfc, kC, hkC, -⟩ := hK.1 ci _ hc
  obtain ⟨cf, kf, fi, f, hi, -⟩ := hS k hk
  have hlay := hts _ (hin _ (u_in_lay hk))
  unfold u_lay at hlay
  rw [if_neg (by rw [hfin]; decide)] at hlay
  obtain ⟨c9, k9, cf9, kf9, fi9, f9, -, -, hi9, hst9, hnf9, -⟩ := Cond.lays_spec hlay
  cases hi.symm.trans hi9
  intro U hU X
  obtain ⟨vm', X1, st1⟩ := X.putfieldNullNest hexec hown hlink (hsame _ hi) hst9 hnf9 (g := F0 m pc ls (v :: .null :: rest)) rfl (v := v) (rest := rest) rfl (by rw [hb]; exact hdg)
  obtain ⟨t, st, q⟩ := kk (U.setVm vm') hU X1
  exact ⟨t, st1 t st, q⟩
theorem vx_athrowN (hexec : p.tables.exec = Jvm.exec) (hb : c.code = cc) (hdg : decode cc pc = .ok (.athrow, 1)) (k : vx_NoteN p l e R s m args below meth c H locs cells slots Q (F0 m pc ls rest)) : W p l e R s m args below meth c H locs cells slots Q (F0 m pc ls (.null :: rest)) := by
  intro T hT X
  obtain ⟨t, st, q⟩ := k T hT X
  exact ⟨t, X.athrowNull hexec (g := F0 m pc ls (.null :: rest)) rfl (rest := rest) rfl (by rw [hb]; exact hdg) t st, q⟩
end VXM2
/-! ===== END ===== -/
end
section
/-! ===== BEGIN the judgement G: a frame of a method of the program over an abstract heap ===== -/
/-- a cell: an array (number of its type, length, contents) or an object (number of its class, fields) -/
abbrev gA : Type := (Nat × vp_A) ⊕ (Nat × List Value)
abbrev gIm : Type := Nat → Option gA
abbrev gW : Type := Nat → gA
/-- what stays the same all along a run: the launch, the first address of the run, classes, slots, array classes, the script (address, length, ints), the fixed cells (how many, addresses) -/
abbrev gE : Type := Launch × Nat × (Nat → ClassId) × (Nat → Nat → Nat) × (Nat → ClassId) × (Nat × Nat × (Nat → Int32)) × Nat × (Nat → Nat)
abbrev gl (E : gE) : Launch := E.1
abbrev gb (E : gE) : Nat := E.2.1
abbrev gD (E : gE) : va_G := (E.2.2.1, E.2.2.2.1)
abbrev gdA (E : gE) : Nat → ClassId := E.2.2.2.2.1
abbrev gX (E : gE) : Nat × Nat × (Nat → Int32) := E.2.2.2.2.2.1
abbrev gN (E : gE) : Nat := E.2.2.2.2.2.2.1
abbrev gad (E : gE) : Nat → Nat := E.2.2.2.2.2.2.2
/-- a method's frame: own class, bytes, maxLocals, return type, handlers, is it a constructor -/
abbrev gM : Type := String × ByteArray × Nat × Option FieldType × List (Nat × Nat × Nat × Nat) × Bool
abbrev gO : Type := Option Value ⊕ String
abbrev gQ : Type := gO → gW → gIm → Prop

def g_T0 : u_T := fun k => match k with
  | 0 => ("SkiPasses", "now", "LSkiPasses$Resort;", true)
  | 1 => ("SkiPasses", "kept", "LSkiPasses$Resort;", true)
  | 2 => ("SkiPasses", "history", "LSkiPasses$History;", true)
  | 3 => ("SkiPasses", "text", "LSkiPasses$Text;", true)
  | 4 => ("SkiPasses", "shares", "LSkiPasses$Shares;", true)
  | 5 => ("SkiPasses", "hasSnapshot", "Z", false)
  | 6 => ("SkiPasses", "latestRefusal", "I", false)
  | 7 => ("SkiPasses", "latestError", "I", false)
  | _ => ("SkiPasses", "latestRefused", "I", false)
def g_y0 : Nat → FieldType := fun k => match k with
  | 0 => .object "SkiPasses$Resort"
  | 1 => .object "SkiPasses$Resort"
  | 2 => .object "SkiPasses$History"
  | 3 => .object "SkiPasses$Text"
  | 4 => .object "SkiPasses$Shares"
  | 5 => .boolean
  | 6 => .int
  | 7 => .int
  | _ => .int
def g_T1 : u_T := fun k => match k with
  | 0 => ("SkiPasses$Resort", "gates", "[LSkiPasses$Gate;", true)
  | 1 => ("SkiPasses$Resort", "products", "[LSkiPasses$Product;", true)
  | 2 => ("SkiPasses$Resort", "cards", "[LSkiPasses$Card;", true)
  | 3 => ("SkiPasses$Resort", "closed", "[I", true)
  | 4 => ("SkiPasses$Resort", "gateCount", "I", false)
  | 5 => ("SkiPasses$Resort", "productCount", "I", false)
  | 6 => ("SkiPasses$Resort", "cardCount", "I", false)
  | 7 => ("SkiPasses$Resort", "shutGates", "I", false)
  | _ => ("SkiPasses$Resort", "clock", "I", false)
def g_y1 : Nat → FieldType := fun k => match k with
  | 0 => .array (.object "SkiPasses$Gate")
  | 1 => .array (.object "SkiPasses$Product")
  | 2 => .array (.object "SkiPasses$Card")
  | 3 => .array .int
  | 4 => .int
  | 5 => .int
  | 6 => .int
  | 7 => .int
  | _ => .int
def g_T2 : u_T := fun k => match k with
  | 0 => ("SkiPasses$History", "places", "[LSkiPasses$Resort;", true)
  | 1 => ("SkiPasses$History", "next", "I", false)
  | _ => ("SkiPasses$History", "changes", "I", false)
def g_y2 : Nat → FieldType := fun k => match k with
  | 0 => .array (.object "SkiPasses$Resort")
  | 1 => .int
  | _ => .int
def g_T3 : u_T := fun k => match k with
  | 0 => ("SkiPasses$Text", "signs", "[C", true)
  | 1 => ("SkiPasses$Text", "length", "I", false)
  | 2 => ("SkiPasses$Text", "position", "I", false)
  | 3 => ("SkiPasses$Text", "orders", "I", false)
  | 4 => ("SkiPasses$Text", "letter", "C", false)
  | 5 => ("SkiPasses$Text", "number", "I", false)
  | _ => ("SkiPasses$Text", "times", "I", false)
def g_y3 : Nat → FieldType := fun k => match k with
  | 0 => .array .char
  | 1 => .int
  | 2 => .int
  | 3 => .int
  | 4 => .char
  | 5 => .int
  | _ => .int
def g_T4 : u_T := fun k => match k with
  | _ => ("SkiPasses$Shares", "parts", "[I", true)
def g_y4 : Nat → FieldType := fun k => match k with
  | _ => .array .int
def g_T5 : u_T := fun k => match k with
  | 0 => ("SkiPasses$Gate", "number", "I", true)
  | 1 => ("SkiPasses$Gate", "partner", "I", true)
  | _ => ("SkiPasses$Gate", "position", "I", true)
def g_y5 : Nat → FieldType := fun k => match k with
  | 0 => .int
  | 1 => .int
  | _ => .int
def g_T6 : u_T := fun k => match k with
  | 0 => ("SkiPasses$Product", "number", "I", true)
  | 1 => ("SkiPasses$Product", "kind", "I", true)
  | 2 => ("SkiPasses$Product", "amount", "I", true)
  | 3 => ("SkiPasses$Product", "first", "I", true)
  | 4 => ("SkiPasses$Product", "last", "I", true)
  | 5 => ("SkiPasses$Product", "partners", "I", true)
  | _ => ("SkiPasses$Product", "price", "I", true)
def g_y6 : Nat → FieldType := fun k => match k with
  | 0 => .int
  | 1 => .int
  | 2 => .int
  | 3 => .int
  | 4 => .int
  | 5 => .int
  | _ => .int
def g_T7 : u_T := fun k => match k with
  | 0 => ("SkiPasses$Ride", "before", "LSkiPasses$Ride;", true)
  | 1 => ("SkiPasses$Ride", "gate", "LSkiPasses$Gate;", true)
  | 2 => ("SkiPasses$Ride", "minute", "I", true)
  | 3 => ("SkiPasses$Ride", "count", "I", true)
  | _ => ("SkiPasses$Ride", "days", "I", true)
def g_y7 : Nat → FieldType := fun k => match k with
  | 0 => .object "SkiPasses$Ride"
  | 1 => .object "SkiPasses$Gate"
  | 2 => .int
  | 3 => .int
  | _ => .int
def g_T8 : u_T := fun k => match k with
  | 0 => ("SkiPasses$Card", "number", "I", true)
  | 1 => ("SkiPasses$Card", "product", "LSkiPasses$Product;", true)
  | 2 => ("SkiPasses$Card", "state", "I", true)
  | 3 => ("SkiPasses$Card", "successor", "I", true)
  | 4 => ("SkiPasses$Card", "refunded", "I", true)
  | _ => ("SkiPasses$Card", "latest", "LSkiPasses$Ride;", true)
def g_y8 : Nat → FieldType := fun k => match k with
  | 0 => .int
  | 1 => .object "SkiPasses$Product"
  | 2 => .int
  | 3 => .int
  | 4 => .int
  | _ => .object "SkiPasses$Ride"
def g_T9 : u_T := fun k => match k with
  | 0 => ("SkiPassesModel", "now", "[I", true)
  | 1 => ("SkiPassesModel", "past", "[I", true)
  | 2 => ("SkiPassesModel", "pastMany", "I", false)
  | 3 => ("SkiPassesModel", "saved", "[I", true)
  | 4 => ("SkiPassesModel", "isSaved", "Z", false)
  | 5 => ("SkiPassesModel", "tried", "[I", true)
  | 6 => ("SkiPassesModel", "thrown", "I", false)
  | 7 => ("SkiPassesModel", "refused", "I", false)
  | 8 => ("SkiPassesModel", "errorAt", "I", false)
  | 9 => ("SkiPassesModel", "orderAt", "I", false)
  | 10 => ("SkiPassesModel", "buffer", "[C", true)
  | 11 => ("SkiPassesModel", "typed", "I", false)
  | 12 => ("SkiPassesModel", "end", "I", false)
  | 13 => ("SkiPassesModel", "at", "I", false)
  | 14 => ("SkiPassesModel", "isWrong", "Z", false)
  | 15 => ("SkiPassesModel", "letter", "C", false)
  | 16 => ("SkiPassesModel", "number", "I", false)
  | _ => ("SkiPassesModel", "times", "I", false)
def g_y9 : Nat → FieldType := fun k => match k with
  | 0 => .array .int
  | 1 => .array .int
  | 2 => .int
  | 3 => .array .int
  | 4 => .boolean
  | 5 => .array .int
  | 6 => .int
  | 7 => .int
  | 8 => .int
  | 9 => .int
  | 10 => .array .char
  | 11 => .int
  | 12 => .int
  | 13 => .int
  | 14 => .boolean
  | 15 => .char
  | 16 => .int
  | _ => .int
def g_C : Nat → String := fun ci => match ci with
  | 0 => "SkiPasses"
  | 1 => "SkiPasses$Resort"
  | 2 => "SkiPasses$History"
  | 3 => "SkiPasses$Text"
  | 4 => "SkiPasses$Shares"
  | 5 => "SkiPasses$Gate"
  | 6 => "SkiPasses$Product"
  | 7 => "SkiPasses$Ride"
  | 8 => "SkiPasses$Card"
  | _ => "SkiPassesModel"
def g_n : Nat → Nat := fun ci => match ci with
  | 0 => 9
  | 1 => 9
  | 2 => 3
  | 3 => 7
  | 4 => 1
  | 5 => 3
  | 6 => 7
  | 7 => 5
  | 8 => 6
  | _ => 18
def g_T : Nat → u_T := fun ci => match ci with
  | 0 => g_T0
  | 1 => g_T1
  | 2 => g_T2
  | 3 => g_T3
  | 4 => g_T4
  | 5 => g_T5
  | 6 => g_T6
  | 7 => g_T7
  | 8 => g_T8
  | _ => g_T9
def g_y : Nat → Nat → FieldType := fun ci => match ci with
  | 0 => g_y0
  | 1 => g_y1
  | 2 => g_y2
  | 3 => g_y3
  | 4 => g_y4
  | 5 => g_y5
  | 6 => g_y6
  | 7 => g_y7
  | 8 => g_y8
  | _ => g_y9
def g_cl : List vw_C := (List.range 10).map fun ci => (g_C ci, g_T ci, g_n ci)
theorem g_clat {ci : Nat} (h : ci < 10) : g_cl[ci]? = some (g_C ci, g_T ci, g_n ci) := by simp [g_cl, h]
theorem lt10 {P : Nat → Prop} (h0 : P 0) (h1 : P 1) (h2 : P 2) (h3 : P 3) (h4 : P 4) (h5 : P 5) (h6 : P 6) (h7 : P 7) (h8 : P 8) (h9 : P 9) {n : Nat} (h : n < 10) : P n := by
  match n, h with
  | 0, _ => exact h0
  | 1, _ => exact h1
  | 2, _ => exact h2
  | 3, _ => exact h3
  | 4, _ => exact h4
  | 5, _ => exact h5
  | 6, _ => exact h6
  | 7, _ => exact h7
  | 8, _ => exact h8
  | 9, _ => exact h9
theorem g_tyok {ci : Nat} (h : ci < 10) : ∀ k, k < g_n ci → parseFieldDescriptor (g_T ci k).2.2.1 = some (g_y ci k) := by
  refine lt10 (P := fun ci => ∀ k, k < g_n ci → parseFieldDescriptor (g_T ci k).2.2.1 = some (g_y ci k)) ?_ ?_ ?_ ?_ ?_ ?_ ?_ ?_ ?_ ?_ h <;> decide +kernel
theorem g_nmok {ci : Nat} (h : ci < 10) : ∀ a, a < g_n ci → ∀ b, b < g_n ci → a ≠ b → (g_T ci a).2.1 ≠ (g_T ci b).2.1 := by
  refine lt10 (P := fun ci => ∀ a, a < g_n ci → ∀ b, b < g_n ci → a ≠ b → (g_T ci a).2.1 ≠ (g_T ci b).2.1) ?_ ?_ ?_ ?_ ?_ ?_ ?_ ?_ ?_ ?_ h <;> decide +kernel
theorem g_own {ci : Nat} (h : ci < 10) : ∀ k, k < g_n ci → (g_T ci k).1 = g_C ci := by
  refine lt10 (P := fun ci => ∀ k, k < g_n ci → (g_T ci k).1 = g_C ci) ?_ ?_ ?_ ?_ ?_ ?_ ?_ ?_ ?_ ?_ h <;> decide +kernel
/-- the words that every method of the program has -/
def g_all : List Cond := lw_tbl.filter goodWord
theorem g_mem (i : Nat) {x : Cond} (h : lw_tbl[i]? = some x) (hg : goodWord x = true) : x ∈ g_all := List.mem_filter.mpr ⟨List.mem_of_getElem? h, hg⟩
theorem g_good : GoodIn g_all g_all := fun w hw => ⟨hw, good_of_word (List.mem_filter.mp hw).2⟩
set_option maxRecDepth 20000 in
theorem g_lays {ci : Nat} (h : ci < 10) : ∀ x ∈ u_ws (g_C ci) (g_T ci) (g_n ci), x ∈ g_all := by
  refine lt10 (P := fun ci => ∀ x ∈ u_ws (g_C ci) (g_T ci) (g_n ci), x ∈ g_all) ?_ ?_ ?_ ?_ ?_ ?_ ?_ ?_ ?_ ?_ h <;> decide +kernel
/-- the array types -/
def g_ty : Nat → FieldType := fun k => match k with
  | 0 => .int
  | 1 => .char
  | 2 => .long
  | 3 => .double
  | 4 => .object "SkiPasses$Gate"
  | 5 => .object "SkiPasses$Product"
  | 6 => .object "SkiPasses$Card"
  | _ => .object "SkiPasses$Resort"
def g_e (E : gE) : gA → va_E := fun e => match e with
  | .inl x => .inl (gdA E x.1, x.2)
  | .inr o => .inr o
def g_at (E : gE) (a : Nat) (e : gA) (H : Heap) : Prop := va_at (gD E) g_cl (a, g_e E e) H
def g_Rp (E : gE) (w : gW) (im : gIm) (H : Heap) : Prop :=
  (∀ i, i < gN E → gb E ≤ gad E i ∧ g_at E (gad E i) (w i) H) ∧ (∀ a x, im a = some x → gb E ≤ a ∧ g_at E a x H) ∧ (∀ i j, i < gN E → j < gN E → gad E i = gad E j → i = j) ∧ ∀ i, i < gN E → im (gad E i) = none
def g_cell (E : gE) (w : gW) (im : gIm) (a : Nat) (x : gA) : Prop := (∃ i, i < gN E ∧ a = gad E i ∧ w i = x) ∨ im a = some x
theorem g_mut {E : gE} {w : gW} {im : gIm} {x : gA} (i : Nat) (hi : i < gN E) (h : w i = x) : g_cell E w im (gad E i) x := Or.inl ⟨i, hi, rfl, h⟩
theorem g_imm {E : gE} {w : gW} {im : gIm} {a : Nat} {x : gA} (h : im a = some x) : g_cell E w im a x := Or.inr h
theorem g_at.kept {E : gE} {a : Nat} {x : gA} {H H1 : Heap} (h : g_at E a x H) (hq : H1[a]? = H[a]?) : g_at E a x H1 := va_at.kept h hq
theorem g_at.lt {E : gE} {a : Nat} {x : gA} {H : Heap} (h : g_at E a x H) : a < H.size := va_at.lt h
theorem g_Rp.get {E : gE} {w : gW} {im : gIm} {H : Heap} {a : Nat} {x : gA} (h : g_Rp E w im H) (hc : g_cell E w im a x) : gb E ≤ a ∧ g_at E a x H := by
  rcases hc with ⟨i, hi, rfl, rfl⟩ | hc
  · exact h.1 i hi
  · exact h.2.1 a x hc
theorem g_Rp.setW {E : gE} {w : gW} {im : gIm} {H H1 : Heap} {x : gA} (h : g_Rp E w im H) {i : Nat} (hi : i < gN E) (hx : g_at E (gad E i) x H1) (oq : ∀ q : Nat, q ≠ gad E i → H1[q]? = H[q]?) : g_Rp E (vf_upd w i x) im H1 := by
  refine ⟨fun j hj => ⟨(h.1 j hj).1, ?_⟩, fun a y ha => ⟨(h.2.1 a y ha).1, (h.2.1 a y ha).2.kept (oq a fun q => ?_)⟩, h.2.2.1, h.2.2.2⟩
  · by_cases e : j = i
    · subst e
      rw [show vf_upd w j x j = x by simp [vf_upd]]
      exact hx
    · rw [show vf_upd w i x j = w j by simp [vf_upd, e]]
      exact (h.1 j hj).2.kept (oq _ fun q => e (h.2.2.1 j i hj hi q))
  · rw [q, h.2.2.2 i hi] at ha
    cases ha
theorem g_Rp.setI {E : gE} {w : gW} {im : gIm} {H H1 : Heap} {x x0 : gA} (h : g_Rp E w im H) {a : Nat} (ha : im a = some x0) (hx : g_at E a x H1) (oq : ∀ q : Nat, q ≠ a → H1[q]? = H[q]?) : g_Rp E w (vf_upd im a (some x)) H1 := by
  have hne : ∀ i, i < gN E → gad E i ≠ a := fun i hi q => by
    have := h.2.2.2 i hi
    rw [q, ha] at this
    cases this
  refine ⟨fun j hj => ⟨(h.1 j hj).1, (h.1 j hj).2.kept (oq _ (hne j hj))⟩, fun b y hb => ?_, h.2.2.1, fun i hi => ?_⟩
  · by_cases e : b = a
    · subst e
      simp [vf_upd] at hb
      subst hb
      exact ⟨(h.2.1 b x0 ha).1, hx⟩
    · rw [show vf_upd im a (some x) b = im b by simp [vf_upd, e]] at hb
      exact ⟨(h.2.1 b y hb).1, (h.2.1 b y hb).2.kept (oq b e)⟩
  · rw [show vf_upd im a (some x) (gad E i) = im (gad E i) by simp [vf_upd, hne i hi]]
    exact h.2.2.2 i hi
theorem g_Rp.push {E : gE} {w : gW} {im : gIm} {H H1 : Heap} {x : gA} (h : g_Rp E w im H) (hb : gb E ≤ H.size) (hx : g_at E H.size x H1) (oq : ∀ q : Nat, q < H.size → H1[q]? = H[q]?) : im H.size = none ∧ (∀ i, i < gN E → gad E i ≠ H.size) ∧ g_Rp E w (vf_upd im H.size (some x)) H1 := by
  have h1 : im H.size = none := by
    cases hm : im H.size with
    | none => rfl
    | some y => exact absurd (h.2.1 _ y hm).2.lt (Nat.lt_irrefl _)
  have h2 : ∀ i, i < gN E → gad E i ≠ H.size := fun i hi q => absurd (h.1 i hi).2.lt (by rw [q]; exact Nat.lt_irrefl _)
  refine ⟨h1, h2, fun j hj => ⟨(h.1 j hj).1, (h.1 j hj).2.kept (oq _ (h.1 j hj).2.lt)⟩, fun b y hy => ?_, h.2.2.1, fun i hi => ?_⟩
  · by_cases e : b = H.size
    · subst e
      simp [vf_upd] at hy
      subst hy
      exact ⟨hb, hx⟩
    · rw [show vf_upd im H.size (some x) b = im b by simp [vf_upd, e]] at hy
      exact ⟨(h.2.1 b y hy).1, (h.2.1 b y hy).2.kept (oq b (h.2.1 b y hy).2.lt)⟩
  · rw [show vf_upd im H.size (some x) (gad E i) = im (gad E i) by simp [vf_upd, h2 i hi]]
    exact h.2.2.2 i hi
theorem g_Rp.kept {E : gE} {w : gW} {im : gIm} {H H1 : Heap} (h : g_Rp E w im H) (oq : ∀ q : Nat, q < H.size → H1[q]? = H[q]?) : g_Rp E w im H1 :=
  ⟨fun j hj => ⟨(h.1 j hj).1, (h.1 j hj).2.kept (oq _ (h.1 j hj).2.lt)⟩, fun b y hy => ⟨(h.2.1 b y hy).1, (h.2.1 b y hy).2.kept (oq b (h.2.1 b y hy).2.lt)⟩, h.2.2.1, h.2.2.2⟩
/-- the words of the tables that a call doesn't hand on by itself -/
def g_bad (x : Cond) : Bool := match x with
  | .declares _ => true
  | .castable _ _ => true
  | .fieldLinkNest _ _ _ _ _ _ => true
  | .methodLinkNest _ _ _ _ => true
  | _ => false
def g_bads : List Cond := lw_tbl.filter g_bad
theorem g_bmem (i : Nat) {x : Cond} (h : lw_tbl[i]? = some x) (hg : g_bad x = true) : x ∈ g_bads := List.mem_filter.mpr ⟨List.mem_of_getElem? h, hg⟩
theorem g_badT {x : Cond} (h : g_bad x = true) : x.onTables = true := by
  cases x <;> first | rfl | (simp [g_bad] at h)
theorem g_warm {x : Cond} (h : g_bad x = true) {s U : State} (hW : s.WarmedH U.vm) (hZ : va_Nw x s) : va_Nw x U := by
  cases x <;> first | (simp [g_bad] at h; done) | exact va_Nw.warmD hW hZ | exact va_Nw.warmC hW hZ | exact va_Nw.warmF hW hZ | exact va_Nw.warmM hW hZ
def g_strs : List (String × Nat × String) := lw_tbl.filterMap fun x => match x with
  | .stringRef own k tx => some (own, k, tx)
  | _ => none
def g_xs : List String := ["java/lang/IllegalArgumentException", "java/lang/IllegalStateException", "java/lang/IndexOutOfBoundsException", "java/lang/ArithmeticException", "java/lang/UnsupportedOperationException", "java/util/NoSuchElementException"]
def g_nc : List (String × String) := (g_xs.flatMap fun a => g_xs.map fun b => (a, b)).filter fun q => decide (q.1 ≠ q.2)
def g_ao : List String := ["SkiPasses$Gate", "SkiPasses$Product", "SkiPasses$Card", "SkiPasses$Resort"]
/-- what is known of the classes, and of the heap below the run's first address -/
def g_K (E : gE) (s : State) (H : Heap) : Prop :=
  va_K (gD E) g_cl [] s ∧ (∀ k, k < 8 → ArrOfT s (gdA E k) (g_ty k) ∧ va_RA s (gdA E k) (g_ty k)) ∧
  vx_Zq Bundle.tN "UNASSIGNED_STACK" Bundle.steD (fun q => gb E ≤ q) s H ∧ vx_Zq Bundle.tN "SUPPRESSED_SENTINEL" Bundle.listD (fun q => gb E ≤ q) s H ∧
  (∀ q ∈ g_strs, ∃ sa, vk_R q.1 q.2.1 q.2.2 sa s) ∧ (∀ q ∈ g_nc, va_Nc q.1 q.2 s) ∧ (∀ x ∈ g_bads, va_Nw x s) ∧ (∀ C ∈ g_ao, va_AO C s) ∧
  va_X (gX E).1 (gX E).2.1 (gX E).2.2 s H ∧ (gX E).1 < gb E ∧ gb E ≤ H.size ∧ (gl E).stackTraces = false
theorem g_K.warm {E : gE} {s U : State} {H : Heap} (hW : s.WarmedH U.vm) (h : g_K E s H) : g_K E U H := by
  obtain ⟨h1, h2, h3, h4, h5, h6, h7, h8, h9, h10⟩ := h
  have hA := hW.alike
  exact ⟨va_K.moved hA h1, fun k hk => ⟨arrOfT_moved hA (h2 k hk).1, (h2 k hk).2.moved hA⟩, vx_Zq.moved hA h3, vx_Zq.moved hA h4, fun q hq => (h5 q hq).imp fun sa hs => vk_R.warm hW hs, fun q hq => va_Nc.moved hA (h6 q hq), fun x hx => g_warm (List.mem_filter.mp hx).2 hW (h7 x hx), fun C hC => va_AO.moved hA (h8 C hC), va_X.moved hA h9, h10⟩
theorem g_K.same {E : gE} {s U : State} {H : Heap} (hv : U.vm = s.vm) (h : g_K E s H) : g_K E U H := g_K.warm (by rw [hv]; exact State.WarmedH.refl s) h
theorem g_K.keptH {E : gE} {s : State} {H H1 : Heap} (h : g_K E s H) (hz : H.size ≤ H1.size) (hq : ∀ q : Nat, q < gb E → H1[q]? = H[q]?) : g_K E s H1 := by
  obtain ⟨h1, h2, h3, h4, h5, h6, h7, h8, h9, h10, h11, h12⟩ := h
  have hq' : ∀ a : Nat, a < H.size → ¬ (fun q => gb E ≤ q) a → H1[a]? = H[a]? := fun a _ ha => hq a (Nat.lt_of_not_le ha)
  exact ⟨h1, h2, h3.kept hq', h4.kept hq', h5, h6, h7, h8, h9.kept (hq _ h10), h10, Nat.le_trans h11 hz, h12⟩
def g_w (y : MethodName) (M : gM) : Cond := if M.2.2.2.2.1.isEmpty then .code y M.2.1 M.2.2.1 M.2.2.2.1 else .codeWith y M.2.1 M.2.2.1 M.2.2.2.1 M.2.2.2.2.1
def g_rm (dd mc ms : Nat) : Room := { frames := dd + 8, cells := mc, slots := ms, locals := 100 * dd + 300 }
def g_room (R : Room) (dd MC MS : Nat) : Prop := dd + 8 ≤ R.frames ∧ 100 * dd + 300 ≤ R.locals ∧ MC ≤ R.cells ∧ MS ≤ R.slots
def g_Pc (E : gE) (av : List Value) (w : gW) (im : gIm) : Array Value → State → Prop := fun v U => v = av.toArray ∧ g_Rp E w im U.heap ∧ g_K E U U.heap
def g_Qc (E : gE) (Q : gQ) : Array Value → State → Outcome → State → Prop := fun _ st o t =>
  ∃ v w im, o = .returned v ∧ Q (.inl v) w im ∧ g_Rp E w im t.heap ∧ st.heap.size ≤ t.heap.size ∧ ∀ q : Nat, q < gb E → t.heap[q]? = st.heap[q]?
def g_XC (E : gE) (Q : gQ) : String → State → State → Prop := fun cls st t =>
  ∃ w im, Q (.inr cls) w im ∧ g_Rp E w im t.heap ∧ st.heap.size ≤ t.heap.size ∧ ∀ q : Nat, q < gb E → t.heap[q]? = st.heap[q]?
/-- a method's contract: from the world (w, im), with the arguments av, it ends as Q says; at depth d, with at most mc new cells of ms slots -/
def GM (E : gE) (d : Nat) (y : MethodName) (M : gM) (mc ms : Nat) (av : List Value) (w : gW) (im : gIm) (Q : gQ) : Prop :=
  ∀ dd, d ≤ dd → vx_Met (gl E) y (g_w y M :: g_all) (g_rm dd mc ms) (g_Pc E av w im) (g_Qc E Q) (g_XC E Q) mc ms (fun q => gb E ≤ q)
def g_fix (E : gE) (M : gM) (p : Program) (s : State) (m : MethodId) (args : Array Value) (meth : Method) (c : Code) : Prop :=
  p.tables.exec = Jvm.exec ∧ c.code = M.2.1 ∧ c.maxLocals = M.2.2.1 ∧ s.vm.findClass M.1 = some m.cls ∧ (∀ x ∈ g_all, x.before args s = true) ∧ meth.sig.returnType = M.2.2.2.1 ∧ meth.locks = false ∧ c.exceptionTable.toList = tableOf M.2.2.2.2.1 ∧ (M.2.2.2.2.2 = true → meth.name = "<init>") ∧ g_K E s s.heap
/-- the frame of the method M at pc with locals lv and operand stack st, in the world (w, im), with kc cells and ks slots left: it ends as Q says -/
def G (E : gE) (d : Nat) (M : gM) (pc : Nat) (lv : List (Nat × Value)) (st : List Value) (w : gW) (im : gIm) (kc ks : Nat) (Q : gQ) : Prop :=
  ∀ (p : Program) (e : Env) (R : Room) (s : State) (m : MethodId) (args : Array Value) (below : List Frame) (meth : Method) (c : Code) (H : Heap) (locs : List Loc) (ls : Array Slot) (cells slots MC MS dd : Nat),
    d ≤ dd → g_fix E M p s m args meth c → g_room R dd MC MS → lv_has ls M.2.2.1 lv → g_Rp E w im H → va_S (fun q => gb E ≤ q) s.heap H locs → cells + kc ≤ MC → slots + ks ≤ MS →
    W p (gl E) e R s m args below meth c H locs cells slots (vx_MQ below (g_Qc E Q) (g_XC E Q) args s MC MS (fun q => gb E ≤ q)) (F0 m pc ls st)
theorem GM.mono {E : gE} {d d' : Nat} {y : MethodName} {M : gM} {mc ms : Nat} {av : List Value} {w : gW} {im : gIm} {Q : gQ} (h : GM E d y M mc ms av w im Q) (hd : d ≤ d') : GM E d' y M mc ms av w im Q := fun dd hdd => h dd (Nat.le_trans hd hdd)
section GR
variable {E : gE} {d : Nat} {M : gM} {pc : Nat} {lv : List (Nat × Value)} {st : List Value} {w : gW} {im : gIm} {kc ks : Nat} {Q : gQ}
theorem g_frame {s : State} {H : Heap} {locs : List Loc} (hS : va_S (fun q => gb E ≤ q) s.heap H locs) (hb : gb E ≤ s.heap.size) : s.heap.size ≤ H.size ∧ ∀ q : Nat, q < gb E → H[q]? = s.heap[q]? :=
  ⟨hS.1, fun q hq => hS.2.1 q (Nat.lt_of_lt_of_le hq hb) (Nat.not_le.mpr hq)⟩
/-- the entry of a method without handlers -/
theorem g_entry {y : MethodName} {mc ms : Nat} {av : List Value} (hy : plainName y.cls = true) (hown : M.1 = y.cls) (hh : M.2.2.2.2.1 = []) (hi : M.2.2.2.2.2 = true → y.name = "<init>") (hn : (lg_sl av).length ≤ M.2.2.1) (k : G E d M 0 (lv_args 0 av) [] w im mc ms Q) : GM E d y M mc ms av w im Q := by
  intro dd hdd
  refine vx_ofW (cc := M.2.1) (maxL := M.2.2.1) (ret := M.2.2.2.1) (ws' := g_all) hy (by simp [g_w, hh]) ?_
  intro p e s m args below meth c s₁ B hml htb hv
  obtain ⟨rfl, hP, hK⟩ := hv
  have hts := atoms_spec (ws := g_w y M :: g_all) B.pre
  have hin := (name_of_methodNamed B.named B.method).1
  have hl := lv_entry av (n := M.2.2.1) hn
  rw [lg_entry_eq]
  exact k p e (g_rm dd mc ms) s m _ below meth c s.heap [] _ 0 0 mc ms dd hdd ⟨B.exec, B.bytes, hml, by rw [hown]; exact findClass_of_methodNamed B.named, fun x hx => hts x (List.mem_cons_of_mem _ hx), B.returns, B.notSynchronized, by rw [hh]; exact (List.eq_nil_iff_forall_not_mem.mpr fun x hx => htb x hx).trans rfl, fun h => hin.trans (hi h), hK⟩ ⟨Nat.le_refl _, Nat.le_refl _, Nat.le_refl _, Nat.le_refl _⟩ hl hP va_S.rf (by omega) (by omega)
/-- the entry of a method with handlers -/
theorem g_entryH {y : MethodName} {mc ms : Nat} {av : List Value} (hy : plainName y.cls = true) (hown : M.1 = y.cls) (hh : M.2.2.2.2.1.isEmpty = false) (hi : M.2.2.2.2.2 = true → y.name = "<init>") (hn : (lg_sl av).length ≤ M.2.2.1) (k : G E d M 0 (lv_args 0 av) [] w im mc ms Q) : GM E d y M mc ms av w im Q := by
  intro dd hdd
  have hw : g_w y M = .codeWith y M.2.1 M.2.2.1 M.2.2.2.1 M.2.2.2.2.1 := by simp [g_w, hh]
  refine vx_ofWH (cc := M.2.1) (maxL := M.2.2.1) (ret := M.2.2.2.1) (hh := M.2.2.2.2.1) (ws' := g_all) hy (by rw [hw]) ?_
  intro p e s m args below meth c s₁ B hml hv
  obtain ⟨rfl, hP, hK⟩ := hv
  have hts := atoms_spec (ws := g_w y M :: g_all) B.pre
  have hin := (name_of_methodNamed B.named B.method).1
  have hl := lv_entry av (n := M.2.2.1) hn
  have htb := vx_table (x := y) B (hw ▸ hts _ List.mem_cons_self)
  rw [lg_entry_eq]
  exact k p e (g_rm dd mc ms) s m _ below meth c s.heap [] _ 0 0 mc ms dd hdd ⟨B.exec, B.bytes, hml, by rw [hown]; exact findClass_of_methodNamed B.named, fun x hx => hts x (List.mem_cons_of_mem _ hx), B.returns, B.notSynchronized, htb, fun h => hin.trans (hi h), hK⟩ ⟨Nat.le_refl _, Nat.le_refl _, Nat.le_refl _, Nat.le_refl _⟩ hl hP va_S.rf (by omega) (by omega)
/-- fewer locals, less room, another post -/
theorem G.loc {lv' : List (Nat × Value)} (h : ∀ q ∈ lv', q ∈ lv) (k : G E d M pc lv' st w im kc ks Q) : G E d M pc lv st w im kc ks Q :=
  fun p e R s m args below meth c H locs ls cells slots MC MS dd hdd hf hR hl hP hS hc hs => k p e R s m args below meth c H locs ls cells slots MC MS dd hdd hf hR ⟨hl.1, hl.2.1, fun q hq => hl.2.2 q (h q hq)⟩ hP hS hc hs
theorem G.less {kc' ks' : Nat} (h1 : kc' ≤ kc) (h2 : ks' ≤ ks) (k : G E d M pc lv st w im kc' ks' Q) : G E d M pc lv st w im kc ks Q :=
  fun p e R s m args below meth c H locs ls cells slots MC MS dd hdd hf hR hl hP hS hc hs => k p e R s m args below meth c H locs ls cells slots MC MS dd hdd hf hR hl hP hS (by omega) (by omega)
theorem vx_MQ.mono {below : List Frame} {args : Array Value} {s t : State} {MC MS : Nat} {free : Addr → Prop} {Q Q' : gQ} (h : ∀ o w im, Q o w im → Q' o w im) (k : vx_MQ below (g_Qc E Q) (g_XC E Q) args s MC MS free t) : vx_MQ below (g_Qc E Q') (g_XC E Q') args s MC MS free t := by
  obtain ⟨o, b1, b2, b3⟩ := k
  refine ⟨o, b1, b2, ?_⟩
  rcases b3 with ⟨⟨v, w, im, h1, h2, h3⟩, h4⟩ | ⟨q, h1, X, ce, L, ⟨w, im, h2, h3⟩, h4⟩
  · exact Or.inl ⟨⟨v, w, im, h1, h _ _ _ h2, h3⟩, h4⟩
  · exact Or.inr ⟨q, h1, X, ce, L, ⟨w, im, h _ _ _ h2, h3⟩, h4⟩
theorem G.mono {Q' : gQ} (h : ∀ o w im, Q o w im → Q' o w im) (k : G E d M pc lv st w im kc ks Q) : G E d M pc lv st w im kc ks Q' := by
  intro p e R s m args below meth c H locs ls cells slots MC MS dd hdd hf hR hl hP hS hc hs T hT X
  obtain ⟨t, a, b⟩ := k p e R s m args below meth c H locs ls cells slots MC MS dd hdd hf hR hl hP hS hc hs T hT X
  exact ⟨t, a, vx_MQ.mono h b⟩

theorem g_iconst {n : Int} {v : Int32} (hv : Int32.ofInt n = v) (hd : decode M.2.1 pc = .ok (.iconst n, 1))
    (k : G E d M (pc + 1) (lv) (.int v :: st) (w) (im) (kc) (ks) Q) : G E d M (pc) (lv) (st) (w) (im) (kc) (ks) Q := by
  intro p e R s m args below meth c H locs ls cells slots MC MS dd hdd hf hR hl hP hS hc hs
  exact lv_iconst hf.1 hf.2.1 hd hv (k p e R s m args below meth c H locs ls cells slots MC MS dd hdd hf hR hl hP hS hc hs)
theorem g_bipush {n : Int} {v : Int32} (hv : (Int8.ofInt n).toInt32 = v) (hd : decode M.2.1 pc = .ok (.bipush n, 2))
    (k : G E d M (pc + 2) (lv) (.int v :: st) (w) (im) (kc) (ks) Q) : G E d M (pc) (lv) (st) (w) (im) (kc) (ks) Q := by
  intro p e R s m args below meth c H locs ls cells slots MC MS dd hdd hf hR hl hP hS hc hs
  exact lv_bipush hf.1 hf.2.1 hd hv (k p e R s m args below meth c H locs ls cells slots MC MS dd hdd hf hR hl hP hS hc hs)
theorem g_sipush {n : Int} {v : Int32} (hv : (Int16.ofInt n).toInt32 = v) (hd : decode M.2.1 pc = .ok (.sipush n, 3))
    (k : G E d M (pc + 3) (lv) (.int v :: st) (w) (im) (kc) (ks) Q) : G E d M (pc) (lv) (st) (w) (im) (kc) (ks) Q := by
  intro p e R s m args below meth c H locs ls cells slots MC MS dd hdd hf hR hl hP hS hc hs
  exact lv_sipush hf.1 hf.2.1 hd hv (k p e R s m args below meth c H locs ls cells slots MC MS dd hdd hf hR hl hP hS hc hs)
theorem g_lconst {n : Fin 2} {v : Int64} (hv : Int64.ofNat (n : Nat) = v) (hd : decode M.2.1 pc = .ok (.lconst n, 1))
    (k : G E d M (pc + 1) (lv) (.long v :: st) (w) (im) (kc) (ks) Q) : G E d M (pc) (lv) (st) (w) (im) (kc) (ks) Q := by
  intro p e R s m args below meth c H locs ls cells slots MC MS dd hdd hf hR hl hP hS hc hs
  exact lv_lconst hf.1 hf.2.1 hd hv (k p e R s m args below meth c H locs ls cells slots MC MS dd hdd hf hR hl hP hS hc hs)
theorem g_fconst0  (hd : decode M.2.1 pc = .ok (.fconst 0, 1))
    (k : G E d M (pc + 1) (lv) (.float FP.fconst0 :: st) (w) (im) (kc) (ks) Q) : G E d M (pc) (lv) (st) (w) (im) (kc) (ks) Q := by
  intro p e R s m args below meth c H locs ls cells slots MC MS dd hdd hf hR hl hP hS hc hs
  exact lv_fconst0 hf.1 hf.2.1 hd (k p e R s m args below meth c H locs ls cells slots MC MS dd hdd hf hR hl hP hS hc hs)
theorem g_dconst0  (hd : decode M.2.1 pc = .ok (.dconst 0, 1))
    (k : G E d M (pc + 1) (lv) (.double FP.dconst0 :: st) (w) (im) (kc) (ks) Q) : G E d M (pc) (lv) (st) (w) (im) (kc) (ks) Q := by
  intro p e R s m args below meth c H locs ls cells slots MC MS dd hdd hf hR hl hP hS hc hs
  exact lv_dconst0 hf.1 hf.2.1 hd (k p e R s m args below meth c H locs ls cells slots MC MS dd hdd hf hR hl hP hS hc hs)
theorem g_null  (hd : decode M.2.1 pc = .ok (.aconst_null, 1))
    (k : G E d M (pc + 1) (lv) (.null :: st) (w) (im) (kc) (ks) Q) : G E d M (pc) (lv) (st) (w) (im) (kc) (ks) Q := by
  intro p e R s m args below meth c H locs ls cells slots MC MS dd hdd hf hR hl hP hS hc hs
  exact lv_null hf.1 hf.2.1 hd (k p e R s m args below meth c H locs ls cells slots MC MS dd hdd hf hR hl hP hS hc hs)
theorem g_look {lv : List (Nat × Value)} {ls : Array Slot} {nL i : Nat} {v : Value} (hl : lv_has ls nL lv) (hq : lv.lookup i = some v) : ls[i]? = some (.val v) := by
  refine hl.2.2 (i, v) ?_
  clear hl
  induction lv with
  | nil => simp at hq
  | cons x xs ih =>
    rw [List.lookup_cons] at hq
    by_cases e : i == x.1
    · simp only [e] at hq
      cases hq
      have : i = x.1 := by simpa using e
      rw [this]
      exact List.mem_cons_self
    · simp only [e] at hq
      exact List.mem_cons_of_mem _ (ih hq)

theorem g_iload {i : Nat} {x : Int32} (hq : lv.lookup i = some (.int x)) (hd : decode M.2.1 pc = .ok (.iload i, 2))
    (k : G E d M (pc + 2) (lv) (.int x :: st) (w) (im) (kc) (ks) Q) : G E d M (pc) (lv) (st) (w) (im) (kc) (ks) Q := by
  intro p e R s m args below meth c H locs ls cells slots MC MS dd hdd hf hR hl hP hS hc hs
  exact lv_iload hf.1 hf.2.1 hd (g_look hl hq) (k p e R s m args below meth c H locs ls cells slots MC MS dd hdd hf hR hl hP hS hc hs)
theorem g_iload_n {n : Fin 4} {i : Nat} {x : Int32} (hi : (n : Nat) = i) (hq : lv.lookup i = some (.int x)) (hd : decode M.2.1 pc = .ok (.iload_n n, 1))
    (k : G E d M (pc + 1) (lv) (.int x :: st) (w) (im) (kc) (ks) Q) : G E d M (pc) (lv) (st) (w) (im) (kc) (ks) Q := by
  intro p e R s m args below meth c H locs ls cells slots MC MS dd hdd hf hR hl hP hS hc hs
  exact lv_iload_n hf.1 hf.2.1 hd hi (g_look hl hq) (k p e R s m args below meth c H locs ls cells slots MC MS dd hdd hf hR hl hP hS hc hs)
theorem g_aload {i : Nat} {x : Nat} (hq : lv.lookup i = some (.ref x)) (hd : decode M.2.1 pc = .ok (.aload i, 2))
    (k : G E d M (pc + 2) (lv) (.ref x :: st) (w) (im) (kc) (ks) Q) : G E d M (pc) (lv) (st) (w) (im) (kc) (ks) Q := by
  intro p e R s m args below meth c H locs ls cells slots MC MS dd hdd hf hR hl hP hS hc hs
  exact lv_aload hf.1 hf.2.1 hd (g_look hl hq) (k p e R s m args below meth c H locs ls cells slots MC MS dd hdd hf hR hl hP hS hc hs)
theorem g_aload_n {n : Fin 4} {i : Nat} {x : Nat} (hi : (n : Nat) = i) (hq : lv.lookup i = some (.ref x)) (hd : decode M.2.1 pc = .ok (.aload_n n, 1))
    (k : G E d M (pc + 1) (lv) (.ref x :: st) (w) (im) (kc) (ks) Q) : G E d M (pc) (lv) (st) (w) (im) (kc) (ks) Q := by
  intro p e R s m args below meth c H locs ls cells slots MC MS dd hdd hf hR hl hP hS hc hs
  exact lv_aload_n hf.1 hf.2.1 hd hi (g_look hl hq) (k p e R s m args below meth c H locs ls cells slots MC MS dd hdd hf hR hl hP hS hc hs)
theorem g_fload {i : Nat} {x : UInt32} (hq : lv.lookup i = some (.float x)) (hd : decode M.2.1 pc = .ok (.fload i, 2))
    (k : G E d M (pc + 2) (lv) (.float x :: st) (w) (im) (kc) (ks) Q) : G E d M (pc) (lv) (st) (w) (im) (kc) (ks) Q := by
  intro p e R s m args below meth c H locs ls cells slots MC MS dd hdd hf hR hl hP hS hc hs
  exact lv_fload hf.1 hf.2.1 hd (g_look hl hq) (k p e R s m args below meth c H locs ls cells slots MC MS dd hdd hf hR hl hP hS hc hs)
theorem g_fload_n {n : Fin 4} {i : Nat} {x : UInt32} (hi : (n : Nat) = i) (hq : lv.lookup i = some (.float x)) (hd : decode M.2.1 pc = .ok (.fload_n n, 1))
    (k : G E d M (pc + 1) (lv) (.float x :: st) (w) (im) (kc) (ks) Q) : G E d M (pc) (lv) (st) (w) (im) (kc) (ks) Q := by
  intro p e R s m args below meth c H locs ls cells slots MC MS dd hdd hf hR hl hP hS hc hs
  exact lv_fload_n hf.1 hf.2.1 hd hi (g_look hl hq) (k p e R s m args below meth c H locs ls cells slots MC MS dd hdd hf hR hl hP hS hc hs)
theorem g_dload {i : Nat} {x : UInt64} (hq : lv.lookup i = some (.double x)) (hd : decode M.2.1 pc = .ok (.dload i, 2))
    (k : G E d M (pc + 2) (lv) (.double x :: st) (w) (im) (kc) (ks) Q) : G E d M (pc) (lv) (st) (w) (im) (kc) (ks) Q := by
  intro p e R s m args below meth c H locs ls cells slots MC MS dd hdd hf hR hl hP hS hc hs
  exact lv_dload hf.1 hf.2.1 hd (g_look hl hq) (k p e R s m args below meth c H locs ls cells slots MC MS dd hdd hf hR hl hP hS hc hs)
theorem g_dload_n {n : Fin 4} {i : Nat} {x : UInt64} (hi : (n : Nat) = i) (hq : lv.lookup i = some (.double x)) (hd : decode M.2.1 pc = .ok (.dload_n n, 1))
    (k : G E d M (pc + 1) (lv) (.double x :: st) (w) (im) (kc) (ks) Q) : G E d M (pc) (lv) (st) (w) (im) (kc) (ks) Q := by
  intro p e R s m args below meth c H locs ls cells slots MC MS dd hdd hf hR hl hP hS hc hs
  exact lv_dload_n hf.1 hf.2.1 hd hi (g_look hl hq) (k p e R s m args below meth c H locs ls cells slots MC MS dd hdd hf hR hl hP hS hc hs)
theorem g_lload {i : Nat} {x : Int64} (hq : lv.lookup i = some (.long x)) (hd : decode M.2.1 pc = .ok (.lload i, 2))
    (k : G E d M (pc + 2) (lv) (.long x :: st) (w) (im) (kc) (ks) Q) : G E d M (pc) (lv) (st) (w) (im) (kc) (ks) Q := by
  intro p e R s m args below meth c H locs ls cells slots MC MS dd hdd hf hR hl hP hS hc hs
  exact lv_lload hf.1 hf.2.1 hd (g_look hl hq) (k p e R s m args below meth c H locs ls cells slots MC MS dd hdd hf hR hl hP hS hc hs)
theorem g_lload_n {n : Fin 4} {i : Nat} {x : Int64} (hi : (n : Nat) = i) (hq : lv.lookup i = some (.long x)) (hd : decode M.2.1 pc = .ok (.lload_n n, 1))
    (k : G E d M (pc + 1) (lv) (.long x :: st) (w) (im) (kc) (ks) Q) : G E d M (pc) (lv) (st) (w) (im) (kc) (ks) Q := by
  intro p e R s m args below meth c H locs ls cells slots MC MS dd hdd hf hR hl hP hS hc hs
  exact lv_lload_n hf.1 hf.2.1 hd hi (g_look hl hq) (k p e R s m args below meth c H locs ls cells slots MC MS dd hdd hf hR hl hP hS hc hs)
theorem g_aloadN {i : Nat} (hq : lv.lookup i = some (.null)) (hd : decode M.2.1 pc = .ok (.aload i, 2))
    (k : G E d M (pc + 2) (lv) (.null :: st) (w) (im) (kc) (ks) Q) : G E d M (pc) (lv) (st) (w) (im) (kc) (ks) Q := by
  intro p e R s m args below meth c H locs ls cells slots MC MS dd hdd hf hR hl hP hS hc hs
  exact lv_aloadN hf.1 hf.2.1 hd (g_look hl hq) (k p e R s m args below meth c H locs ls cells slots MC MS dd hdd hf hR hl hP hS hc hs)
theorem g_aloadN_n {n : Fin 4} {i : Nat} (hi : (n : Nat) = i) (hq : lv.lookup i = some (.null)) (hd : decode M.2.1 pc = .ok (.aload_n n, 1))
    (k : G E d M (pc + 1) (lv) (.null :: st) (w) (im) (kc) (ks) Q) : G E d M (pc) (lv) (st) (w) (im) (kc) (ks) Q := by
  intro p e R s m args below meth c H locs ls cells slots MC MS dd hdd hf hR hl hP hS hc hs
  exact lv_aload_nN hf.1 hf.2.1 hd hi (g_look hl hq) (k p e R s m args below meth c H locs ls cells slots MC MS dd hdd hf hR hl hP hS hc hs)
/-- a store into one slot -/
def g_st1 (lv : List (Nat × Value)) (i : Nat) (v : Value) : List (Nat × Value) := (i, v) :: lv.filter (fun q => !(q.1 == i) && !(q.1 + 1 == i && q.2.category == 2))
/-- a store into two slots -/
def g_st2 (lv : List (Nat × Value)) (i : Nat) (v : Value) : List (Nat × Value) := (i, v) :: lv.filter (fun q => !(q.1 == i) && (!(q.1 == i + 1) && !(q.1 + 1 == i && q.2.category == 2)))

theorem g_istore {i : Nat} {x : Int32} {lv' : List (Nat × Value)} (hn : i < M.2.2.1) (hv : g_st1 lv i (.int x) = lv') (hd : decode M.2.1 pc = .ok (.istore i, 2))
    (k : G E d M (pc + 2) (lv') (st) (w) (im) (kc) (ks) Q) : G E d M (pc) (lv) (.int x :: st) (w) (im) (kc) (ks) Q := by
  intro p e R s m args below meth c H locs ls cells slots MC MS dd hdd hf hR hl hP hS hc hs
  exact lv_istore hf.1 hf.2.1 hd hl hn hv (fun ls hl => (k p e R s m args below meth c H locs ls cells slots MC MS dd hdd hf hR hl hP hS hc hs))
theorem g_istore_n {n : Fin 4} {i : Nat} {x : Int32} {lv' : List (Nat × Value)} (hi : (n : Nat) = i) (hn : i < M.2.2.1) (hv : g_st1 lv i (.int x) = lv') (hd : decode M.2.1 pc = .ok (.istore_n n, 1))
    (k : G E d M (pc + 1) (lv') (st) (w) (im) (kc) (ks) Q) : G E d M (pc) (lv) (.int x :: st) (w) (im) (kc) (ks) Q := by
  intro p e R s m args below meth c H locs ls cells slots MC MS dd hdd hf hR hl hP hS hc hs
  exact lv_istore_n hf.1 hf.2.1 hd hi hl hn hv (fun ls hl => (k p e R s m args below meth c H locs ls cells slots MC MS dd hdd hf hR hl hP hS hc hs))
theorem g_astore {i : Nat} {x : Nat} {lv' : List (Nat × Value)} (hn : i < M.2.2.1) (hv : g_st1 lv i (.ref x) = lv') (hd : decode M.2.1 pc = .ok (.astore i, 2))
    (k : G E d M (pc + 2) (lv') (st) (w) (im) (kc) (ks) Q) : G E d M (pc) (lv) (.ref x :: st) (w) (im) (kc) (ks) Q := by
  intro p e R s m args below meth c H locs ls cells slots MC MS dd hdd hf hR hl hP hS hc hs
  exact lv_astore hf.1 hf.2.1 hd hl hn hv (fun ls hl => (k p e R s m args below meth c H locs ls cells slots MC MS dd hdd hf hR hl hP hS hc hs))
theorem g_astore_n {n : Fin 4} {i : Nat} {x : Nat} {lv' : List (Nat × Value)} (hi : (n : Nat) = i) (hn : i < M.2.2.1) (hv : g_st1 lv i (.ref x) = lv') (hd : decode M.2.1 pc = .ok (.astore_n n, 1))
    (k : G E d M (pc + 1) (lv') (st) (w) (im) (kc) (ks) Q) : G E d M (pc) (lv) (.ref x :: st) (w) (im) (kc) (ks) Q := by
  intro p e R s m args below meth c H locs ls cells slots MC MS dd hdd hf hR hl hP hS hc hs
  exact lv_astore_n hf.1 hf.2.1 hd hi hl hn hv (fun ls hl => (k p e R s m args below meth c H locs ls cells slots MC MS dd hdd hf hR hl hP hS hc hs))
theorem g_fstore {i : Nat} {x : UInt32} {lv' : List (Nat × Value)} (hn : i < M.2.2.1) (hv : g_st1 lv i (.float x) = lv') (hd : decode M.2.1 pc = .ok (.fstore i, 2))
    (k : G E d M (pc + 2) (lv') (st) (w) (im) (kc) (ks) Q) : G E d M (pc) (lv) (.float x :: st) (w) (im) (kc) (ks) Q := by
  intro p e R s m args below meth c H locs ls cells slots MC MS dd hdd hf hR hl hP hS hc hs
  exact lv_fstore hf.1 hf.2.1 hd hl hn hv (fun ls hl => (k p e R s m args below meth c H locs ls cells slots MC MS dd hdd hf hR hl hP hS hc hs))
theorem g_fstore_n {n : Fin 4} {i : Nat} {x : UInt32} {lv' : List (Nat × Value)} (hi : (n : Nat) = i) (hn : i < M.2.2.1) (hv : g_st1 lv i (.float x) = lv') (hd : decode M.2.1 pc = .ok (.fstore_n n, 1))
    (k : G E d M (pc + 1) (lv') (st) (w) (im) (kc) (ks) Q) : G E d M (pc) (lv) (.float x :: st) (w) (im) (kc) (ks) Q := by
  intro p e R s m args below meth c H locs ls cells slots MC MS dd hdd hf hR hl hP hS hc hs
  exact lv_fstore_n hf.1 hf.2.1 hd hi hl hn hv (fun ls hl => (k p e R s m args below meth c H locs ls cells slots MC MS dd hdd hf hR hl hP hS hc hs))
theorem g_dstore {i : Nat} {x : UInt64} {lv' : List (Nat × Value)} (hn : i + 1 < M.2.2.1) (hv : g_st2 lv i (.double x) = lv') (hd : decode M.2.1 pc = .ok (.dstore i, 2))
    (k : G E d M (pc + 2) (lv') (st) (w) (im) (kc) (ks) Q) : G E d M (pc) (lv) (.double x :: st) (w) (im) (kc) (ks) Q := by
  intro p e R s m args below meth c H locs ls cells slots MC MS dd hdd hf hR hl hP hS hc hs
  exact lv_dstore hf.1 hf.2.1 hd hl hn hv (fun ls hl => (k p e R s m args below meth c H locs ls cells slots MC MS dd hdd hf hR hl hP hS hc hs))
theorem g_dstore_n {n : Fin 4} {i : Nat} {x : UInt64} {lv' : List (Nat × Value)} (hi : (n : Nat) = i) (hn : i + 1 < M.2.2.1) (hv : g_st2 lv i (.double x) = lv') (hd : decode M.2.1 pc = .ok (.dstore_n n, 1))
    (k : G E d M (pc + 1) (lv') (st) (w) (im) (kc) (ks) Q) : G E d M (pc) (lv) (.double x :: st) (w) (im) (kc) (ks) Q := by
  intro p e R s m args below meth c H locs ls cells slots MC MS dd hdd hf hR hl hP hS hc hs
  exact lv_dstore_n hf.1 hf.2.1 hd hi hl hn hv (fun ls hl => (k p e R s m args below meth c H locs ls cells slots MC MS dd hdd hf hR hl hP hS hc hs))
theorem g_astoreN {i : Nat} {lv' : List (Nat × Value)} (hn : i < M.2.2.1) (hv : g_st1 lv i .null = lv') (hd : decode M.2.1 pc = .ok (.astore i, 2))
    (k : G E d M (pc + 2) (lv') (st) (w) (im) (kc) (ks) Q) : G E d M (pc) (lv) (.null :: st) (w) (im) (kc) (ks) Q := by
  intro p e R s m args below meth c H locs ls cells slots MC MS dd hdd hf hR hl hP hS hc hs
  exact lv_astoreN hf.1 hf.2.1 hd hl hn hv (fun ls hl => (k p e R s m args below meth c H locs ls cells slots MC MS dd hdd hf hR hl hP hS hc hs))
theorem g_astoreN_n {n : Fin 4} {i : Nat} {lv' : List (Nat × Value)} (hi : (n : Nat) = i) (hn : i < M.2.2.1) (hv : g_st1 lv i .null = lv') (hd : decode M.2.1 pc = .ok (.astore_n n, 1))
    (k : G E d M (pc + 1) (lv') (st) (w) (im) (kc) (ks) Q) : G E d M (pc) (lv) (.null :: st) (w) (im) (kc) (ks) Q := by
  intro p e R s m args below meth c H locs ls cells slots MC MS dd hdd hf hR hl hP hS hc hs
  exact lv_astore_nN hf.1 hf.2.1 hd hi hl hn hv (fun ls hl => (k p e R s m args below meth c H locs ls cells slots MC MS dd hdd hf hR hl hP hS hc hs))
theorem g_has_look {lv : List (Nat × Value)} {i : Nat} {v : Value} (hq : lv.lookup i = some v) : ∃ k : Nat, lv[k]? = some (i, v) := by
  induction lv with
  | nil => simp at hq
  | cons x xs ih =>
    rw [List.lookup_cons] at hq
    by_cases e : i == x.1
    · simp only [e] at hq
      cases hq
      exact ⟨0, by simp only [List.getElem?_cons_zero]; rw [show i = x.1 by simpa using e]⟩
    · simp only [e] at hq
      obtain ⟨k, hk⟩ := ih hq
      exact ⟨k + 1, by simpa using hk⟩

theorem g_iinc {i : Nat} {n : Int} {x v : Int32} {lv' : List (Nat × Value)} (hq : lv.lookup i = some (.int x)) (hx : x + Int32.ofInt n = v) (hn : i < M.2.2.1) (hv : g_st1 lv i (.int v) = lv') (hd : decode M.2.1 pc = .ok (.iinc i n, 3))
    (k : G E d M (pc + 3) (lv') (st) (w) (im) (kc) (ks) Q) : G E d M (pc) (lv) (st) (w) (im) (kc) (ks) Q := by
  intro p e R s m args below meth c H locs ls cells slots MC MS dd hdd hf hR hl hP hS hc hs
  obtain ⟨k9, hk9⟩ := g_has_look hq
  exact lv_iinc hf.1 hf.2.1 hd hl hk9 hx hn hv (fun ls hl => (k p e R s m args below meth c H locs ls cells slots MC MS dd hdd hf hR hl hP hS hc hs))
theorem g_iadd {x y : Int32} (hd : decode M.2.1 pc = .ok (.iadd, 1))
    (k : G E d M (pc + 1) (lv) (.int (x + y) :: st) (w) (im) (kc) (ks) Q) : G E d M (pc) (lv) (.int y :: .int x :: st) (w) (im) (kc) (ks) Q := by
  intro p e R s m args below meth c H locs ls cells slots MC MS dd hdd hf hR hl hP hS hc hs
  exact lv_iadd hf.1 hf.2.1 hd (k p e R s m args below meth c H locs ls cells slots MC MS dd hdd hf hR hl hP hS hc hs)
theorem g_isub {x y : Int32} (hd : decode M.2.1 pc = .ok (.isub, 1))
    (k : G E d M (pc + 1) (lv) (.int (x - y) :: st) (w) (im) (kc) (ks) Q) : G E d M (pc) (lv) (.int y :: .int x :: st) (w) (im) (kc) (ks) Q := by
  intro p e R s m args below meth c H locs ls cells slots MC MS dd hdd hf hR hl hP hS hc hs
  exact lv_isub hf.1 hf.2.1 hd (k p e R s m args below meth c H locs ls cells slots MC MS dd hdd hf hR hl hP hS hc hs)
theorem g_imul {x y : Int32} (hd : decode M.2.1 pc = .ok (.imul, 1))
    (k : G E d M (pc + 1) (lv) (.int (x * y) :: st) (w) (im) (kc) (ks) Q) : G E d M (pc) (lv) (.int y :: .int x :: st) (w) (im) (kc) (ks) Q := by
  intro p e R s m args below meth c H locs ls cells slots MC MS dd hdd hf hR hl hP hS hc hs
  exact lv_imul hf.1 hf.2.1 hd (k p e R s m args below meth c H locs ls cells slots MC MS dd hdd hf hR hl hP hS hc hs)
theorem g_iand {x y : Int32} (hd : decode M.2.1 pc = .ok (.iand, 1))
    (k : G E d M (pc + 1) (lv) (.int (x &&& y) :: st) (w) (im) (kc) (ks) Q) : G E d M (pc) (lv) (.int y :: .int x :: st) (w) (im) (kc) (ks) Q := by
  intro p e R s m args below meth c H locs ls cells slots MC MS dd hdd hf hR hl hP hS hc hs
  exact lv_iand hf.1 hf.2.1 hd (k p e R s m args below meth c H locs ls cells slots MC MS dd hdd hf hR hl hP hS hc hs)
theorem g_ior {x y : Int32} (hd : decode M.2.1 pc = .ok (.ior, 1))
    (k : G E d M (pc + 1) (lv) (.int (x ||| y) :: st) (w) (im) (kc) (ks) Q) : G E d M (pc) (lv) (.int y :: .int x :: st) (w) (im) (kc) (ks) Q := by
  intro p e R s m args below meth c H locs ls cells slots MC MS dd hdd hf hR hl hP hS hc hs
  exact lv_ior hf.1 hf.2.1 hd (k p e R s m args below meth c H locs ls cells slots MC MS dd hdd hf hR hl hP hS hc hs)
theorem g_ixor {x y : Int32} (hd : decode M.2.1 pc = .ok (.ixor, 1))
    (k : G E d M (pc + 1) (lv) (.int (x ^^^ y) :: st) (w) (im) (kc) (ks) Q) : G E d M (pc) (lv) (.int y :: .int x :: st) (w) (im) (kc) (ks) Q := by
  intro p e R s m args below meth c H locs ls cells slots MC MS dd hdd hf hR hl hP hS hc hs
  exact lv_ixor hf.1 hf.2.1 hd (k p e R s m args below meth c H locs ls cells slots MC MS dd hdd hf hR hl hP hS hc hs)
theorem g_idiv {x y : Int32} (hne : ¬ y = 0) (hd : decode M.2.1 pc = .ok (.idiv, 1))
    (k : G E d M (pc + 1) (lv) (.int (x / y) :: st) (w) (im) (kc) (ks) Q) : G E d M (pc) (lv) (.int y :: .int x :: st) (w) (im) (kc) (ks) Q := by
  intro p e R s m args below meth c H locs ls cells slots MC MS dd hdd hf hR hl hP hS hc hs
  exact lv_idiv hf.1 hf.2.1 hd hne (k p e R s m args below meth c H locs ls cells slots MC MS dd hdd hf hR hl hP hS hc hs)
theorem g_irem {x y : Int32} (hne : ¬ y = 0) (hd : decode M.2.1 pc = .ok (.irem, 1))
    (k : G E d M (pc + 1) (lv) (.int (x - x / y * y) :: st) (w) (im) (kc) (ks) Q) : G E d M (pc) (lv) (.int y :: .int x :: st) (w) (im) (kc) (ks) Q := by
  intro p e R s m args below meth c H locs ls cells slots MC MS dd hdd hf hR hl hP hS hc hs
  exact lv_irem hf.1 hf.2.1 hd hne (k p e R s m args below meth c H locs ls cells slots MC MS dd hdd hf hR hl hP hS hc hs)
theorem g_ineg {x : Int32} (hd : decode M.2.1 pc = .ok (.ineg, 1))
    (k : G E d M (pc + 1) (lv) (.int (0 - x) :: st) (w) (im) (kc) (ks) Q) : G E d M (pc) (lv) (.int x :: st) (w) (im) (kc) (ks) Q := by
  intro p e R s m args below meth c H locs ls cells slots MC MS dd hdd hf hR hl hP hS hc hs
  exact lv_ineg hf.1 hf.2.1 hd (k p e R s m args below meth c H locs ls cells slots MC MS dd hdd hf hR hl hP hS hc hs)
theorem g_ishl {x y : Int32} (hd : decode M.2.1 pc = .ok (.ishl, 1))
    (k : G E d M (pc + 1) (lv) (.int (x <<< (y &&& 31)) :: st) (w) (im) (kc) (ks) Q) : G E d M (pc) (lv) (.int y :: .int x :: st) (w) (im) (kc) (ks) Q := by
  intro p e R s m args below meth c H locs ls cells slots MC MS dd hdd hf hR hl hP hS hc hs
  exact lv_ishl hf.1 hf.2.1 hd (k p e R s m args below meth c H locs ls cells slots MC MS dd hdd hf hR hl hP hS hc hs)
theorem g_ishr {x y : Int32} (hd : decode M.2.1 pc = .ok (.ishr, 1))
    (k : G E d M (pc + 1) (lv) (.int (x >>> (y &&& 31)) :: st) (w) (im) (kc) (ks) Q) : G E d M (pc) (lv) (.int y :: .int x :: st) (w) (im) (kc) (ks) Q := by
  intro p e R s m args below meth c H locs ls cells slots MC MS dd hdd hf hR hl hP hS hc hs
  exact lv_ishr hf.1 hf.2.1 hd (k p e R s m args below meth c H locs ls cells slots MC MS dd hdd hf hR hl hP hS hc hs)
theorem g_iushr {x y v : Int32} (hv : (x.toUInt32 >>> (y.toUInt32 &&& Int32.toUInt32 31)).toInt32 = v) (hd : decode M.2.1 pc = .ok (.iushr, 1))
    (k : G E d M (pc + 1) (lv) (.int v :: st) (w) (im) (kc) (ks) Q) : G E d M (pc) (lv) (.int y :: .int x :: st) (w) (im) (kc) (ks) Q := by
  intro p e R s m args below meth c H locs ls cells slots MC MS dd hdd hf hR hl hP hS hc hs
  exact lv_iushr hf.1 hf.2.1 hd hv (k p e R s m args below meth c H locs ls cells slots MC MS dd hdd hf hR hl hP hS hc hs)
theorem g_i2l {x : Int32} (hd : decode M.2.1 pc = .ok (.i2l, 1))
    (k : G E d M (pc + 1) (lv) (.long x.toInt64 :: st) (w) (im) (kc) (ks) Q) : G E d M (pc) (lv) (.int x :: st) (w) (im) (kc) (ks) Q := by
  intro p e R s m args below meth c H locs ls cells slots MC MS dd hdd hf hR hl hP hS hc hs
  exact lv_i2l hf.1 hf.2.1 hd rfl (k p e R s m args below meth c H locs ls cells slots MC MS dd hdd hf hR hl hP hS hc hs)
theorem g_i2c {x v : Int32} (hv : (x.toUInt32 % 65536).toInt32 = v) (hd : decode M.2.1 pc = .ok (.i2c, 1))
    (k : G E d M (pc + 1) (lv) (.int v :: st) (w) (im) (kc) (ks) Q) : G E d M (pc) (lv) (.int x :: st) (w) (im) (kc) (ks) Q := by
  intro p e R s m args below meth c H locs ls cells slots MC MS dd hdd hf hR hl hP hS hc hs
  exact lv_i2c hf.1 hf.2.1 hd hv (k p e R s m args below meth c H locs ls cells slots MC MS dd hdd hf hR hl hP hS hc hs)
theorem g_i2f {x : Int32} (hd : decode M.2.1 pc = .ok (.i2f, 1))
    (k : G E d M (pc + 1) (lv) (.float (FP.i2f x) :: st) (w) (im) (kc) (ks) Q) : G E d M (pc) (lv) (.int x :: st) (w) (im) (kc) (ks) Q := by
  intro p e R s m args below meth c H locs ls cells slots MC MS dd hdd hf hR hl hP hS hc hs
  exact lv_i2f hf.1 hf.2.1 hd (k p e R s m args below meth c H locs ls cells slots MC MS dd hdd hf hR hl hP hS hc hs)
theorem g_i2d {x : Int32} (hd : decode M.2.1 pc = .ok (.i2d, 1))
    (k : G E d M (pc + 1) (lv) (.double (FP.i2d x) :: st) (w) (im) (kc) (ks) Q) : G E d M (pc) (lv) (.int x :: st) (w) (im) (kc) (ks) Q := by
  intro p e R s m args below meth c H locs ls cells slots MC MS dd hdd hf hR hl hP hS hc hs
  exact lv_i2d hf.1 hf.2.1 hd (k p e R s m args below meth c H locs ls cells slots MC MS dd hdd hf hR hl hP hS hc hs)
theorem g_f2d {x : UInt32} (hne : vf_n64 (FP.f2d x)) (hd : decode M.2.1 pc = .ok (.f2d, 1))
    (k : G E d M (pc + 1) (lv) (.double (FP.f2d x) :: st) (w) (im) (kc) (ks) Q) : G E d M (pc) (lv) (.float x :: st) (w) (im) (kc) (ks) Q := by
  intro p e R s m args below meth c H locs ls cells slots MC MS dd hdd hf hR hl hP hS hc hs
  exact lv_f2d hf.1 hf.2.1 hd hne (k p e R s m args below meth c H locs ls cells slots MC MS dd hdd hf hR hl hP hS hc hs)
theorem g_fdiv {x y : UInt32} (hne : vf_n32 (FP.fdiv x y)) (hd : decode M.2.1 pc = .ok (.fdiv, 1))
    (k : G E d M (pc + 1) (lv) (.float (FP.fdiv x y) :: st) (w) (im) (kc) (ks) Q) : G E d M (pc) (lv) (.float y :: .float x :: st) (w) (im) (kc) (ks) Q := by
  intro p e R s m args below meth c H locs ls cells slots MC MS dd hdd hf hR hl hP hS hc hs
  exact lv_fdiv hf.1 hf.2.1 hd hne (k p e R s m args below meth c H locs ls cells slots MC MS dd hdd hf hR hl hP hS hc hs)
theorem g_ddiv {x y : UInt64} (hne : vf_n64 (FP.ddiv x y)) (hd : decode M.2.1 pc = .ok (.ddiv, 1))
    (k : G E d M (pc + 1) (lv) (.double (FP.ddiv x y) :: st) (w) (im) (kc) (ks) Q) : G E d M (pc) (lv) (.double y :: .double x :: st) (w) (im) (kc) (ks) Q := by
  intro p e R s m args below meth c H locs ls cells slots MC MS dd hdd hf hR hl hP hS hc hs
  exact lv_ddiv hf.1 hf.2.1 hd hne (k p e R s m args below meth c H locs ls cells slots MC MS dd hdd hf hR hl hP hS hc hs)
theorem g_lcmp {x y : Int64} (hd : decode M.2.1 pc = .ok (.lcmp, 1))
    (k : G E d M (pc + 1) (lv) (.int (lg_cmp x y) :: st) (w) (im) (kc) (ks) Q) : G E d M (pc) (lv) (.long y :: .long x :: st) (w) (im) (kc) (ks) Q := by
  intro p e R s m args below meth c H locs ls cells slots MC MS dd hdd hf hR hl hP hS hc hs
  exact W.lcmp hf.1 hf.2.1 hd (k p e R s m args below meth c H locs ls cells slots MC MS dd hdd hf hR hl hP hS hc hs)
theorem g_fcmp {x y : UInt32} {op : CmpOp} (hd : decode M.2.1 pc = .ok (.fcmp op, 1))
    (k : G E d M (pc + 1) (lv) (.int (Op.cmpValue (FP.fcmp x y) op) :: st) (w) (im) (kc) (ks) Q) : G E d M (pc) (lv) (.float y :: .float x :: st) (w) (im) (kc) (ks) Q := by
  intro p e R s m args below meth c H locs ls cells slots MC MS dd hdd hf hR hl hP hS hc hs
  exact lv_fcmp hf.1 hf.2.1 hd (k p e R s m args below meth c H locs ls cells slots MC MS dd hdd hf hR hl hP hS hc hs)
theorem g_dcmp {x y : UInt64} {op : CmpOp} (hd : decode M.2.1 pc = .ok (.dcmp op, 1))
    (k : G E d M (pc + 1) (lv) (.int (Op.cmpValue (FP.dcmp x y) op) :: st) (w) (im) (kc) (ks) Q) : G E d M (pc) (lv) (.double y :: .double x :: st) (w) (im) (kc) (ks) Q := by
  intro p e R s m args below meth c H locs ls cells slots MC MS dd hdd hf hR hl hP hS hc hs
  exact lv_dcmp hf.1 hf.2.1 hd (k p e R s m args below meth c H locs ls cells slots MC MS dd hdd hf hR hl hP hS hc hs)
theorem g_dup {va : Value} (hva : va.category = 1) (hd : decode M.2.1 pc = .ok (.dup, 1))
    (k : G E d M (pc + 1) (lv) (va :: va :: st) (w) (im) (kc) (ks) Q) : G E d M (pc) (lv) (va :: st) (w) (im) (kc) (ks) Q := by
  intro p e R s m args below meth c H locs ls cells slots MC MS dd hdd hf hR hl hP hS hc hs
  exact lv_dup hf.1 hf.2.1 hd hva (k p e R s m args below meth c H locs ls cells slots MC MS dd hdd hf hR hl hP hS hc hs)
theorem g_dup2 {va vb : Value} (hva : va.category = 1) (hvb : vb.category = 1) (hd : decode M.2.1 pc = .ok (.dup2, 1))
    (k : G E d M (pc + 1) (lv) (va :: vb :: va :: vb :: st) (w) (im) (kc) (ks) Q) : G E d M (pc) (lv) (va :: vb :: st) (w) (im) (kc) (ks) Q := by
  intro p e R s m args below meth c H locs ls cells slots MC MS dd hdd hf hR hl hP hS hc hs
  exact lv_dup2_11 hf.1 hf.2.1 hd hva hvb (k p e R s m args below meth c H locs ls cells slots MC MS dd hdd hf hR hl hP hS hc hs)
theorem g_pop {va : Value} (hva : va.category = 1) (hd : decode M.2.1 pc = .ok (.pop, 1))
    (k : G E d M (pc + 1) (lv) (st) (w) (im) (kc) (ks) Q) : G E d M (pc) (lv) (va :: st) (w) (im) (kc) (ks) Q := by
  intro p e R s m args below meth c H locs ls cells slots MC MS dd hdd hf hR hl hP hS hc hs
  exact lv_pop hf.1 hf.2.1 hd hva (k p e R s m args below meth c H locs ls cells slots MC MS dd hdd hf hR hl hP hS hc hs)
-- the branches
theorem g_if_eq {x : Int32} {off : Int} {tgt : Nat} (hd : decode M.2.1 pc = .ok (.ifCond .eq off, 3)) (ht : (pc : Int) + off = (tgt : Int))
    (kt : x = 0 → G E d M (tgt) (lv) (st) (w) (im) (kc) (ks) Q) (kf : ¬ x = 0 → G E d M (pc + 3) (lv) (st) (w) (im) (kc) (ks) Q) : G E d M (pc) (lv) (.int x :: st) (w) (im) (kc) (ks) Q := by
  intro p e R s m args below meth c H locs ls cells slots MC MS dd hdd hf hR hl hP hS hc hs
  exact lv_if_eq hf.1 hf.2.1 hd ht (kt := fun h9 => (kt h9 p e R s m args below meth c H locs ls cells slots MC MS dd hdd hf hR hl hP hS hc hs)) (kf := fun h9 => (kf h9 p e R s m args below meth c H locs ls cells slots MC MS dd hdd hf hR hl hP hS hc hs))
theorem g_icmp_eq {x y : Int32} {off : Int} {tgt : Nat} (hd : decode M.2.1 pc = .ok (.if_icmp .eq off, 3)) (ht : (pc : Int) + off = (tgt : Int))
    (kt : x = y → G E d M (tgt) (lv) (st) (w) (im) (kc) (ks) Q) (kf : ¬ x = y → G E d M (pc + 3) (lv) (st) (w) (im) (kc) (ks) Q) : G E d M (pc) (lv) (.int y :: .int x :: st) (w) (im) (kc) (ks) Q := by
  intro p e R s m args below meth c H locs ls cells slots MC MS dd hdd hf hR hl hP hS hc hs
  exact lv_icmp_eq hf.1 hf.2.1 hd ht (kt := fun h9 => (kt h9 p e R s m args below meth c H locs ls cells slots MC MS dd hdd hf hR hl hP hS hc hs)) (kf := fun h9 => (kf h9 p e R s m args below meth c H locs ls cells slots MC MS dd hdd hf hR hl hP hS hc hs))
theorem g_if_ne {x : Int32} {off : Int} {tgt : Nat} (hd : decode M.2.1 pc = .ok (.ifCond .ne off, 3)) (ht : (pc : Int) + off = (tgt : Int))
    (kt : ¬ x = 0 → G E d M (tgt) (lv) (st) (w) (im) (kc) (ks) Q) (kf : x = 0 → G E d M (pc + 3) (lv) (st) (w) (im) (kc) (ks) Q) : G E d M (pc) (lv) (.int x :: st) (w) (im) (kc) (ks) Q := by
  intro p e R s m args below meth c H locs ls cells slots MC MS dd hdd hf hR hl hP hS hc hs
  exact lv_if_ne hf.1 hf.2.1 hd ht (kt := fun h9 => (kt h9 p e R s m args below meth c H locs ls cells slots MC MS dd hdd hf hR hl hP hS hc hs)) (kf := fun h9 => (kf h9 p e R s m args below meth c H locs ls cells slots MC MS dd hdd hf hR hl hP hS hc hs))
theorem g_icmp_ne {x y : Int32} {off : Int} {tgt : Nat} (hd : decode M.2.1 pc = .ok (.if_icmp .ne off, 3)) (ht : (pc : Int) + off = (tgt : Int))
    (kt : ¬ x = y → G E d M (tgt) (lv) (st) (w) (im) (kc) (ks) Q) (kf : x = y → G E d M (pc + 3) (lv) (st) (w) (im) (kc) (ks) Q) : G E d M (pc) (lv) (.int y :: .int x :: st) (w) (im) (kc) (ks) Q := by
  intro p e R s m args below meth c H locs ls cells slots MC MS dd hdd hf hR hl hP hS hc hs
  exact lv_icmp_ne hf.1 hf.2.1 hd ht (kt := fun h9 => (kt h9 p e R s m args below meth c H locs ls cells slots MC MS dd hdd hf hR hl hP hS hc hs)) (kf := fun h9 => (kf h9 p e R s m args below meth c H locs ls cells slots MC MS dd hdd hf hR hl hP hS hc hs))
theorem g_if_lt {x : Int32} {off : Int} {tgt : Nat} (hd : decode M.2.1 pc = .ok (.ifCond .lt off, 3)) (ht : (pc : Int) + off = (tgt : Int))
    (kt : x < 0 → G E d M (tgt) (lv) (st) (w) (im) (kc) (ks) Q) (kf : ¬ x < 0 → G E d M (pc + 3) (lv) (st) (w) (im) (kc) (ks) Q) : G E d M (pc) (lv) (.int x :: st) (w) (im) (kc) (ks) Q := by
  intro p e R s m args below meth c H locs ls cells slots MC MS dd hdd hf hR hl hP hS hc hs
  exact lv_if_lt hf.1 hf.2.1 hd ht (kt := fun h9 => (kt h9 p e R s m args below meth c H locs ls cells slots MC MS dd hdd hf hR hl hP hS hc hs)) (kf := fun h9 => (kf h9 p e R s m args below meth c H locs ls cells slots MC MS dd hdd hf hR hl hP hS hc hs))
theorem g_icmp_lt {x y : Int32} {off : Int} {tgt : Nat} (hd : decode M.2.1 pc = .ok (.if_icmp .lt off, 3)) (ht : (pc : Int) + off = (tgt : Int))
    (kt : x < y → G E d M (tgt) (lv) (st) (w) (im) (kc) (ks) Q) (kf : ¬ x < y → G E d M (pc + 3) (lv) (st) (w) (im) (kc) (ks) Q) : G E d M (pc) (lv) (.int y :: .int x :: st) (w) (im) (kc) (ks) Q := by
  intro p e R s m args below meth c H locs ls cells slots MC MS dd hdd hf hR hl hP hS hc hs
  exact lv_icmp_lt hf.1 hf.2.1 hd ht (kt := fun h9 => (kt h9 p e R s m args below meth c H locs ls cells slots MC MS dd hdd hf hR hl hP hS hc hs)) (kf := fun h9 => (kf h9 p e R s m args below meth c H locs ls cells slots MC MS dd hdd hf hR hl hP hS hc hs))
theorem g_if_ge {x : Int32} {off : Int} {tgt : Nat} (hd : decode M.2.1 pc = .ok (.ifCond .ge off, 3)) (ht : (pc : Int) + off = (tgt : Int))
    (kt : 0 ≤ x → G E d M (tgt) (lv) (st) (w) (im) (kc) (ks) Q) (kf : ¬ 0 ≤ x → G E d M (pc + 3) (lv) (st) (w) (im) (kc) (ks) Q) : G E d M (pc) (lv) (.int x :: st) (w) (im) (kc) (ks) Q := by
  intro p e R s m args below meth c H locs ls cells slots MC MS dd hdd hf hR hl hP hS hc hs
  exact lv_if_ge hf.1 hf.2.1 hd ht (kt := fun h9 => (kt h9 p e R s m args below meth c H locs ls cells slots MC MS dd hdd hf hR hl hP hS hc hs)) (kf := fun h9 => (kf h9 p e R s m args below meth c H locs ls cells slots MC MS dd hdd hf hR hl hP hS hc hs))
theorem g_icmp_ge {x y : Int32} {off : Int} {tgt : Nat} (hd : decode M.2.1 pc = .ok (.if_icmp .ge off, 3)) (ht : (pc : Int) + off = (tgt : Int))
    (kt : y ≤ x → G E d M (tgt) (lv) (st) (w) (im) (kc) (ks) Q) (kf : ¬ y ≤ x → G E d M (pc + 3) (lv) (st) (w) (im) (kc) (ks) Q) : G E d M (pc) (lv) (.int y :: .int x :: st) (w) (im) (kc) (ks) Q := by
  intro p e R s m args below meth c H locs ls cells slots MC MS dd hdd hf hR hl hP hS hc hs
  exact lv_icmp_ge hf.1 hf.2.1 hd ht (kt := fun h9 => (kt h9 p e R s m args below meth c H locs ls cells slots MC MS dd hdd hf hR hl hP hS hc hs)) (kf := fun h9 => (kf h9 p e R s m args below meth c H locs ls cells slots MC MS dd hdd hf hR hl hP hS hc hs))
theorem g_if_gt {x : Int32} {off : Int} {tgt : Nat} (hd : decode M.2.1 pc = .ok (.ifCond .gt off, 3)) (ht : (pc : Int) + off = (tgt : Int))
    (kt : 0 < x → G E d M (tgt) (lv) (st) (w) (im) (kc) (ks) Q) (kf : ¬ 0 < x → G E d M (pc + 3) (lv) (st) (w) (im) (kc) (ks) Q) : G E d M (pc) (lv) (.int x :: st) (w) (im) (kc) (ks) Q := by
  intro p e R s m args below meth c H locs ls cells slots MC MS dd hdd hf hR hl hP hS hc hs
  exact lv_if_gt hf.1 hf.2.1 hd ht (kt := fun h9 => (kt h9 p e R s m args below meth c H locs ls cells slots MC MS dd hdd hf hR hl hP hS hc hs)) (kf := fun h9 => (kf h9 p e R s m args below meth c H locs ls cells slots MC MS dd hdd hf hR hl hP hS hc hs))
theorem g_icmp_gt {x y : Int32} {off : Int} {tgt : Nat} (hd : decode M.2.1 pc = .ok (.if_icmp .gt off, 3)) (ht : (pc : Int) + off = (tgt : Int))
    (kt : y < x → G E d M (tgt) (lv) (st) (w) (im) (kc) (ks) Q) (kf : ¬ y < x → G E d M (pc + 3) (lv) (st) (w) (im) (kc) (ks) Q) : G E d M (pc) (lv) (.int y :: .int x :: st) (w) (im) (kc) (ks) Q := by
  intro p e R s m args below meth c H locs ls cells slots MC MS dd hdd hf hR hl hP hS hc hs
  exact lv_icmp_gt hf.1 hf.2.1 hd ht (kt := fun h9 => (kt h9 p e R s m args below meth c H locs ls cells slots MC MS dd hdd hf hR hl hP hS hc hs)) (kf := fun h9 => (kf h9 p e R s m args below meth c H locs ls cells slots MC MS dd hdd hf hR hl hP hS hc hs))
theorem g_if_le {x : Int32} {off : Int} {tgt : Nat} (hd : decode M.2.1 pc = .ok (.ifCond .le off, 3)) (ht : (pc : Int) + off = (tgt : Int))
    (kt : x ≤ 0 → G E d M (tgt) (lv) (st) (w) (im) (kc) (ks) Q) (kf : ¬ x ≤ 0 → G E d M (pc + 3) (lv) (st) (w) (im) (kc) (ks) Q) : G E d M (pc) (lv) (.int x :: st) (w) (im) (kc) (ks) Q := by
  intro p e R s m args below meth c H locs ls cells slots MC MS dd hdd hf hR hl hP hS hc hs
  exact lv_if_le hf.1 hf.2.1 hd ht (kt := fun h9 => (kt h9 p e R s m args below meth c H locs ls cells slots MC MS dd hdd hf hR hl hP hS hc hs)) (kf := fun h9 => (kf h9 p e R s m args below meth c H locs ls cells slots MC MS dd hdd hf hR hl hP hS hc hs))
theorem g_icmp_le {x y : Int32} {off : Int} {tgt : Nat} (hd : decode M.2.1 pc = .ok (.if_icmp .le off, 3)) (ht : (pc : Int) + off = (tgt : Int))
    (kt : x ≤ y → G E d M (tgt) (lv) (st) (w) (im) (kc) (ks) Q) (kf : ¬ x ≤ y → G E d M (pc + 3) (lv) (st) (w) (im) (kc) (ks) Q) : G E d M (pc) (lv) (.int y :: .int x :: st) (w) (im) (kc) (ks) Q := by
  intro p e R s m args below meth c H locs ls cells slots MC MS dd hdd hf hR hl hP hS hc hs
  exact lv_icmp_le hf.1 hf.2.1 hd ht (kt := fun h9 => (kt h9 p e R s m args below meth c H locs ls cells slots MC MS dd hdd hf hR hl hP hS hc hs)) (kf := fun h9 => (kf h9 p e R s m args below meth c H locs ls cells slots MC MS dd hdd hf hR hl hP hS hc hs))
theorem g_goto {off : Int} {tgt : Nat} (ht : (pc : Int) + off = (tgt : Int)) (hd : decode M.2.1 pc = .ok (.goto off, 3))
    (k : G E d M (tgt) (lv) (st) (w) (im) (kc) (ks) Q) : G E d M (pc) (lv) (st) (w) (im) (kc) (ks) Q := by
  intro p e R s m args below meth c H locs ls cells slots MC MS dd hdd hf hR hl hP hS hc hs
  exact lv_goto hf.1 hf.2.1 hd ht (k p e R s m args below meth c H locs ls cells slots MC MS dd hdd hf hR hl hP hS hc hs)
theorem g_ifnull {off : Int} {x : Nat} (hd : decode M.2.1 pc = .ok (.ifnull off, 3))
    (k : G E d M (pc + 3) (lv) (st) (w) (im) (kc) (ks) Q) : G E d M (pc) (lv) (.ref x :: st) (w) (im) (kc) (ks) Q := by
  intro p e R s m args below meth c H locs ls cells slots MC MS dd hdd hf hR hl hP hS hc hs
  exact lv_ifnull hf.1 hf.2.1 hd (k p e R s m args below meth c H locs ls cells slots MC MS dd hdd hf hR hl hP hS hc hs)
theorem g_ifnullN {off : Int} {tgt : Nat} (ht : (pc : Int) + off = (tgt : Int)) (hd : decode M.2.1 pc = .ok (.ifnull off, 3))
    (k : G E d M (tgt) (lv) (st) (w) (im) (kc) (ks) Q) : G E d M (pc) (lv) (.null :: st) (w) (im) (kc) (ks) Q := by
  intro p e R s m args below meth c H locs ls cells slots MC MS dd hdd hf hR hl hP hS hc hs
  exact lv_ifnullN hf.1 hf.2.1 hd ht (k p e R s m args below meth c H locs ls cells slots MC MS dd hdd hf hR hl hP hS hc hs)
theorem g_ifnonnull {off : Int} {tgt x : Nat} (ht : (pc : Int) + off = (tgt : Int)) (hd : decode M.2.1 pc = .ok (.ifnonnull off, 3))
    (k : G E d M (tgt) (lv) (st) (w) (im) (kc) (ks) Q) : G E d M (pc) (lv) (.ref x :: st) (w) (im) (kc) (ks) Q := by
  intro p e R s m args below meth c H locs ls cells slots MC MS dd hdd hf hR hl hP hS hc hs
  exact lv_ifnonnull hf.1 hf.2.1 hd ht (k p e R s m args below meth c H locs ls cells slots MC MS dd hdd hf hR hl hP hS hc hs)
theorem g_ifnonnullN {off : Int} (hd : decode M.2.1 pc = .ok (.ifnonnull off, 3))
    (k : G E d M (pc + 3) (lv) (st) (w) (im) (kc) (ks) Q) : G E d M (pc) (lv) (.null :: st) (w) (im) (kc) (ks) Q := by
  intro p e R s m args below meth c H locs ls cells slots MC MS dd hdd hf hR hl hP hS hc hs
  exact lv_ifnonnullN hf.1 hf.2.1 hd (k p e R s m args below meth c H locs ls cells slots MC MS dd hdd hf hR hl hP hS hc hs)
theorem g_ldcw {index : Nat} {v : Int32} (hq : Cond.constant M.1 index v ∈ g_all) (hd : decode M.2.1 pc = .ok (.ldc_w index, 3))
    (k : G E d M (pc + 3) (lv) (.int v :: st) (w) (im) (kc) (ks) Q) : G E d M (pc) (lv) (st) (w) (im) (kc) (ks) Q := by
  intro p e R s m args below meth c H locs ls cells slots MC MS dd hdd hf hR hl hP hS hc hs
  exact lv_ldcw hf.1 hf.2.1 hf.2.2.2.1 (hf.2.2.2.2.1 _ hq) hd (k p e R s m args below meth c H locs ls cells slots MC MS dd hdd hf hR hl hP hS hc hs)
theorem g_ldc {index : Nat} {v : Int32} (hq : Cond.constant M.1 index v ∈ g_all) (hd : decode M.2.1 pc = .ok (.ldc index, 2))
    (k : G E d M (pc + 2) (lv) (.int v :: st) (w) (im) (kc) (ks) Q) : G E d M (pc) (lv) (st) (w) (im) (kc) (ks) Q := by
  intro p e R s m args below meth c H locs ls cells slots MC MS dd hdd hf hR hl hP hS hc hs
  exact lv_ldc hf.1 hf.2.1 hf.2.2.2.1 (hf.2.2.2.2.1 _ hq) hd (k p e R s m args below meth c H locs ls cells slots MC MS dd hdd hf hR hl hP hS hc hs)
theorem g_lookup {dflt : Int} {ps : Array (Int × Int)} {len : Nat} {x : Int32} {off : Int} {tgt : Nat} (hd : decode M.2.1 pc = .ok (.lookupswitch dflt ps, len)) (hp : (ps.toList.zip (ps.toList.drop 1)).all (fun (a, next) => a.1 < next.1) = true) (ho : Op.lookupswitch.offset ps.toList dflt x.toInt = off) (ht : (pc : Int) + off = (tgt : Int))
    (k : G E d M (tgt) (lv) (st) (w) (im) (kc) (ks) Q) : G E d M (pc) (lv) (.int x :: st) (w) (im) (kc) (ks) Q := by
  intro p e R s m args below meth c H locs ls cells slots MC MS dd hdd hf hR hl hP hS hc hs
  exact lv_lookup hf.1 hf.2.1 hd hp ho ht (k p e R s m args below meth c H locs ls cells slots MC MS dd hdd hf hR hl hP hS hc hs)
theorem g_tableOut {dflt lo hi : Int} {offs : Array Int} {len : Nat} {x : Int32} {tgt : Nat} (hd : decode M.2.1 pc = .ok (.tableswitch dflt lo hi offs, len)) (h : x.toInt < lo ∨ hi < x.toInt) (ht : (pc : Int) + dflt = (tgt : Int))
    (k : G E d M (tgt) (lv) (st) (w) (im) (kc) (ks) Q) : G E d M (pc) (lv) (.int x :: st) (w) (im) (kc) (ks) Q := by
  intro p e R s m args below meth c H locs ls cells slots MC MS dd hdd hf hR hl hP hS hc hs
  exact lv_tableOut hf.1 hf.2.1 hd h ht (k p e R s m args below meth c H locs ls cells slots MC MS dd hdd hf hR hl hP hS hc hs)
theorem g_tableIn {dflt lo hi : Int} {offs : Array Int} {len : Nat} {x : Int32} {off : Int} {tgt : Nat} (hd : decode M.2.1 pc = .ok (.tableswitch dflt lo hi offs, len)) (h1 : ¬ x.toInt < lo) (h2 : ¬ hi < x.toInt) (ho : offs[(x.toInt - lo).toNat]? = some off) (ht : (pc : Int) + off = (tgt : Int))
    (k : G E d M (tgt) (lv) (st) (w) (im) (kc) (ks) Q) : G E d M (pc) (lv) (.int x :: st) (w) (im) (kc) (ks) Q := by
  intro p e R s m args below meth c H locs ls cells slots MC MS dd hdd hf hR hl hP hS hc hs
  exact lv_tableIn hf.1 hf.2.1 hd h1 h2 ho ht (k p e R s m args below meth c H locs ls cells slots MC MS dd hdd hf hR hl hP hS hc hs)

theorem g_end {p : Program} {e : Env} {R : Room} {s : State} {m : MethodId} {args : Array Value} {below : List Frame} {meth : Method} {c : Code} {H : Heap} {locs : List Loc} {cells slots MC MS : Nat} {o : Option Value} (hP : g_Rp E w im H) (hS : va_S (fun q => gb E ≤ q) s.heap H locs) (hb : gb E ≤ s.heap.size) (hQ : Q (.inl o) w im) : ∀ t : State, t.heap = H → s.WarmedH t.vm → g_Qc E Q args s (.returned o) t :=
  fun t ht _ => ⟨o, w, im, rfl, hQ, by rw [ht]; exact hP, by rw [ht]; exact hS.1, fun q hq => by rw [ht]; exact (g_frame hS hb).2 q hq⟩

theorem g_ireturn {x : Int32} {ty : FieldType} (hr : M.2.2.2.1 = some ty) (hn : narrow ty (.int x) = .int x) (hd : decode M.2.1 pc = .ok (.ireturn, 1)) (hQ : Q (.inl (some (.int x))) w im) : G E d M (pc) (lv) ([.int x]) (w) (im) (kc) (ks) Q := by
  intro p e R s m args below meth c H locs ls cells slots MC MS dd hdd hf hR hl hP hS hc hs
  refine vx_ret (W.widen (k := MC) (n := MS) (by omega) (by omega) ?_)
  exact W.zret (ty := ty) hf.1 hf.2.1 (hf.2.2.2.2.2.1.trans hr) hn (g_end (p := p) (e := e) (R := R) (m := m) (below := below) (meth := meth) (c := c) (cells := cells) (slots := slots) (MC := MC) (MS := MS) hP hS hf.2.2.2.2.2.2.2.2.2.2.2.2.2.2.2.2.2.2.2.1 hQ) hS.2.2 hd hf.2.2.2.2.2.2.1
theorem g_freturn {x : UInt32} (hr : M.2.2.2.1 = some .float) (hd : decode M.2.1 pc = .ok (.freturn, 1)) (hQ : Q (.inl (some (.float x))) w im) : G E d M (pc) (lv) ([.float x]) (w) (im) (kc) (ks) Q := by
  intro p e R s m args below meth c H locs ls cells slots MC MS dd hdd hf hR hl hP hS hc hs
  refine vx_ret (W.widen (k := MC) (n := MS) (by omega) (by omega) ?_)
  exact W.fret hf.1 hf.2.1 (hf.2.2.2.2.2.1.trans hr) (g_end (p := p) (e := e) (R := R) (m := m) (below := below) (meth := meth) (c := c) (cells := cells) (slots := slots) (MC := MC) (MS := MS) hP hS hf.2.2.2.2.2.2.2.2.2.2.2.2.2.2.2.2.2.2.2.1 hQ) hS.2.2 hd hf.2.2.2.2.2.2.1
theorem g_dreturn {x : UInt64} (hr : M.2.2.2.1 = some .double) (hd : decode M.2.1 pc = .ok (.dreturn, 1)) (hQ : Q (.inl (some (.double x))) w im) : G E d M (pc) (lv) ([.double x]) (w) (im) (kc) (ks) Q := by
  intro p e R s m args below meth c H locs ls cells slots MC MS dd hdd hf hR hl hP hS hc hs
  refine vx_ret (W.widen (k := MC) (n := MS) (by omega) (by omega) ?_)
  exact W.dret hf.1 hf.2.1 (hf.2.2.2.2.2.1.trans hr) (g_end (p := p) (e := e) (R := R) (m := m) (below := below) (meth := meth) (c := c) (cells := cells) (slots := slots) (MC := MC) (MS := MS) hP hS hf.2.2.2.2.2.2.2.2.2.2.2.2.2.2.2.2.2.2.2.1 hQ) hS.2.2 hd hf.2.2.2.2.2.2.1
theorem g_areturn {v : Value} {rt : FieldType} (hr : M.2.2.2.1 = some rt) (hrt : (∃ n, rt = .object n) ∨ ∃ t, rt = .array t) (hv : v = .null ∨ ∃ a, v = .ref a) (hd : decode M.2.1 pc = .ok (.areturn, 1)) (hQ : Q (.inl (some (v))) w im) : G E d M (pc) (lv) ([v]) (w) (im) (kc) (ks) Q := by
  intro p e R s m args below meth c H locs ls cells slots MC MS dd hdd hf hR hl hP hS hc hs
  refine vx_ret (W.widen (k := MC) (n := MS) (by omega) (by omega) ?_)
  exact W.aret hf.1 hf.2.1 (hf.2.2.2.2.2.1.trans hr) hrt hv (g_end (p := p) (e := e) (R := R) (m := m) (below := below) (meth := meth) (c := c) (cells := cells) (slots := slots) (MC := MC) (MS := MS) hP hS hf.2.2.2.2.2.2.2.2.2.2.2.2.2.2.2.2.2.2.2.1 hQ) hS.2.2 hd hf.2.2.2.2.2.2.1
theorem g_return (hr : M.2.2.2.1 = none) (hd : decode M.2.1 pc = .ok (.return_, 1)) (hQ : Q (.inl none) w im) : G E d M (pc) (lv) ([]) (w) (im) (kc) (ks) Q := by
  intro p e R s m args below meth c H locs ls cells slots MC MS dd hdd hf hR hl hP hS hc hs
  refine vx_ret (W.widen (k := MC) (n := MS) (by omega) (by omega) ?_)
  exact W.vret hf.1 hf.2.1 (hf.2.2.2.2.2.1.trans hr) (g_end (p := p) (e := e) (R := R) (m := m) (below := below) (meth := meth) (c := c) (cells := cells) (slots := slots) (MC := MC) (MS := MS) hP hS hf.2.2.2.2.2.2.2.2.2.2.2.2.2.2.2.2.2.2.2.1 hQ) hS.2.2 hd hf.2.2.2.2.2.2.1
end GR
/-! ===== END ===== -/
end
section
section GH
variable {E : gE} {d : Nat} {M : gM} {pc : Nat} {lv : List (Nat × Value)} {st : List Value} {w : gW} {im : gIm} {kc ks : Nat} {Q : gQ}
/-- what a field's place in the constant pool means: class ci, field k -/
def g_fld (own : String) (idx ci k : Nat) : Prop := ci < 10 ∧ k < g_n ci ∧ (Cond.fieldLink own idx (g_C ci) (g_T ci k).2.1 (g_T ci k).2.2.1 ∈ g_all ∨ ∃ host, Cond.fieldLinkNest own idx (g_C ci) (g_T ci k).2.1 (g_T ci k).2.2.1 host ∈ g_bads)
theorem g_getfield {idx a : Nat} (ci k : Nat) {fs : List Value} {v : Value} (h0 : g_fld M.1 idx ci k) (hcell : g_cell E w im a (.inr (ci, fs))) (hv : fs[k]? = some v) (hd : decode M.2.1 pc = .ok (.getfield idx, 3))
    (kk : G E d M (pc + 3) (lv) (v :: st) (w) (im) (kc) (ks) Q) : G E d M (pc) (lv) (.ref a :: st) (w) (im) (kc) (ks) Q := by
  intro p e R s m args below meth c H locs ls cells slots MC MS dd hdd hf hR hl hP hS hc hs
  obtain ⟨hci, hk, hlink⟩ := h0
  obtain ⟨-, r, h1, cell, q1, q2, q3, q4⟩ := hP.get hcell
  have hr : r = (g_C ci, g_T ci, g_n ci) := Option.some.inj (h1.symm.trans (g_clat hci))
  subst hr
  obtain ⟨hS9, hfc, kC, hkC, hkind⟩ := (hf.2.2.2.2.2.2.2.2.2.1).1 ci _ (g_clat hci)
  obtain ⟨cf, kf, fi, f, hi, hsl⟩ := hS9 k hk
  have hst := (u_facts hfc hkC (u_lays hf.2.2.2.2.1 (g_lays hci) hk) hi).1
  rw [g_own hci k hk] at hi
  have hval : cell.slots[f.slot]? = some v := by
    rw [hsl, q4 k hk]
    simp [vp_V, hv]
  rcases hlink with hl9 | ⟨host, hl9⟩
  · exact W.getf hf.1 hf.2.1 hf.2.2.2.1 (hf.2.2.2.2.1 _ hl9) hi hst q1 (by rw [q3]; exact fun h => by cases h) hval rfl rfl hd (kk p e R s m args below meth c H locs ls cells slots MC MS dd hdd hf hR hl hP hS hc hs)
  · exact va_Wgetf hf.1 hf.2.1 hf.2.2.2.1 (va_Nw.use rfl (hf.2.2.2.2.2.2.2.2.2.2.2.2.2.2.2.1 _ hl9)) hi hst q1 (by rw [q3]; exact fun h => by cases h) hval rfl rfl hd (kk p e R s m args below meth c H locs ls cells slots MC MS dd hdd hf hR hl hP hS hc hs)

theorem g_put0 {p : Program} {e : Env} {R : Room} {s : State} {m : MethodId} {args : Array Value} {below : List Frame} {meth : Method} {c : Code} {H : Heap} {locs : List Loc} {cells slots : Nat} {Z : State → Prop} (hf : g_fix E M p s m args meth c)
    {idx a : Nat} (ci k : Nat) {fs : List Value} {v : Value} (h0 : g_fld M.1 idx ci k) (hfin : (g_T ci k).2.2.2 = false ∨ (M.2.2.2.2.2 = true ∧ M.1 = g_C ci)) (hn : narrow (g_y ci k) v = v) (hfit : fits (g_y ci k) v = true) (hlen : k < fs.length) (hat : g_at E a (.inr (ci, fs)) H) (hd : decode M.2.1 pc = .ok (.putfield idx, 3)) {ls : Array Slot} {rest : List Value}
    (kk : ∀ (H1 : Heap) (j : Nat), g_at E a (.inr (ci, fs.set k v)) H1 → H1.size = H.size → (∀ q : Nat, q ≠ a → H1[q]? = H[q]?) → W p (gl E) e R s m args below meth c H1 (locs ++ [⟨a, j⟩]) cells slots Z (F0 m (pc + 3) ls rest)) : W p (gl E) e R s m args below meth c H locs cells slots Z (F0 m pc ls (v :: .ref a :: rest)) := by
  obtain ⟨hci, hk, hlink⟩ := h0
  obtain ⟨r, h1, cell, q1, q2, q3, q4⟩ := hat
  have hr : r = (g_C ci, g_T ci, g_n ci) := Option.some.inj (h1.symm.trans (g_clat hci))
  subst hr
  have hK := hf.2.2.2.2.2.2.2.2.2.1
  obtain ⟨hS9, hfc, kC, hkC, hkind⟩ := hK.1 ci _ (g_clat hci)
  have hap := va_apart (own := M.1) hf.2.2.2.2.1 (g_lays hci) (g_y ci) (g_tyok hci) (g_nmok hci) hK (g_clat hci)
  obtain ⟨cf, kf, fi, f, hi, hsl⟩ := hS9 k hk
  have hlay := hf.2.2.2.2.1 _ (g_lays hci _ (u_in_lay hk))
  have hst := (u_facts hfc hkC (u_lays hf.2.2.2.2.1 (g_lays hci) hk) hi).1
  have hi2 := hi
  rw [g_own hci k hk] at hi2
  have fin : ∀ H1 : Heap, H1[a]? = some (cell.setSlot f.slot v) → H1.size = H.size → (∀ q : Nat, q ≠ a → H1[q]? = H[q]?) → W p (gl E) e R s m args below meth c H1 (locs ++ [⟨a, f.slot⟩]) cells slots Z (F0 m (pc + 3) ls rest) := fun H1 e1 e2 e3 => by
    refine kk H1 f.slot ?_ e2 e3
    rw [hsl] at e1
    exact ⟨_, g_clat hci, t_OB.to (V := updV (vp_V fs) k v) ⟨_, e1, q2, q3, t_set q4 hap hk v⟩ (fun j _ => vp_updV_set hlen v j)⟩
  by_cases hz : (g_T ci k).2.2.2 = true
  · rcases hfin with hfin | ⟨hini, hcl⟩
    · rw [hz] at hfin; cases hfin
    unfold u_lay at hlay
    rw [if_pos hz] at hlay
    have hcf : m.cls = cf := by
      obtain ⟨_, _, c', _, _, _, -, -, hf', -, -, -, hown2, -⟩ := Cond.laysFinal_spec hlay
      have e1 : c' = cf := by have := hi.symm.trans hf'; simp at this; exact this.1.symm
      rw [g_own hci k hk, ← hcl] at hown2
      rw [← e1]; exact Option.some.inj (hf.2.2.2.1.symm.trans hown2)
    have h6 := u_fits hfc hkC hkind (Or.inr hlay) hi (g_tyok hci k hk) hn hfit
    rcases hlink with hl9 | ⟨host, hl9⟩
    · exact W.putFinK hf.1 hf.2.1 hf.2.2.2.1 (hf.2.2.2.2.1 _ hl9) hi2 hst hcf (hf.2.2.2.2.2.2.2.2.1 hini) (by rw [q2]; exact h6) q1 q3 (by rw [hsl]; exact k2_hasslot (q4 k hk)) rfl rfl hd fin
    · refine va_Wputf hf.1 hf.2.1 hf.2.2.2.1 (va_Nw.use rfl (hf.2.2.2.2.2.2.2.2.2.2.2.2.2.2.2.1 _ hl9)) hi2 hst (Or.inr ⟨hcf, hf.2.2.2.2.2.2.2.2.1 hini⟩) q1 (by rw [q3]; exact fun h => by cases h) (by rw [hsl]; exact k2_hasslot (q4 k hk)) h6.1 (by rw [q2, q3]; exact h6.2) rfl rfl hd ?_
      have ha : a < H.size := (Array.getElem?_eq_some_iff.mp q1).1
      exact fin _ (by simp [Array.getElem?_setIfInBounds, ha]) (by simp) (fun q hq => by simp [Array.getElem?_setIfInBounds, Ne.symm hq])
  · unfold u_lay at hlay
    rw [if_neg hz] at hlay
    have h6 := u_store hfc hkC hkind hlay hi (g_tyok hci k hk) hn hfit
    rcases hlink with hl9 | ⟨host, hl9⟩
    · exact W.putK hf.1 hf.2.1 (f := f) ⟨hf.2.2.2.1, hf.2.2.2.2.1 _ hl9, ⟨_, _, _, hi2⟩, hst⟩ (by rw [q2]; exact h6) q1 q3 (by rw [hsl]; exact k2_hasslot (q4 k hk)) rfl rfl hd fin
    · exact va_WputK hf.1 hf.2.1 (f := f) hf.2.2.2.1 (va_Nw.use rfl (hf.2.2.2.2.2.2.2.2.2.2.2.2.2.2.2.1 _ hl9)) hi2 hst (by rw [q2]; exact h6) q1 q3 (by rw [hsl]; exact k2_hasslot (q4 k hk)) rfl rfl hd fin

theorem g_putM {idx : Nat} (ci k : Nat) {fs : List Value} {v : Value} (h0 : g_fld M.1 idx ci k) (hfin : (g_T ci k).2.2.2 = false ∨ (M.2.2.2.2.2 = true ∧ M.1 = g_C ci)) (hn : narrow (g_y ci k) v = v) (hfit : fits (g_y ci k) v = true) (hlen : k < fs.length) (i : Nat) (hi : i < gN E) (hw : w i = .inr (ci, fs)) (hd : decode M.2.1 pc = .ok (.putfield idx, 3))
    (kk : G E d M (pc + 3) (lv) (st) (vf_upd w i (.inr (ci, fs.set k v))) (im) (kc) (ks) Q) : G E d M (pc) (lv) (v :: .ref (gad E i) :: st) (w) (im) (kc) (ks) Q := by
  intro p e R s m args below meth c H locs ls cells slots MC MS dd hdd hf hR hl hP hS hc hs
  have hat := hP.1 i hi
  rw [hw] at hat
  exact g_put0 hf ci k h0 hfin hn hfit hlen hat.2 hd fun H1 j e1 e2 e3 => (kk p e R s m args below meth c H1 _ ls cells slots MC MS dd hdd hf hR hl (hP.setW hi e1 e3) (hS.put e2 e3 hat.1) hc hs)
theorem g_putI {idx : Nat} (ci k : Nat) {fs : List Value} {v : Value} (h0 : g_fld M.1 idx ci k) (hfin : (g_T ci k).2.2.2 = false ∨ (M.2.2.2.2.2 = true ∧ M.1 = g_C ci)) (hn : narrow (g_y ci k) v = v) (hfit : fits (g_y ci k) v = true) (hlen : k < fs.length) {a : Nat} (hm : im a = some (.inr (ci, fs))) (hd : decode M.2.1 pc = .ok (.putfield idx, 3))
    (kk : G E d M (pc + 3) (lv) (st) (w) (vf_upd im a (some (.inr (ci, fs.set k v)))) (kc) (ks) Q) : G E d M (pc) (lv) (v :: .ref a :: st) (w) (im) (kc) (ks) Q := by
  intro p e R s m args below meth c H locs ls cells slots MC MS dd hdd hf hR hl hP hS hc hs
  have hat := hP.2.1 a _ hm
  exact g_put0 hf ci k h0 hfin hn hfit hlen hat.2 hd fun H1 j e1 e2 e3 => (kk p e R s m args below meth c H1 _ ls cells slots MC MS dd hdd hf hR hl (hP.setI hm e1 e3) (hS.put e2 e3 hat.1) hc hs)

theorem g_vpin {i : Int32} {j n : Nat} (hx : i = nI j) (hj : j < n) (hn : n.blt 2147483648 = true) : vp_in i n ∧ i.toNatClampNeg = j := by
  have hn' : n < 2147483648 := by simpa using hn
  subst hx
  exact ⟨vp_in_nI hj hn', nI_clamp (by omega)⟩
theorem g_arr {E : gE} {s : State} {H : Heap} (hK : g_K E s H) (k : Nat) (hk : k < 8) (n : Nat) (z : Nat → Value) : s.isArrayOf (arrV (gdA E k) n z) (g_ty k) := (hK.2.1 k hk).1 n z
theorem g_alen {a t n : Nat} {x : (Nat → Int32) ⊕ (Nat → Int64) ⊕ (Nat → UInt32) ⊕ (Nat → UInt64) ⊕ (Nat → Option Nat)} (ht : t < 8) (hcell : g_cell E w im a (.inl (t, n, x))) (hd : decode M.2.1 pc = .ok (.arraylength, 1))
    (kk : G E d M (pc + 1) (lv) (.int (nI n) :: st) (w) (im) (kc) (ks) Q) : G E d M (pc) (lv) (.ref a :: st) (w) (im) (kc) (ks) Q := by
  intro p e R s m args below meth c H locs ls cells slots MC MS dd hdd hf hR hl hP hS hc hs
  have hat : H[a]? = some (vp_cell (gdA E t) (n, x)) := (hP.get hcell).2
  have kk2 := (kk p e R s m args below meth c H locs ls cells slots MC MS dd hdd hf hR hl hP hS hc hs)
  rcases x with f | f | f | f | f
  · exact W.alen (n := nI n) hf.1 hf.2.1 hat (g_arr hf.2.2.2.2.2.2.2.2.2 t ht n (fun j => .int (f j))) (by rw [vp_cell_i, arrV_size] <;> rfl) rfl rfl hd kk2
  · exact W.alen (n := nI n) hf.1 hf.2.1 hat (g_arr hf.2.2.2.2.2.2.2.2.2 t ht n (fun j => .long (f j))) (by rw [vp_cell_l, arrV_size] <;> rfl) rfl rfl hd kk2
  · exact W.alen (n := nI n) hf.1 hf.2.1 hat (g_arr hf.2.2.2.2.2.2.2.2.2 t ht n (fun j => .float (f j))) (by rw [vp_cell_f, arrV_size] <;> rfl) rfl rfl hd kk2
  · exact W.alen (n := nI n) hf.1 hf.2.1 hat (g_arr hf.2.2.2.2.2.2.2.2.2 t ht n (fun j => .double (f j))) (by rw [vp_cell_d, arrV_size] <;> rfl) rfl rfl hd kk2
  · exact W.alen (n := nI n) hf.1 hf.2.1 hat (g_arr hf.2.2.2.2.2.2.2.2.2 t ht n (fun j => va_rf (f j))) (by rw [vp_cell_q, arrV_size] <;> rfl) rfl rfl hd kk2
theorem g_slen {b : Nat} (hb : b = (gX E).1) (hd : decode M.2.1 pc = .ok (.arraylength, 1))
    (kk : G E d M (pc + 1) (lv) (.int (nI (gX E).2.1) :: st) (w) (im) (kc) (ks) Q) : G E d M (pc) (lv) (.ref b :: st) (w) (im) (kc) (ks) Q := by
  intro p e R s m args below meth c H locs ls cells slots MC MS dd hdd hf hR hl hP hS hc hs
  have hlt := hf.2.2.2.2.2.2.2.2.2.2.2.2.2.2.2.2.2.2.1
  have hle := hf.2.2.2.2.2.2.2.2.2.2.2.2.2.2.2.2.2.2.2.1
  subst hb
  exact va_slen hf.1 hf.2.1 hf.2.2.2.2.2.2.2.2.2.2.2.2.2.2.2.2.2.1 (by omega) (Nat.not_le.mpr hlt) hS hd (kk p e R s m args below meth c H locs ls cells slots MC MS dd hdd hf hR hl hP hS hc hs)
theorem g_sld {b : Nat} {i : Int32} {j : Nat} (hb : b = (gX E).1) (hx : i = nI j) (hj : j < (gX E).2.1) (hL : (gX E).2.1 < 2147483648) (hd : decode M.2.1 pc = .ok (.iaload, 1))
    (kk : G E d M (pc + 1) (lv) (.int ((gX E).2.2 j) :: st) (w) (im) (kc) (ks) Q) : G E d M (pc) (lv) (.int i :: .ref b :: st) (w) (im) (kc) (ks) Q := by
  intro p e R s m args below meth c H locs ls cells slots MC MS dd hdd hf hR hl hP hS hc hs
  have hlt := hf.2.2.2.2.2.2.2.2.2.2.2.2.2.2.2.2.2.2.1
  have hle := hf.2.2.2.2.2.2.2.2.2.2.2.2.2.2.2.2.2.2.2.1
  subst hb
  have hv : vp_in i (gX E).2.1 := by rw [hx]; exact vp_in_nI hj hL
  have hk2 := (kk p e R s m args below meth c H locs ls cells slots MC MS dd hdd hf hR hl hP hS hc hs)
  refine va_sld hf.1 hf.2.1 hf.2.2.2.2.2.2.2.2.2.2.2.2.2.2.2.2.2.1 (by omega) (Nat.not_le.mpr hlt) hS hv hd ?_
  rw [show i.toNatClampNeg = j by rw [hx]; exact nI_clamp (by omega)]
  exact hk2

theorem g_iaload {a n j : Nat} {i : Int32} {f : Nat → Int32} (hcell : g_cell E w im a (.inl (0, n, .inl f))) (hx : i = nI j) (hj : j < n) (hn : n.blt 2147483648 = true) (hd : decode M.2.1 pc = .ok (.iaload, 1))
    (kk : G E d M (pc + 1) (lv) (.int (f j) :: st) (w) (im) (kc) (ks) Q) : G E d M (pc) (lv) (.int i :: .ref a :: st) (w) (im) (kc) (ks) Q := by
  intro p e R s m args below meth c H locs ls cells slots MC MS dd hdd hf hR hl hP hS hc hs
  obtain ⟨hin, hcl⟩ := g_vpin hx hj hn
  have hat : H[a]? = some (arrV (gdA E 0) n (fun j => .int (f j))) := (hP.get hcell).2
  exact W.iald (v := .int (f j)) hf.1 hf.2.1 hat (g_arr hf.2.2.2.2.2.2.2.2.2 0 (by decide) n _) (fun q => by cases q) (by rw [arrV_size]; exact hin) (by rw [hcl, arrV_read _ _ hj]) rfl rfl hd (kk p e R s m args below meth c H locs ls cells slots MC MS dd hdd hf hR hl hP hS hc hs)

theorem g_caload {a n j : Nat} {i : Int32} {f : Nat → Int32} (hcell : g_cell E w im a (.inl (1, n, .inl f))) (hx : i = nI j) (hj : j < n) (hn : n.blt 2147483648 = true) (hd : decode M.2.1 pc = .ok (.caload, 1))
    (kk : G E d M (pc + 1) (lv) (.int (f j) :: st) (w) (im) (kc) (ks) Q) : G E d M (pc) (lv) (.int i :: .ref a :: st) (w) (im) (kc) (ks) Q := by
  intro p e R s m args below meth c H locs ls cells slots MC MS dd hdd hf hR hl hP hS hc hs
  obtain ⟨hin, hcl⟩ := g_vpin hx hj hn
  have hat : H[a]? = some (arrV (gdA E 1) n (fun j => .int (f j))) := (hP.get hcell).2
  exact W.cald (v := .int (f j)) hf.1 hf.2.1 hat (g_arr hf.2.2.2.2.2.2.2.2.2 1 (by decide) n _) (fun q => by cases q) (by rw [arrV_size]; exact hin) (by rw [hcl, arrV_read _ _ hj]) rfl rfl hd (kk p e R s m args below meth c H locs ls cells slots MC MS dd hdd hf hR hl hP hS hc hs)

theorem g_laload {a n j : Nat} {i : Int32} {f : Nat → Int64} (hcell : g_cell E w im a (.inl (2, n, .inr (.inl f)))) (hx : i = nI j) (hj : j < n) (hn : n.blt 2147483648 = true) (hd : decode M.2.1 pc = .ok (.laload, 1))
    (kk : G E d M (pc + 1) (lv) (.long (f j) :: st) (w) (im) (kc) (ks) Q) : G E d M (pc) (lv) (.int i :: .ref a :: st) (w) (im) (kc) (ks) Q := by
  intro p e R s m args below meth c H locs ls cells slots MC MS dd hdd hf hR hl hP hS hc hs
  obtain ⟨hin, hcl⟩ := g_vpin hx hj hn
  have hat : H[a]? = some (arrV (gdA E 2) n (fun j => .long (f j))) := (hP.get hcell).2
  exact W.lald (v := .long (f j)) hf.1 hf.2.1 hat (g_arr hf.2.2.2.2.2.2.2.2.2 2 (by decide) n _) (fun q => by cases q) (by rw [arrV_size]; exact hin) (by rw [hcl, arrV_read _ _ hj]) rfl rfl hd (kk p e R s m args below meth c H locs ls cells slots MC MS dd hdd hf hR hl hP hS hc hs)

theorem g_daload {a n j : Nat} {i : Int32} {f : Nat → UInt64} (hcell : g_cell E w im a (.inl (3, n, .inr (.inr (.inr (.inl f)))))) (hx : i = nI j) (hj : j < n) (hn : n.blt 2147483648 = true) (hd : decode M.2.1 pc = .ok (.daload, 1))
    (kk : G E d M (pc + 1) (lv) (.double (f j) :: st) (w) (im) (kc) (ks) Q) : G E d M (pc) (lv) (.int i :: .ref a :: st) (w) (im) (kc) (ks) Q := by
  intro p e R s m args below meth c H locs ls cells slots MC MS dd hdd hf hR hl hP hS hc hs
  obtain ⟨hin, hcl⟩ := g_vpin hx hj hn
  have hat : H[a]? = some (arrV (gdA E 3) n (fun j => .double (f j))) := (hP.get hcell).2
  exact W.dald (v := .double (f j)) hf.1 hf.2.1 hat (g_arr hf.2.2.2.2.2.2.2.2.2 3 (by decide) n _) (fun q => by cases q) (by rw [arrV_size]; exact hin) (by rw [hcl, arrV_read _ _ hj]) rfl rfl hd (kk p e R s m args below meth c H locs ls cells slots MC MS dd hdd hf hR hl hP hS hc hs)

theorem g_aaload {a n j t : Nat} {b : Nat} {i : Int32} {f : Nat → Option Nat} {C : String} (ht : t < 8) (hC : g_ty t = .object C) (hcell : g_cell E w im a (.inl (t, n, .inr (.inr (.inr (.inr f)))))) (hx : i = nI j) (hj : j < n) (hn : n.blt 2147483648 = true) (hv : f j = some b) (hd : decode M.2.1 pc = .ok (.aaload, 1))
    (kk : G E d M (pc + 1) (lv) (.ref b :: st) (w) (im) (kc) (ks) Q) : G E d M (pc) (lv) (.int i :: .ref a :: st) (w) (im) (kc) (ks) Q := by
  intro p e R s m args below meth c H locs ls cells slots MC MS dd hdd hf hR hl hP hS hc hs
  obtain ⟨hin, hcl⟩ := g_vpin hx hj hn
  have hat : H[a]? = some (arrV (gdA E t) n (fun j => va_rf (f j))) := (hP.get hcell).2
  exact W.aald (v := .ref b) (ty := .object C) hf.1 hf.2.1 hat (hC ▸ g_arr hf.2.2.2.2.2.2.2.2.2 t ht n _) rfl (fun q => by cases q) (by rw [arrV_size]; exact hin) (by rw [hcl, arrV_read _ _ hj, hv]; rfl) rfl rfl hd (kk p e R s m args below meth c H locs ls cells slots MC MS dd hdd hf hR hl hP hS hc hs)

theorem g_aaloadN {a n j t : Nat} {i : Int32} {f : Nat → Option Nat} {C : String} (ht : t < 8) (hC : g_ty t = .object C) (hcell : g_cell E w im a (.inl (t, n, .inr (.inr (.inr (.inr f)))))) (hx : i = nI j) (hj : j < n) (hn : n.blt 2147483648 = true) (hv : f j = none) (hd : decode M.2.1 pc = .ok (.aaload, 1))
    (kk : G E d M (pc + 1) (lv) (.null :: st) (w) (im) (kc) (ks) Q) : G E d M (pc) (lv) (.int i :: .ref a :: st) (w) (im) (kc) (ks) Q := by
  intro p e R s m args below meth c H locs ls cells slots MC MS dd hdd hf hR hl hP hS hc hs
  obtain ⟨hin, hcl⟩ := g_vpin hx hj hn
  have hat : H[a]? = some (arrV (gdA E t) n (fun j => va_rf (f j))) := (hP.get hcell).2
  exact W.aald (v := .null) (ty := .object C) hf.1 hf.2.1 hat (hC ▸ g_arr hf.2.2.2.2.2.2.2.2.2 t ht n _) rfl (fun q => by cases q) (by rw [arrV_size]; exact hin) (by rw [hcl, arrV_read _ _ hj, hv]; rfl) rfl rfl hd (kk p e R s m args below meth c H locs ls cells slots MC MS dd hdd hf hR hl hP hS hc hs)

theorem g_iastoreM {n j : Nat} {i : Int32} {x : Int32} {f : Nat → Int32} (i0 : Nat) (hi : i0 < gN E) (hw : w i0 = .inl (0, n, .inl (f))) (hx : i = nI j) (hj : j < n) (hn : n.blt 2147483648 = true) (hd : decode M.2.1 pc = .ok (.iastore, 1))
    (kk : G E d M (pc + 1) (lv) (st) (vf_upd w i0 (.inl (0, n, .inl (upd f j x)))) (im) (kc) (ks) Q) : G E d M (pc) (lv) (.int x :: .int i :: .ref (gad E i0) :: st) (w) (im) (kc) (ks) Q := by
  intro p e R s m args below meth c H locs ls cells slots MC MS dd hdd hf hR hl hP hS hc hs
  obtain ⟨hin, hcl⟩ := g_vpin hx hj hn
  have hat0 := hP.1 i0 hi
  rw [hw] at hat0
  have hat : H[gad E i0]? = some (vp_cell (gdA E 0) (n, .inl (f))) := hat0.2
  refine W.iast hf.1 hf.2.1 hat (g_arr hf.2.2.2.2.2.2.2.2.2 0 (by decide) n _) (fun q => by cases q) (by show ¬ (i < 0 ∨ (arrV _ _ _).slots.size ≤ _); rw [arrV_size]; exact hin) rfl rfl hd fun H1 e9 z oq => ?_
  refine (kk p e R s m args below meth c H1 _ ls cells slots MC MS dd hdd hf hR hl (hP.setW hi (show g_at E (gad E i0) (.inl (0, n, .inl (upd f j x))) H1 from ?_) oq) (hS.put z oq hat0.1) hc hs)
  show H1[gad E i0]? = some (vp_cell _ _)
  rw [e9, vp_cell_i, vp_cell_i, arrV_store]
  congr 2
  funext q
  by_cases hq : q = i.toNatClampNeg
  · subst hq
    simp [updV, upd, hcl]
    try rfl
  · simp [updV, upd, hq]
    intro h8
    exact absurd (h8.trans hcl.symm) hq

theorem g_iastoreI {n j : Nat} {i : Int32} {x : Int32} {f : Nat → Int32} {a : Nat} (hm : im a = some (.inl (0, n, .inl (f)))) (hx : i = nI j) (hj : j < n) (hn : n.blt 2147483648 = true) (hd : decode M.2.1 pc = .ok (.iastore, 1))
    (kk : G E d M (pc + 1) (lv) (st) (w) (vf_upd im a (some (.inl (0, n, .inl (upd f j x))))) (kc) (ks) Q) : G E d M (pc) (lv) (.int x :: .int i :: .ref (a) :: st) (w) (im) (kc) (ks) Q := by
  intro p e R s m args below meth c H locs ls cells slots MC MS dd hdd hf hR hl hP hS hc hs
  obtain ⟨hin, hcl⟩ := g_vpin hx hj hn
  have hat0 := hP.2.1 a _ hm
  have hat : H[a]? = some (vp_cell (gdA E 0) (n, .inl (f))) := hat0.2
  refine W.iast hf.1 hf.2.1 hat (g_arr hf.2.2.2.2.2.2.2.2.2 0 (by decide) n _) (fun q => by cases q) (by show ¬ (i < 0 ∨ (arrV _ _ _).slots.size ≤ _); rw [arrV_size]; exact hin) rfl rfl hd fun H1 e9 z oq => ?_
  refine (kk p e R s m args below meth c H1 _ ls cells slots MC MS dd hdd hf hR hl (hP.setI hm (show g_at E a (.inl (0, n, .inl (upd f j x))) H1 from ?_) oq) (hS.put z oq hat0.1) hc hs)
  show H1[a]? = some (vp_cell _ _)
  rw [e9, vp_cell_i, vp_cell_i, arrV_store]
  congr 2
  funext q
  by_cases hq : q = i.toNatClampNeg
  · subst hq
    simp [updV, upd, hcl]
    try rfl
  · simp [updV, upd, hq]
    intro h8
    exact absurd (h8.trans hcl.symm) hq

theorem g_castoreM {n j : Nat} {i : Int32} {x : Int32} {f : Nat → Int32} (i0 : Nat) (hi : i0 < gN E) (hw : w i0 = .inl (1, n, .inl (f))) (hx : i = nI j) (hj : j < n) (hn : n.blt 2147483648 = true) (hd : decode M.2.1 pc = .ok (.castore, 1))
    (kk : G E d M (pc + 1) (lv) (st) (vf_upd w i0 (.inl (1, n, .inl (upd f j (vp_nar .char x))))) (im) (kc) (ks) Q) : G E d M (pc) (lv) (.int x :: .int i :: .ref (gad E i0) :: st) (w) (im) (kc) (ks) Q := by
  intro p e R s m args below meth c H locs ls cells slots MC MS dd hdd hf hR hl hP hS hc hs
  obtain ⟨hin, hcl⟩ := g_vpin hx hj hn
  have hat0 := hP.1 i0 hi
  rw [hw] at hat0
  have hat : H[gad E i0]? = some (vp_cell (gdA E 1) (n, .inl (f))) := hat0.2
  refine W.cast hf.1 hf.2.1 hat (g_arr hf.2.2.2.2.2.2.2.2.2 1 (by decide) n _) (fun q => by cases q) (by show ¬ (i < 0 ∨ (arrV _ _ _).slots.size ≤ _); rw [arrV_size]; exact hin) rfl rfl hd fun H1 e9 z oq => ?_
  refine (kk p e R s m args below meth c H1 _ ls cells slots MC MS dd hdd hf hR hl (hP.setW hi (show g_at E (gad E i0) (.inl (1, n, .inl (upd f j (vp_nar .char x)))) H1 from ?_) oq) (hS.put z oq hat0.1) hc hs)
  show H1[gad E i0]? = some (vp_cell _ _)
  rw [e9, vp_cell_i, vp_cell_i, arrV_store]
  congr 2
  funext q
  by_cases hq : q = i.toNatClampNeg
  · subst hq
    simp [updV, upd, vp_nar, hcl]
    try rfl
  · simp [updV, upd, vp_nar, hq]
    intro h8
    exact absurd (h8.trans hcl.symm) hq

theorem g_castoreI {n j : Nat} {i : Int32} {x : Int32} {f : Nat → Int32} {a : Nat} (hm : im a = some (.inl (1, n, .inl (f)))) (hx : i = nI j) (hj : j < n) (hn : n.blt 2147483648 = true) (hd : decode M.2.1 pc = .ok (.castore, 1))
    (kk : G E d M (pc + 1) (lv) (st) (w) (vf_upd im a (some (.inl (1, n, .inl (upd f j (vp_nar .char x)))))) (kc) (ks) Q) : G E d M (pc) (lv) (.int x :: .int i :: .ref (a) :: st) (w) (im) (kc) (ks) Q := by
  intro p e R s m args below meth c H locs ls cells slots MC MS dd hdd hf hR hl hP hS hc hs
  obtain ⟨hin, hcl⟩ := g_vpin hx hj hn
  have hat0 := hP.2.1 a _ hm
  have hat : H[a]? = some (vp_cell (gdA E 1) (n, .inl (f))) := hat0.2
  refine W.cast hf.1 hf.2.1 hat (g_arr hf.2.2.2.2.2.2.2.2.2 1 (by decide) n _) (fun q => by cases q) (by show ¬ (i < 0 ∨ (arrV _ _ _).slots.size ≤ _); rw [arrV_size]; exact hin) rfl rfl hd fun H1 e9 z oq => ?_
  refine (kk p e R s m args below meth c H1 _ ls cells slots MC MS dd hdd hf hR hl (hP.setI hm (show g_at E a (.inl (1, n, .inl (upd f j (vp_nar .char x)))) H1 from ?_) oq) (hS.put z oq hat0.1) hc hs)
  show H1[a]? = some (vp_cell _ _)
  rw [e9, vp_cell_i, vp_cell_i, arrV_store]
  congr 2
  funext q
  by_cases hq : q = i.toNatClampNeg
  · subst hq
    simp [updV, upd, vp_nar, hcl]
    try rfl
  · simp [updV, upd, vp_nar, hq]
    intro h8
    exact absurd (h8.trans hcl.symm) hq

theorem g_lastoreM {n j : Nat} {i : Int32} {x : Int64} {f : Nat → Int64} (i0 : Nat) (hi : i0 < gN E) (hw : w i0 = .inl (2, n, .inr (.inl (f)))) (hx : i = nI j) (hj : j < n) (hn : n.blt 2147483648 = true) (hd : decode M.2.1 pc = .ok (.lastore, 1))
    (kk : G E d M (pc + 1) (lv) (st) (vf_upd w i0 (.inl (2, n, .inr (.inl (vp_updL f j x))))) (im) (kc) (ks) Q) : G E d M (pc) (lv) (.long x :: .int i :: .ref (gad E i0) :: st) (w) (im) (kc) (ks) Q := by
  intro p e R s m args below meth c H locs ls cells slots MC MS dd hdd hf hR hl hP hS hc hs
  obtain ⟨hin, hcl⟩ := g_vpin hx hj hn
  have hat0 := hP.1 i0 hi
  rw [hw] at hat0
  have hat : H[gad E i0]? = some (vp_cell (gdA E 2) (n, .inr (.inl (f)))) := hat0.2
  refine W.last hf.1 hf.2.1 hat (g_arr hf.2.2.2.2.2.2.2.2.2 2 (by decide) n _) (fun q => by cases q) (by show ¬ (i < 0 ∨ (arrV _ _ _).slots.size ≤ _); rw [arrV_size]; exact hin) rfl rfl hd fun H1 e9 z oq => ?_
  refine (kk p e R s m args below meth c H1 _ ls cells slots MC MS dd hdd hf hR hl (hP.setW hi (show g_at E (gad E i0) (.inl (2, n, .inr (.inl (vp_updL f j x)))) H1 from ?_) oq) (hS.put z oq hat0.1) hc hs)
  show H1[gad E i0]? = some (vp_cell _ _)
  rw [e9, vp_cell_l, vp_cell_l, arrV_store]
  congr 2
  funext q
  by_cases hq : q = i.toNatClampNeg
  · subst hq
    simp [updV, vp_updL, hcl]
    try rfl
  · simp [updV, vp_updL, hq]
    intro h8
    exact absurd (h8.trans hcl.symm) hq

theorem g_lastoreI {n j : Nat} {i : Int32} {x : Int64} {f : Nat → Int64} {a : Nat} (hm : im a = some (.inl (2, n, .inr (.inl (f))))) (hx : i = nI j) (hj : j < n) (hn : n.blt 2147483648 = true) (hd : decode M.2.1 pc = .ok (.lastore, 1))
    (kk : G E d M (pc + 1) (lv) (st) (w) (vf_upd im a (some (.inl (2, n, .inr (.inl (vp_updL f j x)))))) (kc) (ks) Q) : G E d M (pc) (lv) (.long x :: .int i :: .ref (a) :: st) (w) (im) (kc) (ks) Q := by
  intro p e R s m args below meth c H locs ls cells slots MC MS dd hdd hf hR hl hP hS hc hs
  obtain ⟨hin, hcl⟩ := g_vpin hx hj hn
  have hat0 := hP.2.1 a _ hm
  have hat : H[a]? = some (vp_cell (gdA E 2) (n, .inr (.inl (f)))) := hat0.2
  refine W.last hf.1 hf.2.1 hat (g_arr hf.2.2.2.2.2.2.2.2.2 2 (by decide) n _) (fun q => by cases q) (by show ¬ (i < 0 ∨ (arrV _ _ _).slots.size ≤ _); rw [arrV_size]; exact hin) rfl rfl hd fun H1 e9 z oq => ?_
  refine (kk p e R s m args below meth c H1 _ ls cells slots MC MS dd hdd hf hR hl (hP.setI hm (show g_at E a (.inl (2, n, .inr (.inl (vp_updL f j x)))) H1 from ?_) oq) (hS.put z oq hat0.1) hc hs)
  show H1[a]? = some (vp_cell _ _)
  rw [e9, vp_cell_l, vp_cell_l, arrV_store]
  congr 2
  funext q
  by_cases hq : q = i.toNatClampNeg
  · subst hq
    simp [updV, vp_updL, hcl]
    try rfl
  · simp [updV, vp_updL, hq]
    intro h8
    exact absurd (h8.trans hcl.symm) hq

theorem g_dastoreM {n j : Nat} {i : Int32} {x : UInt64} {f : Nat → UInt64} (i0 : Nat) (hi : i0 < gN E) (hw : w i0 = .inl (3, n, .inr (.inr (.inr (.inl (f)))))) (hx : i = nI j) (hj : j < n) (hn : n.blt 2147483648 = true) (hd : decode M.2.1 pc = .ok (.dastore, 1))
    (kk : G E d M (pc + 1) (lv) (st) (vf_upd w i0 (.inl (3, n, .inr (.inr (.inr (.inl (vf_upd f j x))))))) (im) (kc) (ks) Q) : G E d M (pc) (lv) (.double x :: .int i :: .ref (gad E i0) :: st) (w) (im) (kc) (ks) Q := by
  intro p e R s m args below meth c H locs ls cells slots MC MS dd hdd hf hR hl hP hS hc hs
  obtain ⟨hin, hcl⟩ := g_vpin hx hj hn
  have hat0 := hP.1 i0 hi
  rw [hw] at hat0
  have hat : H[gad E i0]? = some (vp_cell (gdA E 3) (n, .inr (.inr (.inr (.inl (f)))))) := hat0.2
  refine W.dast hf.1 hf.2.1 hat (g_arr hf.2.2.2.2.2.2.2.2.2 3 (by decide) n _) (fun q => by cases q) (by show ¬ (i < 0 ∨ (arrV _ _ _).slots.size ≤ _); rw [arrV_size]; exact hin) rfl rfl hd fun H1 e9 z oq => ?_
  refine (kk p e R s m args below meth c H1 _ ls cells slots MC MS dd hdd hf hR hl (hP.setW hi (show g_at E (gad E i0) (.inl (3, n, .inr (.inr (.inr (.inl (vf_upd f j x)))))) H1 from ?_) oq) (hS.put z oq hat0.1) hc hs)
  show H1[gad E i0]? = some (vp_cell _ _)
  rw [e9, vp_cell_d, vp_cell_d, arrV_store]
  congr 2
  funext q
  by_cases hq : q = i.toNatClampNeg
  · subst hq
    simp [updV, vf_upd, hcl]
    try rfl
  · simp [updV, vf_upd, hq]
    intro h8
    exact absurd (h8.trans hcl.symm) hq

theorem g_dastoreI {n j : Nat} {i : Int32} {x : UInt64} {f : Nat → UInt64} {a : Nat} (hm : im a = some (.inl (3, n, .inr (.inr (.inr (.inl (f))))))) (hx : i = nI j) (hj : j < n) (hn : n.blt 2147483648 = true) (hd : decode M.2.1 pc = .ok (.dastore, 1))
    (kk : G E d M (pc + 1) (lv) (st) (w) (vf_upd im a (some (.inl (3, n, .inr (.inr (.inr (.inl (vf_upd f j x)))))))) (kc) (ks) Q) : G E d M (pc) (lv) (.double x :: .int i :: .ref (a) :: st) (w) (im) (kc) (ks) Q := by
  intro p e R s m args below meth c H locs ls cells slots MC MS dd hdd hf hR hl hP hS hc hs
  obtain ⟨hin, hcl⟩ := g_vpin hx hj hn
  have hat0 := hP.2.1 a _ hm
  have hat : H[a]? = some (vp_cell (gdA E 3) (n, .inr (.inr (.inr (.inl (f)))))) := hat0.2
  refine W.dast hf.1 hf.2.1 hat (g_arr hf.2.2.2.2.2.2.2.2.2 3 (by decide) n _) (fun q => by cases q) (by show ¬ (i < 0 ∨ (arrV _ _ _).slots.size ≤ _); rw [arrV_size]; exact hin) rfl rfl hd fun H1 e9 z oq => ?_
  refine (kk p e R s m args below meth c H1 _ ls cells slots MC MS dd hdd hf hR hl (hP.setI hm (show g_at E a (.inl (3, n, .inr (.inr (.inr (.inl (vf_upd f j x)))))) H1 from ?_) oq) (hS.put z oq hat0.1) hc hs)
  show H1[a]? = some (vp_cell _ _)
  rw [e9, vp_cell_d, vp_cell_d, arrV_store]
  congr 2
  funext q
  by_cases hq : q = i.toNatClampNeg
  · subst hq
    simp [updV, vf_upd, hcl]
    try rfl
  · simp [updV, vf_upd, hq]
    intro h8
    exact absurd (h8.trans hcl.symm) hq

theorem g_aastoreM {t n j b ci : Nat} {i : Int32} {f : Nat → Option Nat} {fs : List Value} (i0 : Nat) (hi : i0 < gN E) (hw : w i0 = .inl (t, n, .inr (.inr (.inr (.inr f))))) (ht : t < 8) (hci : ci < 10) (hC : g_ty t = .object (g_C ci)) (hb : g_cell E w im b (.inr (ci, fs))) (hx : i = nI j) (hj : j < n) (hn : n.blt 2147483648 = true) (hd : decode M.2.1 pc = .ok (.aastore, 1))
    (kk : G E d M (pc + 1) (lv) (st) (vf_upd w i0 (.inl (t, n, .inr (.inr (.inr (.inr (va_up f j (some b)))))))) (im) (kc) (ks) Q) : G E d M (pc) (lv) (.ref b :: .int i :: .ref (gad E i0) :: st) (w) (im) (kc) (ks) Q := by
  intro p e R s m args below meth c H locs ls cells slots MC MS dd hdd hf hR hl hP hS hc hs
  obtain ⟨hin, hcl⟩ := g_vpin hx hj hn
  have hat0 := hP.1 i0 hi
  rw [hw] at hat0
  have hat : H[gad E i0]? = some (vp_cell (gdA E t) (n, .inr (.inr (.inr (.inr f))))) := hat0.2
  obtain ⟨-, r', hr', cellV, g1, g2, g3, -⟩ := hP.get hb
  have hK := hf.2.2.2.2.2.2.2.2.2
  have hcls := ((hf.2.2.2.2.2.2.2.2.2.1).1 ci _ (g_clat hci)).2
  obtain ⟨kA, comp, k1, k2, k3, -⟩ : ∃ (kA : Class) (comp : ClassId), s.vm.classes[gdA E t]? = some kA ∧ kA.kind = .array comp (.object (g_C ci)) ∧ s.vm.findClass (g_C ci) = some comp ∧ s.vm.findClass ("[" ++ (FieldType.object (g_C ci)).toString) = some (gdA E t) := by
    have h9 := (hK.2.1 t ht).2
    rw [hC] at h9
    exact h9
  have hcomp : comp = (gD E).1 ci := Option.some.inj (k3.symm.trans hcls.1)
  subst hcomp
  obtain ⟨kC, hkC, -⟩ := hcls.2
  have hlt : i.toNatClampNeg < n := by rw [hcl]; exact hj
  have h0 : ¬ i < 0 := fun q => hin (Or.inl q)
  refine W.aast hf.1 hf.2.1 hat (fun q h => by cases h) (fun h => by cases h) k1 k2 rfl hkC ⟨h0, by show _ < (arrV _ _ _).slots.size; rw [arrV_size]; exact hlt⟩ g1 (fun q h => by rw [g3] at h; cases h) (by rw [g2]; exact hkC) (by rw [g2]; exact va_assign hcls) rfl rfl hd fun H1 e9 z oq => ?_
  refine (kk p e R s m args below meth c H1 _ ls cells slots MC MS dd hdd hf hR hl (hP.setW hi (show g_at E (gad E i0) (.inl (t, n, .inr (.inr (.inr (.inr (va_up f j (some b))))))) H1 from ?_) oq) (hS.put z oq hat0.1) hc hs)
  show H1[gad E i0]? = some (vp_cell _ _)
  rw [e9, vp_cell_q, vp_cell_q, arrV_store]
  congr 2
  funext q
  by_cases hq : q = i.toNatClampNeg
  · subst hq
    simp [updV, va_up, va_rf, hcl]
  · simp [updV, va_up, hq]
    rw [if_neg (by rw [← hcl]; exact hq)]

theorem g_aastoreNM {t n j : Nat} {i : Int32} {f : Nat → Option Nat} {C : String} (i0 : Nat) (hi : i0 < gN E) (hw : w i0 = .inl (t, n, .inr (.inr (.inr (.inr f))))) (ht : t < 8) (hC : g_ty t = .object C) (hx : i = nI j) (hj : j < n) (hn : n.blt 2147483648 = true) (hd : decode M.2.1 pc = .ok (.aastore, 1))
    (kk : G E d M (pc + 1) (lv) (st) (vf_upd w i0 (.inl (t, n, .inr (.inr (.inr (.inr (va_up f j none))))))) (im) (kc) (ks) Q) : G E d M (pc) (lv) (.null :: .int i :: .ref (gad E i0) :: st) (w) (im) (kc) (ks) Q := by
  intro p e R s m args below meth c H locs ls cells slots MC MS dd hdd hf hR hl hP hS hc hs
  obtain ⟨hin, hcl⟩ := g_vpin hx hj hn
  have hat0 := hP.1 i0 hi
  rw [hw] at hat0
  have hat : H[gad E i0]? = some (vp_cell (gdA E t) (n, .inr (.inr (.inr (.inr f))))) := hat0.2
  refine va_WaastN (C := C) hf.1 hf.2.1 hat (hC ▸ g_arr hf.2.2.2.2.2.2.2.2.2 t ht n _) (fun q => by cases q) (by show ¬ (i < 0 ∨ (arrV _ _ _).slots.size ≤ _); rw [arrV_size]; exact hin) rfl rfl hd fun H1 e9 z oq => ?_
  refine (kk p e R s m args below meth c H1 _ ls cells slots MC MS dd hdd hf hR hl (hP.setW hi (show g_at E (gad E i0) (.inl (t, n, .inr (.inr (.inr (.inr (va_up f j none)))))) H1 from ?_) oq) (hS.put z oq hat0.1) hc hs)
  show H1[gad E i0]? = some (vp_cell _ _)
  rw [e9, vp_cell_q, vp_cell_q, arrV_store]
  congr 2
  funext q
  by_cases hq : q = i.toNatClampNeg
  · subst hq
    simp [updV, va_up, va_rf, hcl]
  · simp [updV, va_up, hq]
    rw [if_neg (by rw [← hcl]; exact hq)]

theorem g_aastoreI {t n j b ci : Nat} {i : Int32} {f : Nat → Option Nat} {fs : List Value} {a : Nat} (hm : im a = some (.inl (t, n, .inr (.inr (.inr (.inr f)))))) (ht : t < 8) (hci : ci < 10) (hC : g_ty t = .object (g_C ci)) (hb : g_cell E w im b (.inr (ci, fs))) (hx : i = nI j) (hj : j < n) (hn : n.blt 2147483648 = true) (hd : decode M.2.1 pc = .ok (.aastore, 1))
    (kk : G E d M (pc + 1) (lv) (st) (w) (vf_upd im a (some (.inl (t, n, .inr (.inr (.inr (.inr (va_up f j (some b))))))))) (kc) (ks) Q) : G E d M (pc) (lv) (.ref b :: .int i :: .ref (a) :: st) (w) (im) (kc) (ks) Q := by
  intro p e R s m args below meth c H locs ls cells slots MC MS dd hdd hf hR hl hP hS hc hs
  obtain ⟨hin, hcl⟩ := g_vpin hx hj hn
  have hat0 := hP.2.1 a _ hm
  have hat : H[a]? = some (vp_cell (gdA E t) (n, .inr (.inr (.inr (.inr f))))) := hat0.2
  obtain ⟨-, r', hr', cellV, g1, g2, g3, -⟩ := hP.get hb
  have hK := hf.2.2.2.2.2.2.2.2.2
  have hcls := ((hf.2.2.2.2.2.2.2.2.2.1).1 ci _ (g_clat hci)).2
  obtain ⟨kA, comp, k1, k2, k3, -⟩ : ∃ (kA : Class) (comp : ClassId), s.vm.classes[gdA E t]? = some kA ∧ kA.kind = .array comp (.object (g_C ci)) ∧ s.vm.findClass (g_C ci) = some comp ∧ s.vm.findClass ("[" ++ (FieldType.object (g_C ci)).toString) = some (gdA E t) := by
    have h9 := (hK.2.1 t ht).2
    rw [hC] at h9
    exact h9
  have hcomp : comp = (gD E).1 ci := Option.some.inj (k3.symm.trans hcls.1)
  subst hcomp
  obtain ⟨kC, hkC, -⟩ := hcls.2
  have hlt : i.toNatClampNeg < n := by rw [hcl]; exact hj
  have h0 : ¬ i < 0 := fun q => hin (Or.inl q)
  refine W.aast hf.1 hf.2.1 hat (fun q h => by cases h) (fun h => by cases h) k1 k2 rfl hkC ⟨h0, by show _ < (arrV _ _ _).slots.size; rw [arrV_size]; exact hlt⟩ g1 (fun q h => by rw [g3] at h; cases h) (by rw [g2]; exact hkC) (by rw [g2]; exact va_assign hcls) rfl rfl hd fun H1 e9 z oq => ?_
  refine (kk p e R s m args below meth c H1 _ ls cells slots MC MS dd hdd hf hR hl (hP.setI hm (show g_at E a (.inl (t, n, .inr (.inr (.inr (.inr (va_up f j (some b))))))) H1 from ?_) oq) (hS.put z oq hat0.1) hc hs)
  show H1[a]? = some (vp_cell _ _)
  rw [e9, vp_cell_q, vp_cell_q, arrV_store]
  congr 2
  funext q
  by_cases hq : q = i.toNatClampNeg
  · subst hq
    simp [updV, va_up, va_rf, hcl]
  · simp [updV, va_up, hq]
    rw [if_neg (by rw [← hcl]; exact hq)]

theorem g_aastoreNI {t n j : Nat} {i : Int32} {f : Nat → Option Nat} {C : String} {a : Nat} (hm : im a = some (.inl (t, n, .inr (.inr (.inr (.inr f)))))) (ht : t < 8) (hC : g_ty t = .object C) (hx : i = nI j) (hj : j < n) (hn : n.blt 2147483648 = true) (hd : decode M.2.1 pc = .ok (.aastore, 1))
    (kk : G E d M (pc + 1) (lv) (st) (w) (vf_upd im a (some (.inl (t, n, .inr (.inr (.inr (.inr (va_up f j none)))))))) (kc) (ks) Q) : G E d M (pc) (lv) (.null :: .int i :: .ref (a) :: st) (w) (im) (kc) (ks) Q := by
  intro p e R s m args below meth c H locs ls cells slots MC MS dd hdd hf hR hl hP hS hc hs
  obtain ⟨hin, hcl⟩ := g_vpin hx hj hn
  have hat0 := hP.2.1 a _ hm
  have hat : H[a]? = some (vp_cell (gdA E t) (n, .inr (.inr (.inr (.inr f))))) := hat0.2
  refine va_WaastN (C := C) hf.1 hf.2.1 hat (hC ▸ g_arr hf.2.2.2.2.2.2.2.2.2 t ht n _) (fun q => by cases q) (by show ¬ (i < 0 ∨ (arrV _ _ _).slots.size ≤ _); rw [arrV_size]; exact hin) rfl rfl hd fun H1 e9 z oq => ?_
  refine (kk p e R s m args below meth c H1 _ ls cells slots MC MS dd hdd hf hR hl (hP.setI hm (show g_at E a (.inl (t, n, .inr (.inr (.inr (.inr (va_up f j none)))))) H1 from ?_) oq) (hS.put z oq hat0.1) hc hs)
  show H1[a]? = some (vp_cell _ _)
  rw [e9, vp_cell_q, vp_cell_q, arrV_store]
  congr 2
  funext q
  by_cases hq : q = i.toNatClampNeg
  · subst hq
    simp [updV, va_up, va_rf, hcl]
  · simp [updV, va_up, hq]
    rw [if_neg (by rw [← hcl]; exact hq)]

def g_def (ci : Nat) : List Value := (List.range (g_n ci)).map fun k => defaultValue (g_y ci k)
theorem g_defV {ci j : Nat} (hj : j < g_n ci) : defaultValue (g_y ci j) = vp_V (g_def ci) j := by
  simp [vp_V, g_def, List.getD_eq_getElem?_getD, hj]
theorem g_new {idx : Nat} (ci : Nat) (hci : ci < 10) (h1 : Cond.classLink M.1 idx (g_C ci) ∈ g_all) (h2 : Cond.instantiable (g_C ci) (g_n ci) ∈ g_all) (h3 : Cond.initialized (g_C ci) ∈ g_all) (hk1 : 1 ≤ kc) (hk2 : g_n ci ≤ ks) (hd : decode M.2.1 pc = .ok (.new idx, 3))
    (kk : ∀ q : Nat, im q = none → (∀ i, i < gN E → gad E i ≠ q) → G E d M (pc + 3) (lv) (.ref q :: st) (w) (vf_upd im q (some (.inr (ci, g_def ci)))) (kc - 1) (ks - g_n ci) Q) : G E d M (pc) (lv) (st) (w) (im) (kc) (ks) Q := by
  intro p e R s m args below meth c H locs ls cells slots MC MS dd hdd hf hR hl hP hS hc hs
  have hKn := (hf.2.2.2.2.2.2.2.2.2.1).1 ci _ (g_clat hci)
  have hgb : gb E ≤ H.size := Nat.le_trans (hf.2.2.2.2.2.2.2.2.2.2.2.2.2.2.2.2.2.2.2.1) hS.1
  refine W.newcK hf.1 hf.2.1 hf.2.2.2.1 (hf.2.2.2.2.1 _ h1) (hf.2.2.2.2.1 _ h2) (hf.2.2.2.2.1 _ h3) rfl hd (by have := hR.2.2.1; omega) (by have := hR.2.2.2; omega) hKn.2.1 rfl fun H1 kC hkC e1 z1 o1 => ?_
  have hat : g_at E H.size (.inr (ci, g_def ci)) H1 := ⟨_, g_clat hci, (u_born (g_y ci) hf.2.2.2.2.1 (g_lays hci) hKn hkC e1 (g_tyok hci)).to (fun j hj => g_defV hj)⟩
  obtain ⟨f1, f2, f3⟩ := hP.push hgb hat o1
  exact (kk H.size f1 f2 p e R s m args below meth c H1 locs ls (cells + 1) (slots + g_n ci) MC MS dd hdd hf hR hl f3 ⟨Nat.le_trans hS.1 (by omega), fun x h1 h2 => (o1 x (Nat.lt_of_lt_of_le h1 hS.1)).trans (hS.2.1 x h1 h2), hS.2.2⟩ (by omega) (by omega))

def g_zero (t : Nat) : (Nat → Int32) ⊕ (Nat → Int64) ⊕ (Nat → UInt32) ⊕ (Nat → UInt64) ⊕ (Nat → Option Nat) := match t with
  | 0 => .inl (fun _ => 0)
  | 1 => .inl (fun _ => 0)
  | 2 => .inr (.inl (fun _ => 0))
  | 3 => .inr (.inr (.inr (.inl (fun _ => 0))))
  | _ => .inr (.inr (.inr (.inr (fun _ => none))))
theorem g_newarray {atype : ArrayType} (t : Nat) (ht : t < 4) (hty : newarray.typeOf atype = g_ty t) (h1 : Cond.arrayClass (g_ty t) ∈ g_all) {n : Int32} {N : Nat} (hn : n = nI N) (hN : N ≤ 100000) (hk1 : 1 ≤ kc) (hk2 : N ≤ ks) (hd : decode M.2.1 pc = .ok (.newarray atype, 2))
    (kk : ∀ q : Nat, im q = none → (∀ i, i < gN E → gad E i ≠ q) → G E d M (pc + 2) (lv) (.ref q :: st) (w) (vf_upd im q (some (.inl (t, N, g_zero t)))) (kc - 1) (ks - N) Q) : G E d M (pc) (lv) (.int n :: st) (w) (im) (kc) (ks) Q := by
  intro p e R s m args below meth c H locs ls cells slots MC MS dd hdd hf hR hl hP hS hc hs
  have hK := hf.2.2.2.2.2.2.2.2.2
  have hgb : gb E ≤ H.size := Nat.le_trans (hf.2.2.2.2.2.2.2.2.2.2.2.2.2.2.2.2.2.2.2.1) hS.1
  have hn0 : ¬ n < 0 := by rw [hn]; exact nI_pos (by omega)
  have hcb : N * componentBytes (newarray.typeOf atype) ≤ 536870912 := by
    have : componentBytes (newarray.typeOf atype) ≤ 8 := by cases atype <;> decide
    exact Nat.le_trans (Nat.mul_le_mul hN this) (by decide)
  refine va_newaK hf.1 hf.2.1 (hf.2.2.2.2.1 _ (hty ▸ h1)) rfl hd rfl hn0 (by rw [hn]; exact nI_clamp (by omega)) hcb (by have := hR.2.2.1; omega) (by have := hR.2.2.2; omega) rfl fun H1 cA e1 z1 o1 hAr hNm => ?_
  have hcA : cA = gdA E t := by
    have h9 := (hK.2.1 t (by omega)).2
    have h8 : s.vm.findClass ("[" ++ (g_ty t).toString) = some (gdA E t) := by
      match t, ht with
      | 0, _ => exact h9
      | 1, _ => exact h9
      | 2, _ => exact h9
      | 3, _ => exact h9
    rw [hty] at hNm
    exact Option.some.inj (hNm.symm.trans h8)
  have hat : g_at E H.size (.inl (t, N, g_zero t)) H1 := by
    show H1[H.size]? = some (vp_cell (gdA E t) (N, g_zero t))
    rw [e1, hcA, hty]
    match t, ht with
    | 0, _ => rfl
    | 1, _ => rfl
    | 2, _ => rfl
    | 3, _ => rfl
  obtain ⟨f1, f2, f3⟩ := hP.push hgb hat o1
  exact (kk H.size f1 f2 p e R s m args below meth c H1 locs ls (cells + 1) (slots + N) MC MS dd hdd hf hR hl f3 ⟨Nat.le_trans hS.1 (by omega), fun x h1 h2 => (o1 x (Nat.lt_of_lt_of_le h1 hS.1)).trans (hS.2.1 x h1 h2), hS.2.2⟩ (by omega) (by omega))

theorem g_anewarray {idx : Nat} {C : String} (t : Nat) (ht : 4 ≤ t) (ht8 : t < 8) (hty : g_ty t = .object C) (h1 : Cond.classLink M.1 idx C ∈ g_all) (h2 : C ∈ g_ao) {n : Int32} {N : Nat} (hn : n = nI N) (hN : N ≤ 100000) (hk1 : 1 ≤ kc) (hk2 : N ≤ ks) (hd : decode M.2.1 pc = .ok (.anewarray idx, 3))
    (kk : ∀ q : Nat, im q = none → (∀ i, i < gN E → gad E i ≠ q) → G E d M (pc + 3) (lv) (.ref q :: st) (w) (vf_upd im q (some (.inl (t, N, g_zero t)))) (kc - 1) (ks - N) Q) : G E d M (pc) (lv) (.int n :: st) (w) (im) (kc) (ks) Q := by
  intro p e R s m args below meth c H locs ls cells slots MC MS dd hdd hf hR hl hP hS hc hs
  have hK := hf.2.2.2.2.2.2.2.2.2
  have hgb : gb E ≤ H.size := Nat.le_trans (hf.2.2.2.2.2.2.2.2.2.2.2.2.2.2.2.2.2.2.2.1) hS.1
  have hn0 : ¬ n < 0 := by rw [hn]; exact nI_pos (by omega)
  have hcl : n.toNatClampNeg = N := by rw [hn]; exact nI_clamp (by omega)
  refine W.anew hf.1 hf.2.1 hf.2.2.2.1 (hf.2.2.2.2.1 _ h1) (va_AO.use (hf.2.2.2.2.2.2.2.2.2.2.2.2.2.2.2.2.1 _ h2)) rfl hd rfl hn0 (by rw [hcl]; omega) (by have := hR.2.2.1; omega) (by have := hR.2.2.2; rw [hcl]; omega) fun cA kA comp f1 f2 f3 f4 => ?_
  rw [hcl]
  generalize hH1 : H.push ({ cls := cA, slots := Array.replicate N .null, vm := .none } : Cell) = H1
  have z1 : H1.size = H.size + 1 := by rw [← hH1, Array.size_push]
  have e1 : H1[H.size]? = some (arrV cA N (fun _ => .null)) := by rw [← hH1, Array.getElem?_push_size, ← arrV_new]
  have o1 : ∀ q : Nat, q < H.size → H1[q]? = H[q]? := fun q hq => by rw [← hH1, Array.getElem?_push, if_neg (Nat.ne_of_lt hq)]
  have hz : g_zero t = .inr (.inr (.inr (.inr (fun _ => none)))) := by
    match t, ht with
    | t + 4, _ => rfl
  have hcA : cA = gdA E t := by
    have h9 := (hK.2.1 t ht8).2
    rw [hty] at h9
    obtain ⟨_, _, -, -, -, h8⟩ := h9
    exact Option.some.inj (f1.symm.trans h8)
  have hat : g_at E H.size (.inl (t, N, g_zero t)) H1 := by
    show H1[H.size]? = some (vp_cell (gdA E t) (N, g_zero t))
    rw [e1, hcA, hz]
    rfl
  obtain ⟨f5, f6, f7⟩ := hP.push hgb hat o1
  exact (kk H.size f5 f6 p e R s m args below meth c H1 locs ls (cells + 1) (slots + N) MC MS dd hdd hf hR hl f7 ⟨Nat.le_trans hS.1 (by omega), fun x h1 h2 => (o1 x (Nat.lt_of_lt_of_le h1 hS.1)).trans (hS.2.1 x h1 h2), hS.2.2⟩ (by omega) (by omega))

theorem g_objInit {idx a : Nat} (h1 : Cond.methodLink M.1 idx Lib.objectInit ∈ g_all) (h2 : Cond.instanceMethod Lib.objectInit ∈ g_all) (h3 : Cond.code Lib.objectInit ⟨#[0xb1]⟩ 1 none ∈ g_all) (hcat : (st.map fun v => v.category).sum ≤ 8) (hd : decode M.2.1 pc = .ok (.invokespecial idx, 3))
    (kk : G E d M (pc + 3) (lv) (st) (w) (im) (kc) (ks) Q) : G E d M (pc) (lv) (.ref a :: st) (w) (im) (kc) (ks) Q := by
  intro p e R s m args below meth c H locs ls cells slots MC MS dd hdd hf hR hl hP hS hc hs
  exact W.objInit hf.1 hf.2.1 hf.2.2.2.1 (hf.2.2.2.2.1 _ h1) (hf.2.2.2.2.1 _ h2) (hf.2.2.2.2.1 _ h3) rfl (by rw [hf.2.2.1]; exact hl.1) rfl hd (by have := hR.1; omega) (by show 2 * 0 + _ + 12 ≤ _; have := hR.2.1; omega) (kk p e R s m args below meth c H locs ls cells slots MC MS dd hdd hf hR hl hP hS hc hs)

theorem g_mmax {idx : Nat} {x y : Int32} (h1 : Cond.methodLink M.1 idx Lib.Math.max.name ∈ g_all) (h2 : Cond.static Lib.Math.max.name ∈ g_all) (h3 : Cond.initialized "java/lang/Math" ∈ g_all) (h4 : Cond.code Lib.Math.max.name Lib.Math.max.code 2 (some .int) ∈ g_all) (hcat : (st.map fun v => v.category).sum ≤ 8) (hd : decode M.2.1 pc = .ok (.invokestatic idx, 3))
    (kk : G E d M (pc + 3) (lv) (.int (if x < y then y else x) :: st) (w) (im) (kc) (ks) Q) : G E d M (pc) (lv) (.int y :: .int x :: st) (w) (im) (kc) (ks) Q := by
  intro p e R s m args below meth c H locs ls cells slots MC MS dd hdd hf hR hl hP hS hc hs
  exact va_mmax hf.1 hf.2.1 (by rw [hf.2.2.1]; exact hl.1.symm) hf.2.2.2.1 (hf.2.2.2.2.1 _ h1) (hf.2.2.2.2.1 _ h2) (hf.2.2.2.2.1 _ h3) (hf.2.2.2.2.1 _ h4) (by have := hR.1; omega) (by have := hR.2.1; omega) (by have := hR.2.2.1; omega) (by have := hR.2.2.2; omega) hd (kk p e R s m args below meth c H locs ls cells slots MC MS dd hdd hf hR hl hP hS hc hs)

theorem g_mmin {idx : Nat} {x y : Int32} (h1 : Cond.methodLink M.1 idx Lib.Math.min.name ∈ g_all) (h2 : Cond.static Lib.Math.min.name ∈ g_all) (h3 : Cond.initialized "java/lang/Math" ∈ g_all) (h4 : Cond.code Lib.Math.min.name Lib.Math.min.code 2 (some .int) ∈ g_all) (hcat : (st.map fun v => v.category).sum ≤ 8) (hd : decode M.2.1 pc = .ok (.invokestatic idx, 3))
    (kk : G E d M (pc + 3) (lv) (.int (if y < x then y else x) :: st) (w) (im) (kc) (ks) Q) : G E d M (pc) (lv) (.int y :: .int x :: st) (w) (im) (kc) (ks) Q := by
  intro p e R s m args below meth c H locs ls cells slots MC MS dd hdd hf hR hl hP hS hc hs
  exact va_mmin hf.1 hf.2.1 (by rw [hf.2.2.1]; exact hl.1.symm) hf.2.2.2.1 (hf.2.2.2.2.1 _ h1) (hf.2.2.2.2.1 _ h2) (hf.2.2.2.2.1 _ h3) (hf.2.2.2.2.1 _ h4) (by have := hR.1; omega) (by have := hR.2.1; omega) (by have := hR.2.2.1; omega) (by have := hR.2.2.2; omega) hd (kk p e R s m args below meth c H locs ls cells slots MC MS dd hdd hf hR hl hP hS hc hs)

theorem g_mabs {idx : Nat} {x : Int32} (h1 : Cond.methodLink M.1 idx Lib.Math.abs.name ∈ g_all) (h2 : Cond.static Lib.Math.abs.name ∈ g_all) (h3 : Cond.initialized "java/lang/Math" ∈ g_all) (h4 : Cond.code Lib.Math.abs.name Lib.Math.abs.code 1 (some .int) ∈ g_all) (hcat : (st.map fun v => v.category).sum ≤ 8) (hd : decode M.2.1 pc = .ok (.invokestatic idx, 3))
    (kk : G E d M (pc + 3) (lv) (.int (if 0 ≤ x then x else 0 - x) :: st) (w) (im) (kc) (ks) Q) : G E d M (pc) (lv) (.int x :: st) (w) (im) (kc) (ks) Q := by
  intro p e R s m args below meth c H locs ls cells slots MC MS dd hdd hf hR hl hP hS hc hs
  exact va_mabs hf.1 hf.2.1 (by rw [hf.2.2.1]; exact hl.1.symm) hf.2.2.2.1 (hf.2.2.2.2.1 _ h1) (hf.2.2.2.2.1 _ h2) (hf.2.2.2.2.1 _ h3) (hf.2.2.2.2.1 _ h4) (by have := hR.1; omega) (by have := hR.2.1; omega) (by have := hR.2.2.1; omega) (by have := hR.2.2.2; omega) hd (kk p e R s m args below meth c H locs ls cells slots MC MS dd hdd hf hR hl hP hS hc hs)

theorem g_arraycopy {idx a0 i1 n0 n1 N : Nat} {sp dp n : Int32} {f g : Nat → Int32} (h1 : Cond.methodLink M.1 idx arraycopyName ∈ g_all) (h2 : Cond.native arraycopyName ∈ g_all) (h3 : Cond.static arraycopyName ∈ g_all) (h4 : Cond.initialized "java/lang/System" ∈ g_all) (hcat : (st.map fun v => v.category).sum ≤ 8)
    (hc0 : g_cell E w im a0 (.inl (0, n0, .inl f))) (hi1 : i1 < gN E) (hw1 : w i1 = .inl (0, n1, .inl g)) (hsp : sp = 0) (hdp : dp = 0) (hn : n = nI N) (hN0 : N ≤ n0) (hN1 : N ≤ n1) (hNb : N.blt 2147483648 = true) (hd : decode M.2.1 pc = .ok (.invokestatic idx, 3))
    (kk : G E d M (pc + 3) (lv) (st) (vf_upd w i1 (.inl (0, n1, .inl (va_cpy f g 0 0 N)))) (im) (kc) (ks) Q) : G E d M (pc) (lv) (.int n :: .int dp :: .ref (gad E i1) :: .int sp :: .ref a0 :: st) (w) (im) (kc) (ks) Q := by
  intro p e R s m args below meth c H locs ls cells slots MC MS dd hdd hf hR hl hP hS hc hs
  have hNb' : N < 2147483648 := by simpa using hNb
  have hcl : n.toNatClampNeg = N := by rw [hn]; exact nI_clamp hNb'
  have hti : n.toInt = (N : Int) := by rw [hn]; exact nI_toInt hNb'
  have hn0 : ¬ n < 0 := by rw [hn]; exact nI_pos hNb'
  have hz0 : ¬ (0 : Int32) < 0 := by decide
  have hK := hf.2.2.2.2.2.2.2.2.2
  have hat0 : H[a0]? = some (arrV (gdA E 0) n0 (fun j => .int (f j))) := (hP.get hc0).2
  have hat9 := hP.1 i1 hi1
  rw [hw1] at hat9
  have hat1 : H[gad E i1]? = some (arrV (gdA E 0) n1 (fun j => .int (g j))) := hat9.2
  subst hsp; subst hdp
  obtain ⟨-, k0, hk0, cm0, hkk0⟩ := g_arr hK 0 (by decide) n0 (fun j => .int (f j))
  obtain ⟨-, k1, hk1, cm1, hkk1⟩ := g_arr hK 0 (by decide) n1 (fun j => .int (g j))
  intro T hT X
  have hml : c.maxLocals = ls.size := by rw [hf.2.2.1]; exact hl.1.symm
  have e9 : nativeFrameWords "java/lang/System" "arraycopy" 5 ≤ 100 := by decide +kernel
  have hloc9 : 2 * 0 + (st.map fun v => v.category).sum + (nativeFrameWords "java/lang/System" "arraycopy" 5 + 11) ≤ R.locals := by
    have := hR.2.1
    omega
  obtain ⟨vm', X', step⟩ := X.arraycopy hf.1 hf.2.2.2.1 (hf.2.2.2.2.1 _ h1) (hf.2.2.2.2.1 _ h2) (hf.2.2.2.2.1 _ h3) (hf.2.2.2.2.1 _ h4) (src := a0) (dst := gad E i1) (cs := arrV (gdA E 0) n0 (fun j => .int (f j))) (cd := arrV (gdA E 0) n1 (fun j => .int (g j))) (srcPos := 0) (destPos := 0) (n := n) (by rw [hT]; exact hat0) (by rw [hT]; exact hat1)
    (fun _ h => by cases h) (fun _ h => by cases h) (fun h => by cases h) (fun h => by cases h) hk0 hk1 hkk0 hkk1 (by decide) hz0 hz0 hn0
    (by rw [hti, arrV_size]; show ¬ ((0 : Int) + N > n0); omega)
    (by rw [hti, arrV_size]; show ¬ ((0 : Int) + N > n1); omega)
    (fun vm₁ _ i hi => by
      have e : (arrV (gdA E 0) n0 (fun j => .int (f j))).slots.getD ((0 : Int32).toNatClampNeg + i) .null = .int (f i) := by
        rw [show (0 : Int32).toNatClampNeg + i = i by rw [show (0 : Int32).toNatClampNeg = 0 from rfl]; omega, Array.getD_eq_getD_getElem?, arrV_read _ _ (by rw [hcl] at hi; omega)]
        rfl
      refine ⟨?_, ?_⟩
      · rw [e]; rfl
      · rw [e]; exact trivial)
    (g := F0 m pc ls (.int n :: .int 0 :: .ref (gad E i1) :: .int 0 :: .ref a0 :: st)) rfl (by rw [hml]) (rest := st) rfl (by rw [hf.2.1]; exact hd) (by have := hR.1; omega) hloc9
  have e1 : copied (arrV (gdA E 0) n0 (fun j => .int (f j))) (arrV (gdA E 0) n1 (fun j => .int (g j))) 0 0 n = arrV (gdA E 0) n1 (fun j => .int (va_cpy f g 0 0 N j)) := by
    have h9 : copied (arrV (gdA E 0) n0 (fun j => .int (f j))) (arrV (gdA E 0) n1 (fun j => .int (g j))) 0 0 n = arrV (gdA E 0) n1 (fun j => .int (va_cpy f g (0 : Int32).toNatClampNeg (0 : Int32).toNatClampNeg n.toNatClampNeg j)) := va_copied (fun z => .int z) (gdA E 0) (gdA E 0) f g (by rw [hcl]; show 0 + N ≤ n0; omega)
    rw [hcl] at h9
    exact h9
  rw [e1] at X' step
  have hl9 : gad E i1 < H.size := (Array.getElem?_eq_some_iff.mp hat1).1
  have hheap : ((T.setVm vm').setCell (gad E i1) (arrV (gdA E 0) n1 (fun j => .int (va_cpy f g 0 0 N j)))).heap = H.setIfInBounds (gad E i1) (arrV (gdA E 0) n1 (fun j => .int (va_cpy f g 0 0 N j))) := by rw [← hT]; rfl
  have oq : ∀ q : Nat, q ≠ gad E i1 → (H.setIfInBounds (gad E i1) (arrV (gdA E 0) n1 (fun j => .int (va_cpy f g 0 0 N j))))[q]? = H[q]? := fun q hq => by simp [Array.getElem?_setIfInBounds, Ne.symm hq]
  obtain ⟨t, a1, b1⟩ := (kk p e R s m args below meth c _ _ ls cells slots MC MS dd hdd hf hR hl (hP.setW hi1 (show (H.setIfInBounds (gad E i1) _)[gad E i1]? = some _ by simp [Array.getElem?_setIfInBounds, hl9, vp_cell]) oq) ⟨by simp; exact hS.1, fun q g1 g2 => by rw [oq q (fun e => g2 (by rw [e]; exact hat9.1))]; exact hS.2.1 q g1 g2, fun q hq => by
      rcases List.mem_append.mp hq with h | h
      · exact hS.2.2 q h
      · obtain ⟨z, -, hz⟩ := List.mem_map.mp h
        rw [← hz]
        exact hat9.1⟩ hc hs) _ hheap X'
  exact ⟨t, step t a1, b1⟩

end GH
end
section
section GC
variable {E : gE} {d : Nat} {M : gM} {pc : Nat} {lv : List (Nat × Value)} {st : List Value} {w : gW} {im : gIm} {kc ks : Nat} {Q : gQ}
/-- behind a call: with the answer on the stack, or thrown on to the caller -/
def g_k (E : gE) (d : Nat) (M : gM) (pc : Nat) (lv : List (Nat × Value)) (rest : List Value) (kc ks : Nat) (Q : gQ) : gQ := fun o w im => match o with
  | .inl v => G E d M pc lv (v.toList ++ rest) w im kc ks Q
  | .inr X => Q (.inr X) w im
/-- a method that can be called: its words -/
def g_me (y : MethodName) (M : gM) (n : Nat) : Prop := y.cls ≠ "java/lang/invoke/MethodHandle" ∧ y.cls ≠ "java/lang/invoke/VarHandle" ∧ (parseMethodDescriptor y.desc).map (fun d => d.parameters.length) = some n ∧ g_w y M ∈ g_all ∧ Cond.initialized y.cls ∈ g_all ∧ M.2.2.1 ≤ 60 ∧ (∀ args s, (Cond.initialized y.cls).before args s = true → (Cond.initialized y.cls).before args s = true)
theorem g_rmF {dd mc ms : Nat} : (g_rm dd mc ms).frames = dd + 8 := rfl
theorem g_rmL {dd mc ms : Nat} : (g_rm dd mc ms).locals = 100 * dd + 300 := rfl
set_option maxRecDepth 20000 in
theorem g_locs {dd a mc ms R : Nat} (h1 : a ≤ 60) (h2 : 1 ≤ dd) (h3 : 100 * dd + 300 ≤ R) : 8 + (a + 11) + (g_rm (dd - 1) mc ms).locals ≤ R := by
  obtain ⟨k, rfl⟩ : ∃ k, dd = k + 1 := ⟨dd - 1, by omega⟩
  show 8 + (a + 11) + (100 * k + 300) ≤ R
  omega
theorem g_PcBlind {av : List Value} : FrameBlind (g_Pc E av w im) := fun a U g mk ⟨h1, h2, h3⟩ => ⟨h1, h2, (show g_K E (U.calling g mk a) U.heap from g_K.same (s := U) rfl h3)⟩
theorem g_pre {p : Program} {s : State} {m : MethodId} {args : Array Value} {meth : Method} {c : Code} {H : Heap} {locs : List Loc} (hf : g_fix E M p s m args meth c) (hP : g_Rp E w im H) (hS : va_S (fun q => gb E ≤ q) s.heap H locs) (av : List Value) : ∀ U : State, U.heap = H → s.WarmedH U.vm → g_Pc E av w im av.toArray U := fun U hU hW => by
  refine ⟨rfl, by rw [hU]; exact hP, ?_⟩
  have h := (hf.2.2.2.2.2.2.2.2.2).keptH (g_frame hS (hf.2.2.2.2.2.2.2.2.2.2.2.2.2.2.2.2.2.2.2.1)).1 (g_frame hS (hf.2.2.2.2.2.2.2.2.2.2.2.2.2.2.2.2.2.2.2.1)).2
  rw [hU]
  exact h.warm hW
/-- what a call gives, in a frame without handlers -/
theorem g_after {p : Program} {e : Env} {R : Room} {s : State} {m : MethodId} {args : Array Value} {below : List Frame} {meth : Method} {c : Code} {H : Heap} {locs : List Loc} {ls : Array Slot} {cells slots MC MS dd mc ms : Nat} {st0 rest : List Value} {a : Array Value} (hx : M.2.2.2.2.1 = [])
    (hdd : d ≤ dd) (hf : g_fix E M p s m args meth c) (hR : g_room R dd MC MS) (hl : lv_has ls M.2.2.1 lv) (hS : va_S (fun q => gb E ≤ q) s.heap H locs) (hc : cells + kc ≤ MC) (hs : slots + ks ≤ MS) (hk1 : mc ≤ kc) (hk2 : ms ≤ ks)
    (hr : vx_Run p (gl E) e R s m args below meth c H locs cells slots mc ms (F0 m pc ls st0) rest (g_Qc E (g_k E d M (pc + 3) lv rest (kc - mc) (ks - ms) Q) a) (g_XC E (g_k E d M (pc + 3) lv rest (kc - mc) (ks - ms) Q)) (fun q => gb E ≤ q)) :
    W p (gl E) e R s m args below meth c H locs cells slots (vx_MQ below (g_Qc E Q) (g_XC E Q) args s MC MS (fun q => gb E ≤ q)) (F0 m pc ls st0) := by
  have hb0 := hf.2.2.2.2.2.2.2.2.2.2.2.2.2.2.2.2.2.2.2.1
  intro T hT X
  have key : ∀ (t T' : State) (L : List Loc), T'.heap = t.heap → H.size ≤ t.heap.size → (∀ q : Nat, q < gb E → t.heap[q]? = H[q]?) → (∀ q ∈ L, gb E ≤ q.base) → va_S (fun q => gb E ≤ q) s.heap t.heap (locs ++ L) := fun t T' L _ hz hq hL =>
    ⟨Nat.le_trans hS.1 hz, fun q h1 h2 => (hq q (Nat.lt_of_not_le h2)).trans (hS.2.1 q h1 h2), fun q hq => by
      rcases List.mem_append.mp hq with h | h
      · exact hS.2.2 q h
      · exact hL q h⟩
  rcases hr T hT X with ⟨v, st₀, t, T', L, h0, X', hL, e1, e2, ⟨v2, w2, im2, hv2, hQ, hP2, hz, hq⟩, step⟩ | ⟨q9, st₀, t, T', L, Ex, ce, h0, X', hL, e1, e2, ⟨w2, im2, hQ, hP2, hz, hq⟩, hce, hcv, hcl, step⟩
  · cases hv2
    rw [h0] at hz hq
    obtain ⟨t2, a1, b1⟩ := hQ p e R s m args below meth c t.heap (locs ++ L) ls (cells + mc) (slots + ms) MC MS dd hdd hf hR hl hP2 (key t T' L e1 hz hq hL) (by omega) (by omega) T' e1 X'
    exact ⟨t2, step t2 a1, b1⟩
  · rw [h0] at hz hq
    have hS2 := key t T' L e1 hz hq hL
    have hout := vx_out (p := p) (l := gl E) (e := e) (R := R) (s := s) (m := m) (args := args) (below := below) (meth := meth) (c := c) (H := t.heap) (locs := locs ++ L) (cells := cells + mc) (slots := slots + ms) (mc := MC) (ms := MS) (free := fun q => gb E ≤ q) (Qc := g_Qc E Q) (XC := g_XC E Q) (ls := ls) (rest := rest) (pc := pc) (E := Ex) (ce := ce) (q := q9)
      (by rw [hf.2.2.2.2.2.2.2.1, hx]; intro x hx9; simp [tableOf] at hx9) hf.2.2.2.2.2.2.1 hce hcv hcl (fun t9 ht9 _ => ⟨w2, im2, hQ, by rw [ht9]; exact hP2, by rw [ht9]; exact hS2.1, fun q h => by rw [ht9]; exact (g_frame hS2 hb0).2 q h⟩) hS2.2.2 (by omega) (by omega)
    obtain ⟨t2, a1, b1⟩ := hout T' e1 X'
    exact ⟨t2, step.trans a1, b1⟩
theorem g_callB {p : Program} {R : Room} {s : State} {m : MethodId} {args : Array Value} {meth : Method} {c : Code} {dd d' MC MS mc ms n : Nat} {y : MethodName} {M' : gM} (hf : g_fix E M p s m args meth c) (hR : g_room R dd MC MS) (hM : M'.2.2.2.2.1 = []) (hd' : d' + 1 ≤ dd) (h0 : g_me y M' n) {idx : Nat} (hl : (Cond.methodLink M.1 idx y).before args s = true) :
    CallB R s args M.1 idx y M'.2.1 M'.2.2.1 M'.2.2.2.1 (g_w y M' :: g_all) (g_rm (dd - 1) mc ms) mc ms n := by
  obtain ⟨n1, n2, n3, n4, n5, n6, -⟩ := h0
  have hts := hf.2.2.2.2.1
  have hG : GoodIn g_all (g_w y M' :: g_all) := fun x hx => (List.mem_cons.mp hx).elim (fun e => e ▸ g_good _ n4) (g_good x)
  have hw : g_w y M' = .code y M'.2.1 M'.2.2.1 M'.2.2.2.1 := by simp [g_w, hM]
  have r1 := hR.1
  have r2 := hR.2.1
  exact ⟨rfl, rfl, by rw [g_rmF]; omega, g_locs n6 (by omega) r2, pay_in hts hG, by rw [hw]; exact List.mem_cons_self, hw ▸ hts _ n4, hts _ n5, ⟨n1, n2⟩, fun sig h => by rw [h] at n3; exact (Option.some.inj n3).symm, hl⟩

theorem g_callV0 {d' idx mc ms b : Nat} {y : MethodName} {M' : gM} {rest : List Value} (hx : M.2.2.2.2.1 = []) (hM : M'.2.2.2.2.1 = []) (h0 : g_me y M' 0) (hlk : Cond.methodLink M.1 idx y ∈ g_all) (h1 : Cond.instanceMethod y ∈ g_all ∧ Cond.selects y.cls y y ∈ g_all) (ci : Nat) {fs : List Value} (hci : ci < 10) (hcl : y.cls = g_C ci) (hb : g_cell E w im b (.inr (ci, fs))) (hd' : d' + 1 ≤ d) (hk1 : mc ≤ kc) (hk2 : ms ≤ ks) (hcat : (rest.map fun v => v.category).sum ≤ 8) (hd : decode M.2.1 pc = .ok (.invokevirtual idx, 3))
    (hm : GM E d' y M' mc ms [.ref b] w im (g_k E d M (pc + 3) lv rest (kc - mc) (ks - ms) Q)) : G E d M (pc) (lv) (.ref b :: rest) (w) (im) (kc) (ks) Q := by
  intro p e R s m args below meth c H locs ls cells slots MC MS dd hdd hf hR hl hP hS hc hs
  have hm9 := hm (dd - 1) (by omega)
  obtain ⟨-, r', hr', cellB, g1, g2, g3, -⟩ := hP.get hb
  have hr : r' = (g_C ci, g_T ci, g_n ci) := Option.some.inj (hr'.symm.trans (g_clat hci))
  have hKn := (hf.2.2.2.2.2.2.2.2.2.1).1 ci _ (g_clat hci)
  have hcb := g_callB (mc := mc) (ms := ms) hf hR hM (Nat.le_trans hd' hdd) h0 (hf.2.2.2.2.1 _ hlk)
  exact g_after hx hdd hf hR hl hS hc hs hk1 hk2 (vx_runV (C := y.cls) (As := []) (rest := rest) ⟨hf.1, hf.2.1, hf.2.2.1, hf.2.2.2.1, hf.2.2.2.2.1⟩ hm9 ⟨hcb, hf.2.2.2.2.1 _ h1.1, hf.2.2.2.2.1 _ h1.2⟩ ⟨g_PcBlind, ⟨cellB, g1, by rw [g3]; rfl, by rw [g2, hcl]; exact hKn.2.1⟩, g_pre hf hP hS _⟩ rfl rfl hl.1 rfl (lv_room hcat) hd ⟨by have := hR.2.2.1; omega, by have := hR.2.2.2; omega⟩)
theorem g_callV1 {d' idx mc ms b : Nat} {y : MethodName} {M' : gM} {rest : List Value} {x1 : Value} (hx : M.2.2.2.2.1 = []) (hM : M'.2.2.2.2.1 = []) (h0 : g_me y M' 1) (hlk : Cond.methodLink M.1 idx y ∈ g_all) (h1 : Cond.instanceMethod y ∈ g_all ∧ Cond.selects y.cls y y ∈ g_all) (ci : Nat) {fs : List Value} (hci : ci < 10) (hcl : y.cls = g_C ci) (hb : g_cell E w im b (.inr (ci, fs))) (hd' : d' + 1 ≤ d) (hk1 : mc ≤ kc) (hk2 : ms ≤ ks) (hcat : (rest.map fun v => v.category).sum ≤ 8) (hd : decode M.2.1 pc = .ok (.invokevirtual idx, 3))
    (hm : GM E d' y M' mc ms [.ref b, x1] w im (g_k E d M (pc + 3) lv rest (kc - mc) (ks - ms) Q)) : G E d M (pc) (lv) (x1 :: .ref b :: rest) (w) (im) (kc) (ks) Q := by
  intro p e R s m args below meth c H locs ls cells slots MC MS dd hdd hf hR hl hP hS hc hs
  have hm9 := hm (dd - 1) (by omega)
  obtain ⟨-, r', hr', cellB, g1, g2, g3, -⟩ := hP.get hb
  have hr : r' = (g_C ci, g_T ci, g_n ci) := Option.some.inj (hr'.symm.trans (g_clat hci))
  have hKn := (hf.2.2.2.2.2.2.2.2.2.1).1 ci _ (g_clat hci)
  have hcb := g_callB (mc := mc) (ms := ms) hf hR hM (Nat.le_trans hd' hdd) h0 (hf.2.2.2.2.1 _ hlk)
  exact g_after hx hdd hf hR hl hS hc hs hk1 hk2 (vx_runV (C := y.cls) (As := [x1]) (rest := rest) ⟨hf.1, hf.2.1, hf.2.2.1, hf.2.2.2.1, hf.2.2.2.2.1⟩ hm9 ⟨hcb, hf.2.2.2.2.1 _ h1.1, hf.2.2.2.2.1 _ h1.2⟩ ⟨g_PcBlind, ⟨cellB, g1, by rw [g3]; rfl, by rw [g2, hcl]; exact hKn.2.1⟩, g_pre hf hP hS _⟩ rfl rfl hl.1 rfl (lv_room hcat) hd ⟨by have := hR.2.2.1; omega, by have := hR.2.2.2; omega⟩)
theorem g_callV2 {d' idx mc ms b : Nat} {y : MethodName} {M' : gM} {rest : List Value} {x1 x2 : Value} (hx : M.2.2.2.2.1 = []) (hM : M'.2.2.2.2.1 = []) (h0 : g_me y M' 2) (hlk : Cond.methodLink M.1 idx y ∈ g_all) (h1 : Cond.instanceMethod y ∈ g_all ∧ Cond.selects y.cls y y ∈ g_all) (ci : Nat) {fs : List Value} (hci : ci < 10) (hcl : y.cls = g_C ci) (hb : g_cell E w im b (.inr (ci, fs))) (hd' : d' + 1 ≤ d) (hk1 : mc ≤ kc) (hk2 : ms ≤ ks) (hcat : (rest.map fun v => v.category).sum ≤ 8) (hd : decode M.2.1 pc = .ok (.invokevirtual idx, 3))
    (hm : GM E d' y M' mc ms [.ref b, x1, x2] w im (g_k E d M (pc + 3) lv rest (kc - mc) (ks - ms) Q)) : G E d M (pc) (lv) (x2 :: x1 :: .ref b :: rest) (w) (im) (kc) (ks) Q := by
  intro p e R s m args below meth c H locs ls cells slots MC MS dd hdd hf hR hl hP hS hc hs
  have hm9 := hm (dd - 1) (by omega)
  obtain ⟨-, r', hr', cellB, g1, g2, g3, -⟩ := hP.get hb
  have hr : r' = (g_C ci, g_T ci, g_n ci) := Option.some.inj (hr'.symm.trans (g_clat hci))
  have hKn := (hf.2.2.2.2.2.2.2.2.2.1).1 ci _ (g_clat hci)
  have hcb := g_callB (mc := mc) (ms := ms) hf hR hM (Nat.le_trans hd' hdd) h0 (hf.2.2.2.2.1 _ hlk)
  exact g_after hx hdd hf hR hl hS hc hs hk1 hk2 (vx_runV (C := y.cls) (As := [x1, x2]) (rest := rest) ⟨hf.1, hf.2.1, hf.2.2.1, hf.2.2.2.1, hf.2.2.2.2.1⟩ hm9 ⟨hcb, hf.2.2.2.2.1 _ h1.1, hf.2.2.2.2.1 _ h1.2⟩ ⟨g_PcBlind, ⟨cellB, g1, by rw [g3]; rfl, by rw [g2, hcl]; exact hKn.2.1⟩, g_pre hf hP hS _⟩ rfl rfl hl.1 rfl (lv_room hcat) hd ⟨by have := hR.2.2.1; omega, by have := hR.2.2.2; omega⟩)
theorem g_callV3 {d' idx mc ms b : Nat} {y : MethodName} {M' : gM} {rest : List Value} {x1 x2 x3 : Value} (hx : M.2.2.2.2.1 = []) (hM : M'.2.2.2.2.1 = []) (h0 : g_me y M' 3) (hlk : Cond.methodLink M.1 idx y ∈ g_all) (h1 : Cond.instanceMethod y ∈ g_all ∧ Cond.selects y.cls y y ∈ g_all) (ci : Nat) {fs : List Value} (hci : ci < 10) (hcl : y.cls = g_C ci) (hb : g_cell E w im b (.inr (ci, fs))) (hd' : d' + 1 ≤ d) (hk1 : mc ≤ kc) (hk2 : ms ≤ ks) (hcat : (rest.map fun v => v.category).sum ≤ 8) (hd : decode M.2.1 pc = .ok (.invokevirtual idx, 3))
    (hm : GM E d' y M' mc ms [.ref b, x1, x2, x3] w im (g_k E d M (pc + 3) lv rest (kc - mc) (ks - ms) Q)) : G E d M (pc) (lv) (x3 :: x2 :: x1 :: .ref b :: rest) (w) (im) (kc) (ks) Q := by
  intro p e R s m args below meth c H locs ls cells slots MC MS dd hdd hf hR hl hP hS hc hs
  have hm9 := hm (dd - 1) (by omega)
  obtain ⟨-, r', hr', cellB, g1, g2, g3, -⟩ := hP.get hb
  have hr : r' = (g_C ci, g_T ci, g_n ci) := Option.some.inj (hr'.symm.trans (g_clat hci))
  have hKn := (hf.2.2.2.2.2.2.2.2.2.1).1 ci _ (g_clat hci)
  have hcb := g_callB (mc := mc) (ms := ms) hf hR hM (Nat.le_trans hd' hdd) h0 (hf.2.2.2.2.1 _ hlk)
  exact g_after hx hdd hf hR hl hS hc hs hk1 hk2 (vx_runV (C := y.cls) (As := [x1, x2, x3]) (rest := rest) ⟨hf.1, hf.2.1, hf.2.2.1, hf.2.2.2.1, hf.2.2.2.2.1⟩ hm9 ⟨hcb, hf.2.2.2.2.1 _ h1.1, hf.2.2.2.2.1 _ h1.2⟩ ⟨g_PcBlind, ⟨cellB, g1, by rw [g3]; rfl, by rw [g2, hcl]; exact hKn.2.1⟩, g_pre hf hP hS _⟩ rfl rfl hl.1 rfl (lv_room hcat) hd ⟨by have := hR.2.2.1; omega, by have := hR.2.2.2; omega⟩)
theorem g_callV4 {d' idx mc ms b : Nat} {y : MethodName} {M' : gM} {rest : List Value} {x1 x2 x3 x4 : Value} (hx : M.2.2.2.2.1 = []) (hM : M'.2.2.2.2.1 = []) (h0 : g_me y M' 4) (hlk : Cond.methodLink M.1 idx y ∈ g_all) (h1 : Cond.instanceMethod y ∈ g_all ∧ Cond.selects y.cls y y ∈ g_all) (ci : Nat) {fs : List Value} (hci : ci < 10) (hcl : y.cls = g_C ci) (hb : g_cell E w im b (.inr (ci, fs))) (hd' : d' + 1 ≤ d) (hk1 : mc ≤ kc) (hk2 : ms ≤ ks) (hcat : (rest.map fun v => v.category).sum ≤ 8) (hd : decode M.2.1 pc = .ok (.invokevirtual idx, 3))
    (hm : GM E d' y M' mc ms [.ref b, x1, x2, x3, x4] w im (g_k E d M (pc + 3) lv rest (kc - mc) (ks - ms) Q)) : G E d M (pc) (lv) (x4 :: x3 :: x2 :: x1 :: .ref b :: rest) (w) (im) (kc) (ks) Q := by
  intro p e R s m args below meth c H locs ls cells slots MC MS dd hdd hf hR hl hP hS hc hs
  have hm9 := hm (dd - 1) (by omega)
  obtain ⟨-, r', hr', cellB, g1, g2, g3, -⟩ := hP.get hb
  have hr : r' = (g_C ci, g_T ci, g_n ci) := Option.some.inj (hr'.symm.trans (g_clat hci))
  have hKn := (hf.2.2.2.2.2.2.2.2.2.1).1 ci _ (g_clat hci)
  have hcb := g_callB (mc := mc) (ms := ms) hf hR hM (Nat.le_trans hd' hdd) h0 (hf.2.2.2.2.1 _ hlk)
  exact g_after hx hdd hf hR hl hS hc hs hk1 hk2 (vx_runV (C := y.cls) (As := [x1, x2, x3, x4]) (rest := rest) ⟨hf.1, hf.2.1, hf.2.2.1, hf.2.2.2.1, hf.2.2.2.2.1⟩ hm9 ⟨hcb, hf.2.2.2.2.1 _ h1.1, hf.2.2.2.2.1 _ h1.2⟩ ⟨g_PcBlind, ⟨cellB, g1, by rw [g3]; rfl, by rw [g2, hcl]; exact hKn.2.1⟩, g_pre hf hP hS _⟩ rfl rfl hl.1 rfl (lv_room hcat) hd ⟨by have := hR.2.2.1; omega, by have := hR.2.2.2; omega⟩)
theorem g_callV5 {d' idx mc ms b : Nat} {y : MethodName} {M' : gM} {rest : List Value} {x1 x2 x3 x4 x5 : Value} (hx : M.2.2.2.2.1 = []) (hM : M'.2.2.2.2.1 = []) (h0 : g_me y M' 5) (hlk : Cond.methodLink M.1 idx y ∈ g_all) (h1 : Cond.instanceMethod y ∈ g_all ∧ Cond.selects y.cls y y ∈ g_all) (ci : Nat) {fs : List Value} (hci : ci < 10) (hcl : y.cls = g_C ci) (hb : g_cell E w im b (.inr (ci, fs))) (hd' : d' + 1 ≤ d) (hk1 : mc ≤ kc) (hk2 : ms ≤ ks) (hcat : (rest.map fun v => v.category).sum ≤ 8) (hd : decode M.2.1 pc = .ok (.invokevirtual idx, 3))
    (hm : GM E d' y M' mc ms [.ref b, x1, x2, x3, x4, x5] w im (g_k E d M (pc + 3) lv rest (kc - mc) (ks - ms) Q)) : G E d M (pc) (lv) (x5 :: x4 :: x3 :: x2 :: x1 :: .ref b :: rest) (w) (im) (kc) (ks) Q := by
  intro p e R s m args below meth c H locs ls cells slots MC MS dd hdd hf hR hl hP hS hc hs
  have hm9 := hm (dd - 1) (by omega)
  obtain ⟨-, r', hr', cellB, g1, g2, g3, -⟩ := hP.get hb
  have hr : r' = (g_C ci, g_T ci, g_n ci) := Option.some.inj (hr'.symm.trans (g_clat hci))
  have hKn := (hf.2.2.2.2.2.2.2.2.2.1).1 ci _ (g_clat hci)
  have hcb := g_callB (mc := mc) (ms := ms) hf hR hM (Nat.le_trans hd' hdd) h0 (hf.2.2.2.2.1 _ hlk)
  exact g_after hx hdd hf hR hl hS hc hs hk1 hk2 (vx_runV (C := y.cls) (As := [x1, x2, x3, x4, x5]) (rest := rest) ⟨hf.1, hf.2.1, hf.2.2.1, hf.2.2.2.1, hf.2.2.2.2.1⟩ hm9 ⟨hcb, hf.2.2.2.2.1 _ h1.1, hf.2.2.2.2.1 _ h1.2⟩ ⟨g_PcBlind, ⟨cellB, g1, by rw [g3]; rfl, by rw [g2, hcl]; exact hKn.2.1⟩, g_pre hf hP hS _⟩ rfl rfl hl.1 rfl (lv_room hcat) hd ⟨by have := hR.2.2.1; omega, by have := hR.2.2.2; omega⟩)
theorem g_callV6 {d' idx mc ms b : Nat} {y : MethodName} {M' : gM} {rest : List Value} {x1 x2 x3 x4 x5 x6 : Value} (hx : M.2.2.2.2.1 = []) (hM : M'.2.2.2.2.1 = []) (h0 : g_me y M' 6) (hlk : Cond.methodLink M.1 idx y ∈ g_all) (h1 : Cond.instanceMethod y ∈ g_all ∧ Cond.selects y.cls y y ∈ g_all) (ci : Nat) {fs : List Value} (hci : ci < 10) (hcl : y.cls = g_C ci) (hb : g_cell E w im b (.inr (ci, fs))) (hd' : d' + 1 ≤ d) (hk1 : mc ≤ kc) (hk2 : ms ≤ ks) (hcat : (rest.map fun v => v.category).sum ≤ 8) (hd : decode M.2.1 pc = .ok (.invokevirtual idx, 3))
    (hm : GM E d' y M' mc ms [.ref b, x1, x2, x3, x4, x5, x6] w im (g_k E d M (pc + 3) lv rest (kc - mc) (ks - ms) Q)) : G E d M (pc) (lv) (x6 :: x5 :: x4 :: x3 :: x2 :: x1 :: .ref b :: rest) (w) (im) (kc) (ks) Q := by
  intro p e R s m args below meth c H locs ls cells slots MC MS dd hdd hf hR hl hP hS hc hs
  have hm9 := hm (dd - 1) (by omega)
  obtain ⟨-, r', hr', cellB, g1, g2, g3, -⟩ := hP.get hb
  have hr : r' = (g_C ci, g_T ci, g_n ci) := Option.some.inj (hr'.symm.trans (g_clat hci))
  have hKn := (hf.2.2.2.2.2.2.2.2.2.1).1 ci _ (g_clat hci)
  have hcb := g_callB (mc := mc) (ms := ms) hf hR hM (Nat.le_trans hd' hdd) h0 (hf.2.2.2.2.1 _ hlk)
  exact g_after hx hdd hf hR hl hS hc hs hk1 hk2 (vx_runV (C := y.cls) (As := [x1, x2, x3, x4, x5, x6]) (rest := rest) ⟨hf.1, hf.2.1, hf.2.2.1, hf.2.2.2.1, hf.2.2.2.2.1⟩ hm9 ⟨hcb, hf.2.2.2.2.1 _ h1.1, hf.2.2.2.2.1 _ h1.2⟩ ⟨g_PcBlind, ⟨cellB, g1, by rw [g3]; rfl, by rw [g2, hcl]; exact hKn.2.1⟩, g_pre hf hP hS _⟩ rfl rfl hl.1 rfl (lv_room hcat) hd ⟨by have := hR.2.2.1; omega, by have := hR.2.2.2; omega⟩)
theorem g_callS1 {d' idx mc ms : Nat} {y : MethodName} {M' : gM} {rest : List Value} {x1 : Value} (hx : M.2.2.2.2.1 = []) (hM : M'.2.2.2.2.1 = []) (h0 : g_me y M' 1) (hlk : Cond.methodLink M.1 idx y ∈ g_all) (h1 : Cond.static y ∈ g_all) (hd' : d' + 1 ≤ d) (hk1 : mc ≤ kc) (hk2 : ms ≤ ks) (hcat : (rest.map fun v => v.category).sum ≤ 8) (hd : decode M.2.1 pc = .ok (.invokestatic idx, 3))
    (hm : GM E d' y M' mc ms [x1] w im (g_k E d M (pc + 3) lv rest (kc - mc) (ks - ms) Q)) : G E d M (pc) (lv) (x1 :: rest) (w) (im) (kc) (ks) Q := by
  intro p e R s m args below meth c H locs ls cells slots MC MS dd hdd hf hR hl hP hS hc hs
  have hm9 := hm (dd - 1) (by omega)
  have hcb := g_callB (mc := mc) (ms := ms) hf hR hM (Nat.le_trans hd' hdd) h0 (hf.2.2.2.2.1 _ hlk)
  exact g_after hx hdd hf hR hl hS hc hs hk1 hk2 (vx_runS (As := [x1]) (rest := rest) ⟨hf.1, hf.2.1, hf.2.2.1, hf.2.2.2.1, hf.2.2.2.2.1⟩ hm9 ⟨hcb, hf.2.2.2.2.1 _ h1⟩ ⟨g_PcBlind, g_pre hf hP hS _⟩ rfl rfl hl.1 rfl (lv_room hcat) hd ⟨by have := hR.2.2.1; omega, by have := hR.2.2.2; omega⟩)
theorem g_callS2 {d' idx mc ms : Nat} {y : MethodName} {M' : gM} {rest : List Value} {x1 x2 : Value} (hx : M.2.2.2.2.1 = []) (hM : M'.2.2.2.2.1 = []) (h0 : g_me y M' 2) (hlk : Cond.methodLink M.1 idx y ∈ g_all) (h1 : Cond.static y ∈ g_all) (hd' : d' + 1 ≤ d) (hk1 : mc ≤ kc) (hk2 : ms ≤ ks) (hcat : (rest.map fun v => v.category).sum ≤ 8) (hd : decode M.2.1 pc = .ok (.invokestatic idx, 3))
    (hm : GM E d' y M' mc ms [x1, x2] w im (g_k E d M (pc + 3) lv rest (kc - mc) (ks - ms) Q)) : G E d M (pc) (lv) (x2 :: x1 :: rest) (w) (im) (kc) (ks) Q := by
  intro p e R s m args below meth c H locs ls cells slots MC MS dd hdd hf hR hl hP hS hc hs
  have hm9 := hm (dd - 1) (by omega)
  have hcb := g_callB (mc := mc) (ms := ms) hf hR hM (Nat.le_trans hd' hdd) h0 (hf.2.2.2.2.1 _ hlk)
  exact g_after hx hdd hf hR hl hS hc hs hk1 hk2 (vx_runS (As := [x1, x2]) (rest := rest) ⟨hf.1, hf.2.1, hf.2.2.1, hf.2.2.2.1, hf.2.2.2.2.1⟩ hm9 ⟨hcb, hf.2.2.2.2.1 _ h1⟩ ⟨g_PcBlind, g_pre hf hP hS _⟩ rfl rfl hl.1 rfl (lv_room hcat) hd ⟨by have := hR.2.2.1; omega, by have := hR.2.2.2; omega⟩)
theorem g_callS3 {d' idx mc ms : Nat} {y : MethodName} {M' : gM} {rest : List Value} {x1 x2 x3 : Value} (hx : M.2.2.2.2.1 = []) (hM : M'.2.2.2.2.1 = []) (h0 : g_me y M' 3) (hlk : Cond.methodLink M.1 idx y ∈ g_all) (h1 : Cond.static y ∈ g_all) (hd' : d' + 1 ≤ d) (hk1 : mc ≤ kc) (hk2 : ms ≤ ks) (hcat : (rest.map fun v => v.category).sum ≤ 8) (hd : decode M.2.1 pc = .ok (.invokestatic idx, 3))
    (hm : GM E d' y M' mc ms [x1, x2, x3] w im (g_k E d M (pc + 3) lv rest (kc - mc) (ks - ms) Q)) : G E d M (pc) (lv) (x3 :: x2 :: x1 :: rest) (w) (im) (kc) (ks) Q := by
  intro p e R s m args below meth c H locs ls cells slots MC MS dd hdd hf hR hl hP hS hc hs
  have hm9 := hm (dd - 1) (by omega)
  have hcb := g_callB (mc := mc) (ms := ms) hf hR hM (Nat.le_trans hd' hdd) h0 (hf.2.2.2.2.1 _ hlk)
  exact g_after hx hdd hf hR hl hS hc hs hk1 hk2 (vx_runS (As := [x1, x2, x3]) (rest := rest) ⟨hf.1, hf.2.1, hf.2.2.1, hf.2.2.2.1, hf.2.2.2.2.1⟩ hm9 ⟨hcb, hf.2.2.2.2.1 _ h1⟩ ⟨g_PcBlind, g_pre hf hP hS _⟩ rfl rfl hl.1 rfl (lv_room hcat) hd ⟨by have := hR.2.2.1; omega, by have := hR.2.2.2; omega⟩)
theorem g_callS4 {d' idx mc ms : Nat} {y : MethodName} {M' : gM} {rest : List Value} {x1 x2 x3 x4 : Value} (hx : M.2.2.2.2.1 = []) (hM : M'.2.2.2.2.1 = []) (h0 : g_me y M' 4) (hlk : Cond.methodLink M.1 idx y ∈ g_all) (h1 : Cond.static y ∈ g_all) (hd' : d' + 1 ≤ d) (hk1 : mc ≤ kc) (hk2 : ms ≤ ks) (hcat : (rest.map fun v => v.category).sum ≤ 8) (hd : decode M.2.1 pc = .ok (.invokestatic idx, 3))
    (hm : GM E d' y M' mc ms [x1, x2, x3, x4] w im (g_k E d M (pc + 3) lv rest (kc - mc) (ks - ms) Q)) : G E d M (pc) (lv) (x4 :: x3 :: x2 :: x1 :: rest) (w) (im) (kc) (ks) Q := by
  intro p e R s m args below meth c H locs ls cells slots MC MS dd hdd hf hR hl hP hS hc hs
  have hm9 := hm (dd - 1) (by omega)
  have hcb := g_callB (mc := mc) (ms := ms) hf hR hM (Nat.le_trans hd' hdd) h0 (hf.2.2.2.2.1 _ hlk)
  exact g_after hx hdd hf hR hl hS hc hs hk1 hk2 (vx_runS (As := [x1, x2, x3, x4]) (rest := rest) ⟨hf.1, hf.2.1, hf.2.2.1, hf.2.2.2.1, hf.2.2.2.2.1⟩ hm9 ⟨hcb, hf.2.2.2.2.1 _ h1⟩ ⟨g_PcBlind, g_pre hf hP hS _⟩ rfl rfl hl.1 rfl (lv_room hcat) hd ⟨by have := hR.2.2.1; omega, by have := hR.2.2.2; omega⟩)
theorem g_callI0 {d' idx mc ms b : Nat} {y : MethodName} {M' : gM} {rest : List Value} (hx : M.2.2.2.2.1 = []) (hM : M'.2.2.2.2.1 = []) (h0 : g_me y M' 0) (hlk : Cond.methodLink M.1 idx y ∈ g_all) (h1 : Cond.instanceMethod y ∈ g_all ∧ y.name = "<init>") (hret : M'.2.2.2.1 = none) (hd' : d' + 1 ≤ d) (hk1 : mc ≤ kc) (hk2 : ms ≤ ks) (hcat : (rest.map fun v => v.category).sum ≤ 8) (hd : decode M.2.1 pc = .ok (.invokespecial idx, 3))
    (hm : GM E d' y M' mc ms [.ref b] w im (g_k E d M (pc + 3) lv rest (kc - mc) (ks - ms) Q)) : G E d M (pc) (lv) (.ref b :: rest) (w) (im) (kc) (ks) Q := by
  intro p e R s m args below meth c H locs ls cells slots MC MS dd hdd hf hR hl hP hS hc hs
  have hm9 := hm (dd - 1) (by omega)
  have hcb := g_callB (mc := mc) (ms := ms) hf hR hM (Nat.le_trans hd' hdd) h0 (hf.2.2.2.2.1 _ hlk)
  rw [hret] at hcb
  exact g_after hx hdd hf hR hl hS hc hs hk1 hk2 (vx_runI (As := []) (rest := rest) ⟨hf.1, hf.2.1, hf.2.2.1, hf.2.2.2.1, hf.2.2.2.2.1⟩ hm9 ⟨hcb, h1.2, hf.2.2.2.2.1 _ h1.1⟩ ⟨g_PcBlind, g_pre hf hP hS _⟩ rfl rfl hl.1 rfl (lv_room hcat) hd ⟨by have := hR.2.2.1; omega, by have := hR.2.2.2; omega⟩)
theorem g_callI3 {d' idx mc ms b : Nat} {y : MethodName} {M' : gM} {rest : List Value} {x1 x2 x3 : Value} (hx : M.2.2.2.2.1 = []) (hM : M'.2.2.2.2.1 = []) (h0 : g_me y M' 3) (hlk : Cond.methodLink M.1 idx y ∈ g_all) (h1 : Cond.instanceMethod y ∈ g_all ∧ y.name = "<init>") (hret : M'.2.2.2.1 = none) (hd' : d' + 1 ≤ d) (hk1 : mc ≤ kc) (hk2 : ms ≤ ks) (hcat : (rest.map fun v => v.category).sum ≤ 8) (hd : decode M.2.1 pc = .ok (.invokespecial idx, 3))
    (hm : GM E d' y M' mc ms [.ref b, x1, x2, x3] w im (g_k E d M (pc + 3) lv rest (kc - mc) (ks - ms) Q)) : G E d M (pc) (lv) (x3 :: x2 :: x1 :: .ref b :: rest) (w) (im) (kc) (ks) Q := by
  intro p e R s m args below meth c H locs ls cells slots MC MS dd hdd hf hR hl hP hS hc hs
  have hm9 := hm (dd - 1) (by omega)
  have hcb := g_callB (mc := mc) (ms := ms) hf hR hM (Nat.le_trans hd' hdd) h0 (hf.2.2.2.2.1 _ hlk)
  rw [hret] at hcb
  exact g_after hx hdd hf hR hl hS hc hs hk1 hk2 (vx_runI (As := [x1, x2, x3]) (rest := rest) ⟨hf.1, hf.2.1, hf.2.2.1, hf.2.2.2.1, hf.2.2.2.2.1⟩ hm9 ⟨hcb, h1.2, hf.2.2.2.2.1 _ h1.1⟩ ⟨g_PcBlind, g_pre hf hP hS _⟩ rfl rfl hl.1 rfl (lv_room hcat) hd ⟨by have := hR.2.2.1; omega, by have := hR.2.2.2; omega⟩)
theorem g_callI6 {d' idx mc ms b : Nat} {y : MethodName} {M' : gM} {rest : List Value} {x1 x2 x3 x4 x5 x6 : Value} (hx : M.2.2.2.2.1 = []) (hM : M'.2.2.2.2.1 = []) (h0 : g_me y M' 6) (hlk : Cond.methodLink M.1 idx y ∈ g_all) (h1 : Cond.instanceMethod y ∈ g_all ∧ y.name = "<init>") (hret : M'.2.2.2.1 = none) (hd' : d' + 1 ≤ d) (hk1 : mc ≤ kc) (hk2 : ms ≤ ks) (hcat : (rest.map fun v => v.category).sum ≤ 8) (hd : decode M.2.1 pc = .ok (.invokespecial idx, 3))
    (hm : GM E d' y M' mc ms [.ref b, x1, x2, x3, x4, x5, x6] w im (g_k E d M (pc + 3) lv rest (kc - mc) (ks - ms) Q)) : G E d M (pc) (lv) (x6 :: x5 :: x4 :: x3 :: x2 :: x1 :: .ref b :: rest) (w) (im) (kc) (ks) Q := by
  intro p e R s m args below meth c H locs ls cells slots MC MS dd hdd hf hR hl hP hS hc hs
  have hm9 := hm (dd - 1) (by omega)
  have hcb := g_callB (mc := mc) (ms := ms) hf hR hM (Nat.le_trans hd' hdd) h0 (hf.2.2.2.2.1 _ hlk)
  rw [hret] at hcb
  exact g_after hx hdd hf hR hl hS hc hs hk1 hk2 (vx_runI (As := [x1, x2, x3, x4, x5, x6]) (rest := rest) ⟨hf.1, hf.2.1, hf.2.2.1, hf.2.2.2.1, hf.2.2.2.2.1⟩ hm9 ⟨hcb, h1.2, hf.2.2.2.2.1 _ h1.1⟩ ⟨g_PcBlind, g_pre hf hP hS _⟩ rfl rfl hl.1 rfl (lv_room hcat) hd ⟨by have := hR.2.2.1; omega, by have := hR.2.2.2; omega⟩)
theorem g_callI7 {d' idx mc ms b : Nat} {y : MethodName} {M' : gM} {rest : List Value} {x1 x2 x3 x4 x5 x6 x7 : Value} (hx : M.2.2.2.2.1 = []) (hM : M'.2.2.2.2.1 = []) (h0 : g_me y M' 7) (hlk : Cond.methodLink M.1 idx y ∈ g_all) (h1 : Cond.instanceMethod y ∈ g_all ∧ y.name = "<init>") (hret : M'.2.2.2.1 = none) (hd' : d' + 1 ≤ d) (hk1 : mc ≤ kc) (hk2 : ms ≤ ks) (hcat : (rest.map fun v => v.category).sum ≤ 8) (hd : decode M.2.1 pc = .ok (.invokespecial idx, 3))
    (hm : GM E d' y M' mc ms [.ref b, x1, x2, x3, x4, x5, x6, x7] w im (g_k E d M (pc + 3) lv rest (kc - mc) (ks - ms) Q)) : G E d M (pc) (lv) (x7 :: x6 :: x5 :: x4 :: x3 :: x2 :: x1 :: .ref b :: rest) (w) (im) (kc) (ks) Q := by
  intro p e R s m args below meth c H locs ls cells slots MC MS dd hdd hf hR hl hP hS hc hs
  have hm9 := hm (dd - 1) (by omega)
  have hcb := g_callB (mc := mc) (ms := ms) hf hR hM (Nat.le_trans hd' hdd) h0 (hf.2.2.2.2.1 _ hlk)
  rw [hret] at hcb
  exact g_after hx hdd hf hR hl hS hc hs hk1 hk2 (vx_runI (As := [x1, x2, x3, x4, x5, x6, x7]) (rest := rest) ⟨hf.1, hf.2.1, hf.2.2.1, hf.2.2.2.1, hf.2.2.2.2.1⟩ hm9 ⟨hcb, h1.2, hf.2.2.2.2.1 _ h1.1⟩ ⟨g_PcBlind, g_pre hf hP hS _⟩ rfl rfl hl.1 rfl (lv_room hcat) hd ⟨by have := hR.2.2.1; omega, by have := hR.2.2.2; omega⟩)
theorem g_callSN3 {d' idx mc ms : Nat} {y : MethodName} {M' : gM} {rest : List Value} {x1 x2 x3 : Value} (hx : M.2.2.2.2.1 = []) (hM : M'.2.2.2.2.1 = []) (h0 : g_me y M' 3) {host : String} (hlk : Cond.methodLinkNest M.1 idx y host ∈ g_bads) (h1 : Cond.static y ∈ g_all) (hd' : d' + 1 ≤ d) (hk1 : mc ≤ kc) (hk2 : ms ≤ ks) (hcat : (rest.map fun v => v.category).sum ≤ 8) (hd : decode M.2.1 pc = .ok (.invokestatic idx, 3))
    (hm : GM E d' y M' mc ms [x1, x2, x3] w im (g_k E d M (pc + 3) lv rest (kc - mc) (ks - ms) Q)) : G E d M (pc) (lv) (x3 :: x2 :: x1 :: rest) (w) (im) (kc) (ks) Q := by
  intro p e R s m args below meth c H locs ls cells slots MC MS dd hdd hf hR hl hP hS hc hs
  have hm9 := hm (dd - 1) (by omega)
  obtain ⟨n1, n2, n3, n4, n5, n6, -⟩ := h0
  have hts := hf.2.2.2.2.1
  have hG : GoodIn g_all (g_w y M' :: g_all) := fun x hx => (List.mem_cons.mp hx).elim (fun e => e ▸ g_good _ n4) (g_good x)
  have hw : g_w y M' = .code y M'.2.1 M'.2.2.1 M'.2.2.2.1 := by simp [g_w, hM]
  have r1 := hR.1
  have r2 := hR.2.1
  have hcn : va_CN R s args M.1 idx y host M'.2.1 M'.2.2.1 M'.2.2.2.1 (g_w y M' :: g_all) (g_rm (dd - 1) mc ms) mc ms 3 := ⟨⟨rfl, rfl, by rw [g_rmF]; omega, g_locs n6 (by omega) r2, pay_in hts hG, by rw [hw]; exact List.mem_cons_self⟩, hw ▸ hts _ n4, hts _ n5, ⟨n1, n2⟩, fun sig h => by rw [h] at n3; exact (Option.some.inj n3).symm, va_Nw.use rfl (hf.2.2.2.2.2.2.2.2.2.2.2.2.2.2.2.1 _ hlk)⟩
  exact g_after hx hdd hf hR hl hS hc hs hk1 hk2 (vx_runSN (As := [x1, x2, x3]) (rest := rest) ⟨hf.1, hf.2.1, hf.2.2.1, hf.2.2.2.1, hf.2.2.2.2.1⟩ hm9 ⟨hcn, hts _ h1, trivial⟩ ⟨g_PcBlind, g_pre hf hP hS _⟩ rfl rfl hl.1 rfl (lv_room hcat) hd ⟨by have := hR.2.2.1; omega, by have := hR.2.2.2; omega⟩)
theorem g_callIN0 {d' idx mc ms b : Nat} {y : MethodName} {M' : gM} {rest : List Value} (hx : M.2.2.2.2.1 = []) (hM : M'.2.2.2.2.1 = []) (h0 : g_me y M' 0) {host : String} (hlk : Cond.methodLinkNest M.1 idx y host ∈ g_bads) (h1 : Cond.instanceMethod y ∈ g_all ∧ y.name = "<init>") (hret : M'.2.2.2.1 = none) (hd' : d' + 1 ≤ d) (hk1 : mc ≤ kc) (hk2 : ms ≤ ks) (hcat : (rest.map fun v => v.category).sum ≤ 8) (hd : decode M.2.1 pc = .ok (.invokespecial idx, 3))
    (hm : GM E d' y M' mc ms [.ref b] w im (g_k E d M (pc + 3) lv rest (kc - mc) (ks - ms) Q)) : G E d M (pc) (lv) (.ref b :: rest) (w) (im) (kc) (ks) Q := by
  intro p e R s m args below meth c H locs ls cells slots MC MS dd hdd hf hR hl hP hS hc hs
  have hm9 := hm (dd - 1) (by omega)
  obtain ⟨n1, n2, n3, n4, n5, n6, -⟩ := h0
  have hts := hf.2.2.2.2.1
  have hG : GoodIn g_all (g_w y M' :: g_all) := fun x hx => (List.mem_cons.mp hx).elim (fun e => e ▸ g_good _ n4) (g_good x)
  have hw : g_w y M' = .code y M'.2.1 M'.2.2.1 M'.2.2.2.1 := by simp [g_w, hM]
  have r1 := hR.1
  have r2 := hR.2.1
  have hcn : va_CN R s args M.1 idx y host M'.2.1 M'.2.2.1 M'.2.2.2.1 (g_w y M' :: g_all) (g_rm (dd - 1) mc ms) mc ms 0 := ⟨⟨rfl, rfl, by rw [g_rmF]; omega, g_locs n6 (by omega) r2, pay_in hts hG, by rw [hw]; exact List.mem_cons_self⟩, hw ▸ hts _ n4, hts _ n5, ⟨n1, n2⟩, fun sig h => by rw [h] at n3; exact (Option.some.inj n3).symm, va_Nw.use rfl (hf.2.2.2.2.2.2.2.2.2.2.2.2.2.2.2.1 _ hlk)⟩
  rw [hret] at hcn
  exact g_after hx hdd hf hR hl hS hc hs hk1 hk2 (vx_runIN (As := []) (rest := rest) ⟨hf.1, hf.2.1, hf.2.2.1, hf.2.2.2.1, hf.2.2.2.2.1⟩ hm9 ⟨hcn, h1.2, hts _ h1.1⟩ ⟨g_PcBlind, g_pre hf hP hS _⟩ rfl rfl hl.1 rfl (lv_room hcat) hd ⟨by have := hR.2.2.1; omega, by have := hR.2.2.2; omega⟩)
theorem g_callW2 {d' idx mc ms : Nat} {y : MethodName} {M' : gM} {rest : List Value} {x1 x2 : Value} (hx : M.2.2.2.2.1 = []) (hM : M'.2.2.2.2.1.isEmpty = false) (h0 : g_me y M' 2) (hlk : Cond.methodLink M.1 idx y ∈ g_all) (h1 : Cond.static y ∈ g_all) (hd' : d' + 1 ≤ d) (hk1 : mc ≤ kc) (hk2 : ms ≤ ks) (hcat : (rest.map fun v => v.category).sum ≤ 8) (hd : decode M.2.1 pc = .ok (.invokestatic idx, 3))
    (hm : GM E d' y M' mc ms [x1, x2] w im (g_k E d M (pc + 3) lv rest (kc - mc) (ks - ms) Q)) : G E d M (pc) (lv) (x2 :: x1 :: rest) (w) (im) (kc) (ks) Q := by
  intro p e R s m args below meth c H locs ls cells slots MC MS dd hdd hf hR hl hP hS hc hs
  have hm9 := hm (dd - 1) (by omega)
  obtain ⟨n1, n2, n3, n4, n5, n6, -⟩ := h0
  have hts := hf.2.2.2.2.1
  have hG : GoodIn g_all (g_w y M' :: g_all) := fun x hx => (List.mem_cons.mp hx).elim (fun e => e ▸ g_good _ n4) (g_good x)
  have hw : g_w y M' = .codeWith y M'.2.1 M'.2.2.1 M'.2.2.2.1 M'.2.2.2.2.1 := by simp [g_w, hM]
  have r1 := hR.1
  have r2 := hR.2.1
  have hcs : vx_CSW R s args M.1 idx y M'.2.1 M'.2.2.1 M'.2.2.2.1 M'.2.2.2.2.1 (g_w y M' :: g_all) (g_rm (dd - 1) mc ms) mc ms 2 := ⟨⟨rfl, rfl, by rw [g_rmF]; omega, g_locs n6 (by omega) r2, pay_in hts hG, by rw [hw]; exact List.mem_cons_self⟩, hw ▸ hts _ n4, hts _ n5, ⟨n1, n2⟩, fun sig h => by rw [h] at n3; exact (Option.some.inj n3).symm, hts _ hlk, hts _ h1⟩
  exact g_after hx hdd hf hR hl hS hc hs hk1 hk2 (vx_runSX (As := [x1, x2]) (rest := rest) ⟨hf.1, hf.2.1, hf.2.2.1, hf.2.2.2.1, hf.2.2.2.2.1⟩ hm9 hcs ⟨g_PcBlind, g_pre hf hP hS _⟩ rfl rfl hl.1 rfl (lv_room hcat) hd ⟨by have := hR.2.2.1; omega, by have := hR.2.2.2; omega⟩)
theorem g_callW3 {d' idx mc ms : Nat} {y : MethodName} {M' : gM} {rest : List Value} {x1 x2 x3 : Value} (hx : M.2.2.2.2.1 = []) (hM : M'.2.2.2.2.1.isEmpty = false) (h0 : g_me y M' 3) (hlk : Cond.methodLink M.1 idx y ∈ g_all) (h1 : Cond.static y ∈ g_all) (hd' : d' + 1 ≤ d) (hk1 : mc ≤ kc) (hk2 : ms ≤ ks) (hcat : (rest.map fun v => v.category).sum ≤ 8) (hd : decode M.2.1 pc = .ok (.invokestatic idx, 3))
    (hm : GM E d' y M' mc ms [x1, x2, x3] w im (g_k E d M (pc + 3) lv rest (kc - mc) (ks - ms) Q)) : G E d M (pc) (lv) (x3 :: x2 :: x1 :: rest) (w) (im) (kc) (ks) Q := by
  intro p e R s m args below meth c H locs ls cells slots MC MS dd hdd hf hR hl hP hS hc hs
  have hm9 := hm (dd - 1) (by omega)
  obtain ⟨n1, n2, n3, n4, n5, n6, -⟩ := h0
  have hts := hf.2.2.2.2.1
  have hG : GoodIn g_all (g_w y M' :: g_all) := fun x hx => (List.mem_cons.mp hx).elim (fun e => e ▸ g_good _ n4) (g_good x)
  have hw : g_w y M' = .codeWith y M'.2.1 M'.2.2.1 M'.2.2.2.1 M'.2.2.2.2.1 := by simp [g_w, hM]
  have r1 := hR.1
  have r2 := hR.2.1
  have hcs : vx_CSW R s args M.1 idx y M'.2.1 M'.2.2.1 M'.2.2.2.1 M'.2.2.2.2.1 (g_w y M' :: g_all) (g_rm (dd - 1) mc ms) mc ms 3 := ⟨⟨rfl, rfl, by rw [g_rmF]; omega, g_locs n6 (by omega) r2, pay_in hts hG, by rw [hw]; exact List.mem_cons_self⟩, hw ▸ hts _ n4, hts _ n5, ⟨n1, n2⟩, fun sig h => by rw [h] at n3; exact (Option.some.inj n3).symm, hts _ hlk, hts _ h1⟩
  exact g_after hx hdd hf hR hl hS hc hs hk1 hk2 (vx_runSX (As := [x1, x2, x3]) (rest := rest) ⟨hf.1, hf.2.1, hf.2.2.1, hf.2.2.2.1, hf.2.2.2.2.1⟩ hm9 hcs ⟨g_PcBlind, g_pre hf hP hS _⟩ rfl rfl hl.1 rfl (lv_room hcat) hd ⟨by have := hR.2.2.1; omega, by have := hR.2.2.2; omega⟩)
theorem g_callW4 {d' idx mc ms : Nat} {y : MethodName} {M' : gM} {rest : List Value} {x1 x2 x3 x4 : Value} (hx : M.2.2.2.2.1 = []) (hM : M'.2.2.2.2.1.isEmpty = false) (h0 : g_me y M' 4) (hlk : Cond.methodLink M.1 idx y ∈ g_all) (h1 : Cond.static y ∈ g_all) (hd' : d' + 1 ≤ d) (hk1 : mc ≤ kc) (hk2 : ms ≤ ks) (hcat : (rest.map fun v => v.category).sum ≤ 8) (hd : decode M.2.1 pc = .ok (.invokestatic idx, 3))
    (hm : GM E d' y M' mc ms [x1, x2, x3, x4] w im (g_k E d M (pc + 3) lv rest (kc - mc) (ks - ms) Q)) : G E d M (pc) (lv) (x4 :: x3 :: x2 :: x1 :: rest) (w) (im) (kc) (ks) Q := by
  intro p e R s m args below meth c H locs ls cells slots MC MS dd hdd hf hR hl hP hS hc hs
  have hm9 := hm (dd - 1) (by omega)
  obtain ⟨n1, n2, n3, n4, n5, n6, -⟩ := h0
  have hts := hf.2.2.2.2.1
  have hG : GoodIn g_all (g_w y M' :: g_all) := fun x hx => (List.mem_cons.mp hx).elim (fun e => e ▸ g_good _ n4) (g_good x)
  have hw : g_w y M' = .codeWith y M'.2.1 M'.2.2.1 M'.2.2.2.1 M'.2.2.2.2.1 := by simp [g_w, hM]
  have r1 := hR.1
  have r2 := hR.2.1
  have hcs : vx_CSW R s args M.1 idx y M'.2.1 M'.2.2.1 M'.2.2.2.1 M'.2.2.2.2.1 (g_w y M' :: g_all) (g_rm (dd - 1) mc ms) mc ms 4 := ⟨⟨rfl, rfl, by rw [g_rmF]; omega, g_locs n6 (by omega) r2, pay_in hts hG, by rw [hw]; exact List.mem_cons_self⟩, hw ▸ hts _ n4, hts _ n5, ⟨n1, n2⟩, fun sig h => by rw [h] at n3; exact (Option.some.inj n3).symm, hts _ hlk, hts _ h1⟩
  exact g_after hx hdd hf hR hl hS hc hs hk1 hk2 (vx_runSX (As := [x1, x2, x3, x4]) (rest := rest) ⟨hf.1, hf.2.1, hf.2.2.1, hf.2.2.2.1, hf.2.2.2.2.1⟩ hm9 hcs ⟨g_PcBlind, g_pre hf hP hS _⟩ rfl rfl hl.1 rfl (lv_room hcat) hd ⟨by have := hR.2.2.1; omega, by have := hR.2.2.2; omega⟩)
theorem g_callW5 {d' idx mc ms : Nat} {y : MethodName} {M' : gM} {rest : List Value} {x1 x2 x3 x4 x5 : Value} (hx : M.2.2.2.2.1 = []) (hM : M'.2.2.2.2.1.isEmpty = false) (h0 : g_me y M' 5) (hlk : Cond.methodLink M.1 idx y ∈ g_all) (h1 : Cond.static y ∈ g_all) (hd' : d' + 1 ≤ d) (hk1 : mc ≤ kc) (hk2 : ms ≤ ks) (hcat : (rest.map fun v => v.category).sum ≤ 8) (hd : decode M.2.1 pc = .ok (.invokestatic idx, 3))
    (hm : GM E d' y M' mc ms [x1, x2, x3, x4, x5] w im (g_k E d M (pc + 3) lv rest (kc - mc) (ks - ms) Q)) : G E d M (pc) (lv) (x5 :: x4 :: x3 :: x2 :: x1 :: rest) (w) (im) (kc) (ks) Q := by
  intro p e R s m args below meth c H locs ls cells slots MC MS dd hdd hf hR hl hP hS hc hs
  have hm9 := hm (dd - 1) (by omega)
  obtain ⟨n1, n2, n3, n4, n5, n6, -⟩ := h0
  have hts := hf.2.2.2.2.1
  have hG : GoodIn g_all (g_w y M' :: g_all) := fun x hx => (List.mem_cons.mp hx).elim (fun e => e ▸ g_good _ n4) (g_good x)
  have hw : g_w y M' = .codeWith y M'.2.1 M'.2.2.1 M'.2.2.2.1 M'.2.2.2.2.1 := by simp [g_w, hM]
  have r1 := hR.1
  have r2 := hR.2.1
  have hcs : vx_CSW R s args M.1 idx y M'.2.1 M'.2.2.1 M'.2.2.2.1 M'.2.2.2.2.1 (g_w y M' :: g_all) (g_rm (dd - 1) mc ms) mc ms 5 := ⟨⟨rfl, rfl, by rw [g_rmF]; omega, g_locs n6 (by omega) r2, pay_in hts hG, by rw [hw]; exact List.mem_cons_self⟩, hw ▸ hts _ n4, hts _ n5, ⟨n1, n2⟩, fun sig h => by rw [h] at n3; exact (Option.some.inj n3).symm, hts _ hlk, hts _ h1⟩
  exact g_after hx hdd hf hR hl hS hc hs hk1 hk2 (vx_runSX (As := [x1, x2, x3, x4, x5]) (rest := rest) ⟨hf.1, hf.2.1, hf.2.2.1, hf.2.2.2.1, hf.2.2.2.2.1⟩ hm9 hcs ⟨g_PcBlind, g_pre hf hP hS _⟩ rfl rfl hl.1 rfl (lv_room hcat) hd ⟨by have := hR.2.2.1; omega, by have := hR.2.2.2; omega⟩)
theorem g_callW8 {d' idx mc ms : Nat} {y : MethodName} {M' : gM} {rest : List Value} {x1 x2 x3 x4 x5 x6 x7 x8 : Value} (hx : M.2.2.2.2.1 = []) (hM : M'.2.2.2.2.1.isEmpty = false) (h0 : g_me y M' 8) (hlk : Cond.methodLink M.1 idx y ∈ g_all) (h1 : Cond.static y ∈ g_all) (hd' : d' + 1 ≤ d) (hk1 : mc ≤ kc) (hk2 : ms ≤ ks) (hcat : (rest.map fun v => v.category).sum ≤ 8) (hd : decode M.2.1 pc = .ok (.invokestatic idx, 3))
    (hm : GM E d' y M' mc ms [x1, x2, x3, x4, x5, x6, x7, x8] w im (g_k E d M (pc + 3) lv rest (kc - mc) (ks - ms) Q)) : G E d M (pc) (lv) (x8 :: x7 :: x6 :: x5 :: x4 :: x3 :: x2 :: x1 :: rest) (w) (im) (kc) (ks) Q := by
  intro p e R s m args below meth c H locs ls cells slots MC MS dd hdd hf hR hl hP hS hc hs
  have hm9 := hm (dd - 1) (by omega)
  obtain ⟨n1, n2, n3, n4, n5, n6, -⟩ := h0
  have hts := hf.2.2.2.2.1
  have hG : GoodIn g_all (g_w y M' :: g_all) := fun x hx => (List.mem_cons.mp hx).elim (fun e => e ▸ g_good _ n4) (g_good x)
  have hw : g_w y M' = .codeWith y M'.2.1 M'.2.2.1 M'.2.2.2.1 M'.2.2.2.2.1 := by simp [g_w, hM]
  have r1 := hR.1
  have r2 := hR.2.1
  have hcs : vx_CSW R s args M.1 idx y M'.2.1 M'.2.2.1 M'.2.2.2.1 M'.2.2.2.2.1 (g_w y M' :: g_all) (g_rm (dd - 1) mc ms) mc ms 8 := ⟨⟨rfl, rfl, by rw [g_rmF]; omega, g_locs n6 (by omega) r2, pay_in hts hG, by rw [hw]; exact List.mem_cons_self⟩, hw ▸ hts _ n4, hts _ n5, ⟨n1, n2⟩, fun sig h => by rw [h] at n3; exact (Option.some.inj n3).symm, hts _ hlk, hts _ h1⟩
  exact g_after hx hdd hf hR hl hS hc hs hk1 hk2 (vx_runSX (As := [x1, x2, x3, x4, x5, x6, x7, x8]) (rest := rest) ⟨hf.1, hf.2.1, hf.2.2.1, hf.2.2.2.1, hf.2.2.2.2.1⟩ hm9 hcs ⟨g_PcBlind, g_pre hf hP hS _⟩ rfl rfl hl.1 rfl (lv_room hcat) hd ⟨by have := hR.2.2.1; omega, by have := hR.2.2.2; omega⟩)
/-- the handler at hpc of the method M takes the class X, thrown at pc -/
def g_hnd (M : gM) (X : String) (pc hpc : Nat) : Prop := ∃ (pre : List ExceptionTableEntry) (x : ExceptionTableEntry) (suf : List ExceptionTableEntry) (nm : String), tableOf M.2.2.2.2.1 = pre ++ x :: suf ∧
  (∀ z ∈ pre, covers z pc = false ∨ (z.catchType ≠ 0 ∧ ∃ nm' : String, Cond.classLink M.1 z.catchType nm' ∈ g_all ∧ (X, nm') ∈ g_nc)) ∧ covers x pc = true ∧ x.catchType ≠ 0 ∧ Cond.classLink M.1 x.catchType nm ∈ g_all ∧ Cond.castable X nm ∈ g_bads ∧ x.handlerPc = hpc
/-- behind a call in a frame with handlers: caught at hpc -/
def g_kh (E : gE) (d : Nat) (M : gM) (pc pc0 : Nat) (lv : List (Nat × Value)) (rest : List Value) (kc ks : Nat) (Q : gQ) : gQ := fun o w im => match o with
  | .inl v => G E d M pc lv (v.toList ++ rest) w im kc ks Q
  | .inr X => ∃ hpc, g_hnd M X pc0 hpc ∧ ∀ q : Nat, G E d M hpc lv [.ref q] w im kc ks Q
theorem g_afterH {p : Program} {e : Env} {R : Room} {s : State} {m : MethodId} {args : Array Value} {below : List Frame} {meth : Method} {c : Code} {H : Heap} {locs : List Loc} {ls : Array Slot} {cells slots MC MS dd mc ms : Nat} {st0 rest : List Value} {a : Array Value}
    (hdd : d ≤ dd) (hf : g_fix E M p s m args meth c) (hR : g_room R dd MC MS) (hl : lv_has ls M.2.2.1 lv) (hS : va_S (fun q => gb E ≤ q) s.heap H locs) (hc : cells + kc ≤ MC) (hs : slots + ks ≤ MS) (hk1 : mc ≤ kc) (hk2 : ms ≤ ks)
    (hr : vx_Run p (gl E) e R s m args below meth c H locs cells slots mc ms (F0 m pc ls st0) rest (g_Qc E (g_kh E d M (pc + 3) pc lv rest (kc - mc) (ks - ms) Q) a) (g_XC E (g_kh E d M (pc + 3) pc lv rest (kc - mc) (ks - ms) Q)) (fun q => gb E ≤ q)) :
    W p (gl E) e R s m args below meth c H locs cells slots (vx_MQ below (g_Qc E Q) (g_XC E Q) args s MC MS (fun q => gb E ≤ q)) (F0 m pc ls st0) := by
  intro T hT X
  have key : ∀ (t T' : State) (L : List Loc), T'.heap = t.heap → H.size ≤ t.heap.size → (∀ q : Nat, q < gb E → t.heap[q]? = H[q]?) → (∀ q ∈ L, gb E ≤ q.base) → va_S (fun q => gb E ≤ q) s.heap t.heap (locs ++ L) := fun t T' L _ hz hq hL =>
    ⟨Nat.le_trans hS.1 hz, fun q h1 h2 => (hq q (Nat.lt_of_not_le h2)).trans (hS.2.1 q h1 h2), fun q hq => by
      rcases List.mem_append.mp hq with h | h
      · exact hS.2.2 q h
      · exact hL q h⟩
  rcases hr T hT X with ⟨v, st₀, t, T', L, h0, X', hL, e1, e2, ⟨v2, w2, im2, hv2, hQ, hP2, hz, hq⟩, step⟩ | ⟨q9, st₀, t, T', L, Ex, ce, h0, X', hL, e1, e2, ⟨w2, im2, hQ, hP2, hz, hq⟩, hce, hcv, hcl, step⟩
  · cases hv2
    rw [h0] at hz hq
    obtain ⟨t2, a1, b1⟩ := hQ p e R s m args below meth c t.heap (locs ++ L) ls (cells + mc) (slots + ms) MC MS dd hdd hf hR hl hP2 (key t T' L e1 hz hq hL) (by omega) (by omega) T' e1 X'
    exact ⟨t2, step t2 a1, b1⟩
  · rw [h0] at hz hq
    have hS2 := key t T' L e1 hz hq hL
    obtain ⟨hpc, ⟨pre, x, suf, nm, c1, c2, c3, c4, c5, c6, rfl⟩, hG⟩ := hQ
    have hout := vx_catch (p := p) (l := gl E) (e := e) (R := R) (s := s) (m := m) (args := args) (below := below) (meth := meth) (c := c) (H := t.heap) (locs := locs ++ L) (cells := cells + mc) (slots := slots + ms) (Q := vx_MQ below (g_Qc E Q) (g_XC E Q) args s MC MS (fun q => gb E ≤ q)) (ls := ls) (rest := rest) (pc := pc) (own := M.1) (name := nm) (E := Ex) (ce := ce) (q := q9)
      hf.2.2.2.1 pre x suf (hf.2.2.2.2.2.2.2.1.trans c1) (fun z hz9 => (c2 z hz9).imp id fun ⟨k1, nm', k2, k3⟩ => ⟨k1, nm', hf.2.2.2.2.1 _ k2, hf.2.2.2.2.2.2.2.2.2.2.2.2.2.2.1 _ k3⟩) c3 c4 (hf.2.2.2.2.1 _ c5) (va_Nw.use rfl (hf.2.2.2.2.2.2.2.2.2.2.2.2.2.2.2.1 _ c6)) hce hcv hcl
      (hG q9 p e R s m args below meth c t.heap (locs ++ L) ls (cells + mc) (slots + ms) MC MS dd hdd hf hR hl hP2 hS2 (by omega) (by omega))
    obtain ⟨t2, a1, b1⟩ := hout T' e1 X'
    exact ⟨t2, step.trans a1, b1⟩

theorem g_callVH0 {d' idx mc ms b : Nat} {y : MethodName} {M' : gM} {rest : List Value} (hM : M'.2.2.2.2.1 = []) (h0 : g_me y M' 0) (hlk : Cond.methodLink M.1 idx y ∈ g_all) (h1 : Cond.instanceMethod y ∈ g_all ∧ Cond.selects y.cls y y ∈ g_all) (ci : Nat) {fs : List Value} (hci : ci < 10) (hcl : y.cls = g_C ci) (hb : g_cell E w im b (.inr (ci, fs))) (hd' : d' + 1 ≤ d) (hk1 : mc ≤ kc) (hk2 : ms ≤ ks) (hcat : (rest.map fun v => v.category).sum ≤ 8) (hd : decode M.2.1 pc = .ok (.invokevirtual idx, 3))
    (hm : GM E d' y M' mc ms [.ref b] w im (g_kh E d M (pc + 3) pc lv rest (kc - mc) (ks - ms) Q)) : G E d M (pc) (lv) (.ref b :: rest) (w) (im) (kc) (ks) Q := by
  intro p e R s m args below meth c H locs ls cells slots MC MS dd hdd hf hR hl hP hS hc hs
  have hm9 := hm (dd - 1) (by omega)
  obtain ⟨-, r', hr', cellB, g1, g2, g3, -⟩ := hP.get hb
  have hr : r' = (g_C ci, g_T ci, g_n ci) := Option.some.inj (hr'.symm.trans (g_clat hci))
  have hKn := (hf.2.2.2.2.2.2.2.2.2.1).1 ci _ (g_clat hci)
  have hcb := g_callB (mc := mc) (ms := ms) hf hR hM (Nat.le_trans hd' hdd) h0 (hf.2.2.2.2.1 _ hlk)
  exact g_afterH hdd hf hR hl hS hc hs hk1 hk2 (vx_runV (C := y.cls) (As := []) (rest := rest) ⟨hf.1, hf.2.1, hf.2.2.1, hf.2.2.2.1, hf.2.2.2.2.1⟩ hm9 ⟨hcb, hf.2.2.2.2.1 _ h1.1, hf.2.2.2.2.1 _ h1.2⟩ ⟨g_PcBlind, ⟨cellB, g1, by rw [g3]; rfl, by rw [g2, hcl]; exact hKn.2.1⟩, g_pre hf hP hS _⟩ rfl rfl hl.1 rfl (lv_room hcat) hd ⟨by have := hR.2.2.1; omega, by have := hR.2.2.2; omega⟩)
theorem g_callVH1 {d' idx mc ms b : Nat} {y : MethodName} {M' : gM} {rest : List Value} {x1 : Value} (hM : M'.2.2.2.2.1 = []) (h0 : g_me y M' 1) (hlk : Cond.methodLink M.1 idx y ∈ g_all) (h1 : Cond.instanceMethod y ∈ g_all ∧ Cond.selects y.cls y y ∈ g_all) (ci : Nat) {fs : List Value} (hci : ci < 10) (hcl : y.cls = g_C ci) (hb : g_cell E w im b (.inr (ci, fs))) (hd' : d' + 1 ≤ d) (hk1 : mc ≤ kc) (hk2 : ms ≤ ks) (hcat : (rest.map fun v => v.category).sum ≤ 8) (hd : decode M.2.1 pc = .ok (.invokevirtual idx, 3))
    (hm : GM E d' y M' mc ms [.ref b, x1] w im (g_kh E d M (pc + 3) pc lv rest (kc - mc) (ks - ms) Q)) : G E d M (pc) (lv) (x1 :: .ref b :: rest) (w) (im) (kc) (ks) Q := by
  intro p e R s m args below meth c H locs ls cells slots MC MS dd hdd hf hR hl hP hS hc hs
  have hm9 := hm (dd - 1) (by omega)
  obtain ⟨-, r', hr', cellB, g1, g2, g3, -⟩ := hP.get hb
  have hr : r' = (g_C ci, g_T ci, g_n ci) := Option.some.inj (hr'.symm.trans (g_clat hci))
  have hKn := (hf.2.2.2.2.2.2.2.2.2.1).1 ci _ (g_clat hci)
  have hcb := g_callB (mc := mc) (ms := ms) hf hR hM (Nat.le_trans hd' hdd) h0 (hf.2.2.2.2.1 _ hlk)
  exact g_afterH hdd hf hR hl hS hc hs hk1 hk2 (vx_runV (C := y.cls) (As := [x1]) (rest := rest) ⟨hf.1, hf.2.1, hf.2.2.1, hf.2.2.2.1, hf.2.2.2.2.1⟩ hm9 ⟨hcb, hf.2.2.2.2.1 _ h1.1, hf.2.2.2.2.1 _ h1.2⟩ ⟨g_PcBlind, ⟨cellB, g1, by rw [g3]; rfl, by rw [g2, hcl]; exact hKn.2.1⟩, g_pre hf hP hS _⟩ rfl rfl hl.1 rfl (lv_room hcat) hd ⟨by have := hR.2.2.1; omega, by have := hR.2.2.2; omega⟩)
theorem g_callVH2 {d' idx mc ms b : Nat} {y : MethodName} {M' : gM} {rest : List Value} {x1 x2 : Value} (hM : M'.2.2.2.2.1 = []) (h0 : g_me y M' 2) (hlk : Cond.methodLink M.1 idx y ∈ g_all) (h1 : Cond.instanceMethod y ∈ g_all ∧ Cond.selects y.cls y y ∈ g_all) (ci : Nat) {fs : List Value} (hci : ci < 10) (hcl : y.cls = g_C ci) (hb : g_cell E w im b (.inr (ci, fs))) (hd' : d' + 1 ≤ d) (hk1 : mc ≤ kc) (hk2 : ms ≤ ks) (hcat : (rest.map fun v => v.category).sum ≤ 8) (hd : decode M.2.1 pc = .ok (.invokevirtual idx, 3))
    (hm : GM E d' y M' mc ms [.ref b, x1, x2] w im (g_kh E d M (pc + 3) pc lv rest (kc - mc) (ks - ms) Q)) : G E d M (pc) (lv) (x2 :: x1 :: .ref b :: rest) (w) (im) (kc) (ks) Q := by
  intro p e R s m args below meth c H locs ls cells slots MC MS dd hdd hf hR hl hP hS hc hs
  have hm9 := hm (dd - 1) (by omega)
  obtain ⟨-, r', hr', cellB, g1, g2, g3, -⟩ := hP.get hb
  have hr : r' = (g_C ci, g_T ci, g_n ci) := Option.some.inj (hr'.symm.trans (g_clat hci))
  have hKn := (hf.2.2.2.2.2.2.2.2.2.1).1 ci _ (g_clat hci)
  have hcb := g_callB (mc := mc) (ms := ms) hf hR hM (Nat.le_trans hd' hdd) h0 (hf.2.2.2.2.1 _ hlk)
  exact g_afterH hdd hf hR hl hS hc hs hk1 hk2 (vx_runV (C := y.cls) (As := [x1, x2]) (rest := rest) ⟨hf.1, hf.2.1, hf.2.2.1, hf.2.2.2.1, hf.2.2.2.2.1⟩ hm9 ⟨hcb, hf.2.2.2.2.1 _ h1.1, hf.2.2.2.2.1 _ h1.2⟩ ⟨g_PcBlind, ⟨cellB, g1, by rw [g3]; rfl, by rw [g2, hcl]; exact hKn.2.1⟩, g_pre hf hP hS _⟩ rfl rfl hl.1 rfl (lv_room hcat) hd ⟨by have := hR.2.2.1; omega, by have := hR.2.2.2; omega⟩)
theorem g_callVH3 {d' idx mc ms b : Nat} {y : MethodName} {M' : gM} {rest : List Value} {x1 x2 x3 : Value} (hM : M'.2.2.2.2.1 = []) (h0 : g_me y M' 3) (hlk : Cond.methodLink M.1 idx y ∈ g_all) (h1 : Cond.instanceMethod y ∈ g_all ∧ Cond.selects y.cls y y ∈ g_all) (ci : Nat) {fs : List Value} (hci : ci < 10) (hcl : y.cls = g_C ci) (hb : g_cell E w im b (.inr (ci, fs))) (hd' : d' + 1 ≤ d) (hk1 : mc ≤ kc) (hk2 : ms ≤ ks) (hcat : (rest.map fun v => v.category).sum ≤ 8) (hd : decode M.2.1 pc = .ok (.invokevirtual idx, 3))
    (hm : GM E d' y M' mc ms [.ref b, x1, x2, x3] w im (g_kh E d M (pc + 3) pc lv rest (kc - mc) (ks - ms) Q)) : G E d M (pc) (lv) (x3 :: x2 :: x1 :: .ref b :: rest) (w) (im) (kc) (ks) Q := by
  intro p e R s m args below meth c H locs ls cells slots MC MS dd hdd hf hR hl hP hS hc hs
  have hm9 := hm (dd - 1) (by omega)
  obtain ⟨-, r', hr', cellB, g1, g2, g3, -⟩ := hP.get hb
  have hr : r' = (g_C ci, g_T ci, g_n ci) := Option.some.inj (hr'.symm.trans (g_clat hci))
  have hKn := (hf.2.2.2.2.2.2.2.2.2.1).1 ci _ (g_clat hci)
  have hcb := g_callB (mc := mc) (ms := ms) hf hR hM (Nat.le_trans hd' hdd) h0 (hf.2.2.2.2.1 _ hlk)
  exact g_afterH hdd hf hR hl hS hc hs hk1 hk2 (vx_runV (C := y.cls) (As := [x1, x2, x3]) (rest := rest) ⟨hf.1, hf.2.1, hf.2.2.1, hf.2.2.2.1, hf.2.2.2.2.1⟩ hm9 ⟨hcb, hf.2.2.2.2.1 _ h1.1, hf.2.2.2.2.1 _ h1.2⟩ ⟨g_PcBlind, ⟨cellB, g1, by rw [g3]; rfl, by rw [g2, hcl]; exact hKn.2.1⟩, g_pre hf hP hS _⟩ rfl rfl hl.1 rfl (lv_room hcat) hd ⟨by have := hR.2.2.1; omega, by have := hR.2.2.2; omega⟩)
theorem g_callVH4 {d' idx mc ms b : Nat} {y : MethodName} {M' : gM} {rest : List Value} {x1 x2 x3 x4 : Value} (hM : M'.2.2.2.2.1 = []) (h0 : g_me y M' 4) (hlk : Cond.methodLink M.1 idx y ∈ g_all) (h1 : Cond.instanceMethod y ∈ g_all ∧ Cond.selects y.cls y y ∈ g_all) (ci : Nat) {fs : List Value} (hci : ci < 10) (hcl : y.cls = g_C ci) (hb : g_cell E w im b (.inr (ci, fs))) (hd' : d' + 1 ≤ d) (hk1 : mc ≤ kc) (hk2 : ms ≤ ks) (hcat : (rest.map fun v => v.category).sum ≤ 8) (hd : decode M.2.1 pc = .ok (.invokevirtual idx, 3))
    (hm : GM E d' y M' mc ms [.ref b, x1, x2, x3, x4] w im (g_kh E d M (pc + 3) pc lv rest (kc - mc) (ks - ms) Q)) : G E d M (pc) (lv) (x4 :: x3 :: x2 :: x1 :: .ref b :: rest) (w) (im) (kc) (ks) Q := by
  intro p e R s m args below meth c H locs ls cells slots MC MS dd hdd hf hR hl hP hS hc hs
  have hm9 := hm (dd - 1) (by omega)
  obtain ⟨-, r', hr', cellB, g1, g2, g3, -⟩ := hP.get hb
  have hr : r' = (g_C ci, g_T ci, g_n ci) := Option.some.inj (hr'.symm.trans (g_clat hci))
  have hKn := (hf.2.2.2.2.2.2.2.2.2.1).1 ci _ (g_clat hci)
  have hcb := g_callB (mc := mc) (ms := ms) hf hR hM (Nat.le_trans hd' hdd) h0 (hf.2.2.2.2.1 _ hlk)
  exact g_afterH hdd hf hR hl hS hc hs hk1 hk2 (vx_runV (C := y.cls) (As := [x1, x2, x3, x4]) (rest := rest) ⟨hf.1, hf.2.1, hf.2.2.1, hf.2.2.2.1, hf.2.2.2.2.1⟩ hm9 ⟨hcb, hf.2.2.2.2.1 _ h1.1, hf.2.2.2.2.1 _ h1.2⟩ ⟨g_PcBlind, ⟨cellB, g1, by rw [g3]; rfl, by rw [g2, hcl]; exact hKn.2.1⟩, g_pre hf hP hS _⟩ rfl rfl hl.1 rfl (lv_room hcat) hd ⟨by have := hR.2.2.1; omega, by have := hR.2.2.2; omega⟩)
theorem g_callVH5 {d' idx mc ms b : Nat} {y : MethodName} {M' : gM} {rest : List Value} {x1 x2 x3 x4 x5 : Value} (hM : M'.2.2.2.2.1 = []) (h0 : g_me y M' 5) (hlk : Cond.methodLink M.1 idx y ∈ g_all) (h1 : Cond.instanceMethod y ∈ g_all ∧ Cond.selects y.cls y y ∈ g_all) (ci : Nat) {fs : List Value} (hci : ci < 10) (hcl : y.cls = g_C ci) (hb : g_cell E w im b (.inr (ci, fs))) (hd' : d' + 1 ≤ d) (hk1 : mc ≤ kc) (hk2 : ms ≤ ks) (hcat : (rest.map fun v => v.category).sum ≤ 8) (hd : decode M.2.1 pc = .ok (.invokevirtual idx, 3))
    (hm : GM E d' y M' mc ms [.ref b, x1, x2, x3, x4, x5] w im (g_kh E d M (pc + 3) pc lv rest (kc - mc) (ks - ms) Q)) : G E d M (pc) (lv) (x5 :: x4 :: x3 :: x2 :: x1 :: .ref b :: rest) (w) (im) (kc) (ks) Q := by
  intro p e R s m args below meth c H locs ls cells slots MC MS dd hdd hf hR hl hP hS hc hs
  have hm9 := hm (dd - 1) (by omega)
  obtain ⟨-, r', hr', cellB, g1, g2, g3, -⟩ := hP.get hb
  have hr : r' = (g_C ci, g_T ci, g_n ci) := Option.some.inj (hr'.symm.trans (g_clat hci))
  have hKn := (hf.2.2.2.2.2.2.2.2.2.1).1 ci _ (g_clat hci)
  have hcb := g_callB (mc := mc) (ms := ms) hf hR hM (Nat.le_trans hd' hdd) h0 (hf.2.2.2.2.1 _ hlk)
  exact g_afterH hdd hf hR hl hS hc hs hk1 hk2 (vx_runV (C := y.cls) (As := [x1, x2, x3, x4, x5]) (rest := rest) ⟨hf.1, hf.2.1, hf.2.2.1, hf.2.2.2.1, hf.2.2.2.2.1⟩ hm9 ⟨hcb, hf.2.2.2.2.1 _ h1.1, hf.2.2.2.2.1 _ h1.2⟩ ⟨g_PcBlind, ⟨cellB, g1, by rw [g3]; rfl, by rw [g2, hcl]; exact hKn.2.1⟩, g_pre hf hP hS _⟩ rfl rfl hl.1 rfl (lv_room hcat) hd ⟨by have := hR.2.2.1; omega, by have := hR.2.2.2; omega⟩)
theorem g_callVH6 {d' idx mc ms b : Nat} {y : MethodName} {M' : gM} {rest : List Value} {x1 x2 x3 x4 x5 x6 : Value} (hM : M'.2.2.2.2.1 = []) (h0 : g_me y M' 6) (hlk : Cond.methodLink M.1 idx y ∈ g_all) (h1 : Cond.instanceMethod y ∈ g_all ∧ Cond.selects y.cls y y ∈ g_all) (ci : Nat) {fs : List Value} (hci : ci < 10) (hcl : y.cls = g_C ci) (hb : g_cell E w im b (.inr (ci, fs))) (hd' : d' + 1 ≤ d) (hk1 : mc ≤ kc) (hk2 : ms ≤ ks) (hcat : (rest.map fun v => v.category).sum ≤ 8) (hd : decode M.2.1 pc = .ok (.invokevirtual idx, 3))
    (hm : GM E d' y M' mc ms [.ref b, x1, x2, x3, x4, x5, x6] w im (g_kh E d M (pc + 3) pc lv rest (kc - mc) (ks - ms) Q)) : G E d M (pc) (lv) (x6 :: x5 :: x4 :: x3 :: x2 :: x1 :: .ref b :: rest) (w) (im) (kc) (ks) Q := by
  intro p e R s m args below meth c H locs ls cells slots MC MS dd hdd hf hR hl hP hS hc hs
  have hm9 := hm (dd - 1) (by omega)
  obtain ⟨-, r', hr', cellB, g1, g2, g3, -⟩ := hP.get hb
  have hr : r' = (g_C ci, g_T ci, g_n ci) := Option.some.inj (hr'.symm.trans (g_clat hci))
  have hKn := (hf.2.2.2.2.2.2.2.2.2.1).1 ci _ (g_clat hci)
  have hcb := g_callB (mc := mc) (ms := ms) hf hR hM (Nat.le_trans hd' hdd) h0 (hf.2.2.2.2.1 _ hlk)
  exact g_afterH hdd hf hR hl hS hc hs hk1 hk2 (vx_runV (C := y.cls) (As := [x1, x2, x3, x4, x5, x6]) (rest := rest) ⟨hf.1, hf.2.1, hf.2.2.1, hf.2.2.2.1, hf.2.2.2.2.1⟩ hm9 ⟨hcb, hf.2.2.2.2.1 _ h1.1, hf.2.2.2.2.1 _ h1.2⟩ ⟨g_PcBlind, ⟨cellB, g1, by rw [g3]; rfl, by rw [g2, hcl]; exact hKn.2.1⟩, g_pre hf hP hS _⟩ rfl rfl hl.1 rfl (lv_room hcat) hd ⟨by have := hR.2.2.1; omega, by have := hR.2.2.2; omega⟩)
/-- throw new X(text) at the end of a way, in a method without handlers -/
theorem g_throw {X text : String} {names : List String} {ik is ic : Nat} (hx : M.2.2.2.2.1 = []) (hcls : Bundle.fit X = true) (hnames : ∀ n ∈ names, Bundle.fit n = true) (hlen : names.length ≤ 4)
    (hk : Cond.classLink M.1 ik X ∈ g_all) (hini : Cond.initialized X ∈ g_all) (hstr : (M.1, is, text) ∈ g_strs) (hat : ∀ x ∈ vx_atS M.1 ic X names, x ∈ g_all ∨ x ∈ g_bads) (hgood : ∀ x ∈ vx_atS M.1 ic X names, vx_ot x = true)
    (hcat : (st.map fun v => v.category).sum ≤ 8) (hk1 : 1 ≤ kc) (hk2 : 6 ≤ ks)
    (d0 : decode M.2.1 pc = .ok (.new ik, 3)) (d3 : decode M.2.1 (pc + 3) = .ok (.dup, 1)) (d4 : decode M.2.1 (pc + 4) = .ok (.ldc is, 2)) (d6 : decode M.2.1 (pc + 6) = .ok (.invokespecial ic, 3)) (d9 : decode M.2.1 (pc + 9) = .ok (.athrow, 1))
    (hQ : Q (.inr X) w im) : G E d M (pc) (lv) (st) (w) (im) (kc) (ks) Q := by
  intro p e R s m args below meth c H locs ls cells slots MC MS dd hdd hf hR hl hP hS hc hs
  obtain ⟨sa, hsa⟩ := hf.2.2.2.2.2.2.2.2.2.2.2.2.2.1 _ hstr
  have hb0 := hf.2.2.2.2.2.2.2.2.2.2.2.2.2.2.2.2.2.2.2.1
  have hr1 := hR.1
  have hr2 := hR.2.1
  have h13 : 13 * (names.length + 1) ≤ 65 := by omega
  refine vx_throwS (names := names) (text := text) (sa := sa) hf.1 hf.2.1 (hf.2.2.2.2.2.2.2.2.2.2.2.2.2.2.2.2.2.2.2.2) hf.2.2.2.1 hcls hnames (hf.2.2.2.2.1 _ hk) (hf.2.2.2.2.1 _ hini) hsa (fun x hx9 => (hat x hx9).elim (hf.2.2.2.2.1 x) fun h => va_Nw.use (g_badT (List.mem_filter.mp h).2) (hf.2.2.2.2.2.2.2.2.2.2.2.2.2.2.2.1 x h)) (fun x hx9 => ?_) (hf.2.2.2.2.2.2.2.2.2.2.2.1) (hf.2.2.2.2.2.2.2.2.2.2.2.2.1) hS (by rw [hf.2.2.1]; exact hl.1) d0 d3 d4 d6 d9
    (by rw [hf.2.2.2.2.2.2.2.1, hx]; intro x hx9; simp [tableOf] at hx9) (by omega) (by omega) (by have := hR.2.2.1; omega) (by have := hR.2.2.2; omega) hf.2.2.2.2.2.2.1 (fun t _ hz hq => ⟨w, im, hQ, hP.kept hq, Nat.le_trans hS.1 hz, fun q h => (hq q (Nat.lt_of_lt_of_le h (Nat.le_trans hb0 hS.1))).trans ((g_frame hS hb0).2 q h)⟩) hS.2.2 (by omega) (by omega)
  rcases List.mem_cons.mp hx9 with rfl | hx9
  · rfl
  · rcases List.mem_cons.mp hx9 with rfl | hx9
    · rfl
    · exact hgood x hx9
end GC
end
section
theorem zz_test : 1 + 1 = 2 := rfl
end

section
-- ===== PART A: goes FIRST, ahead of the names: the tables' words, and 'selects' of the private methods out of them =====
/-- a private method of a class that the tables say can be made, by its rows of tables_1 -/
def lw_okq (q : MethodName × Nat) : Prop := (q.1.cls ≠ "java/lang/invoke/MethodHandle" ∧ q.1.cls ≠ "java/lang/invoke/VarHandle") ∧ Cond.instantiable q.1.cls q.2 ∈ tables_1 ∧ Cond.privateMethod q.1 ∈ tables_1 ∧ Cond.instanceMethod q.1 ∈ tables_1
theorem lw_p0 : lw_okq (⟨"Proratehouse$Journey", "stopsBetween", "(II)I"⟩, 2) := ⟨⟨by decide +kernel, by decide +kernel⟩, List.mem_of_getElem? (i := 92) (by decide +kernel), List.mem_of_getElem? (i := 260) (by decide +kernel), List.mem_of_getElem? (i := 261) (by decide +kernel)⟩
theorem lw_p1 : lw_okq (⟨"Proratehouse$Journey", "milesOfLegs", "(LProratehouse$Pairs;II)I"⟩, 2) := ⟨⟨by decide +kernel, by decide +kernel⟩, List.mem_of_getElem? (i := 92) (by decide +kernel), List.mem_of_getElem? (i := 268) (by decide +kernel), List.mem_of_getElem? (i := 269) (by decide +kernel)⟩
theorem lw_p2 : lw_okq (⟨"Proratehouse$Journey", "highestBetween", "(LProratehouse$Tariff;II)I"⟩, 2) := ⟨⟨by decide +kernel, by decide +kernel⟩, List.mem_of_getElem? (i := 92) (by decide +kernel), List.mem_of_getElem? (i := 284) (by decide +kernel), List.mem_of_getElem? (i := 285) (by decide +kernel)⟩
theorem lw_p3 : lw_okq (⟨"Proratehouse$Ways", "goOn", "(III)V"⟩, 5) := ⟨⟨by decide +kernel, by decide +kernel⟩, List.mem_of_getElem? (i := 132) (by decide +kernel), List.mem_of_getElem? (i := 296) (by decide +kernel), List.mem_of_getElem? (i := 297) (by decide +kernel)⟩
theorem lw_p4 : lw_okq (⟨"Proratehouse$Ways", "sumOfSet", "(II)I"⟩, 5) := ⟨⟨by decide +kernel, by decide +kernel⟩, List.mem_of_getElem? (i := 132) (by decide +kernel), List.mem_of_getElem? (i := 311) (by decide +kernel), List.mem_of_getElem? (i := 312) (by decide +kernel)⟩
theorem lw_p5 : lw_okq (⟨"Proratehouse$Clearing", "forgetNets", "()V"⟩, 5) := ⟨⟨by decide +kernel, by decide +kernel⟩, List.mem_of_getElem? (i := 156) (by decide +kernel), List.mem_of_getElem? (i := 327) (by decide +kernel), List.mem_of_getElem? (i := 328) (by decide +kernel)⟩
theorem lw_p6 : lw_okq (⟨"Proratehouse$Bill", "amountBack", "()I"⟩, 6) := ⟨⟨by decide +kernel, by decide +kernel⟩, List.mem_of_getElem? (i := 352) (by decide +kernel), List.mem_of_getElem? (i := 350) (by decide +kernel), List.mem_of_getElem? (i := 351) (by decide +kernel)⟩
theorem lw_p7 : lw_okq (⟨"Proratehouse$Clearing", "addToNets", "(LProratehouse$Bill;I)V"⟩, 5) := ⟨⟨by decide +kernel, by decide +kernel⟩, List.mem_of_getElem? (i := 156) (by decide +kernel), List.mem_of_getElem? (i := 355) (by decide +kernel), List.mem_of_getElem? (i := 356) (by decide +kernel)⟩
theorem lw_p8 : lw_okq (⟨"Proratehouse", "moveNets", "()V"⟩, 11) := ⟨⟨by decide +kernel, by decide +kernel⟩, List.mem_of_getElem? (i := 22) (by decide +kernel), List.mem_of_getElem? (i := 359) (by decide +kernel), List.mem_of_getElem? (i := 360) (by decide +kernel)⟩
theorem lw_p9 : lw_okq (⟨"Proratehouse", "addCash", "(IJ)V"⟩, 11) := ⟨⟨by decide +kernel, by decide +kernel⟩, List.mem_of_getElem? (i := 22) (by decide +kernel), List.mem_of_getElem? (i := 367) (by decide +kernel), List.mem_of_getElem? (i := 368) (by decide +kernel)⟩
theorem lw_p10 : lw_okq (⟨"java/lang/Throwable", "fillInStackTrace", "(I)Ljava/lang/Throwable;"⟩, 6) := ⟨⟨by decide +kernel, by decide +kernel⟩, List.mem_of_getElem? (i := 432) (by decide +kernel), List.mem_of_getElem? (i := 430) (by decide +kernel), List.mem_of_getElem? (i := 431) (by decide +kernel)⟩
theorem lw_p11 : lw_okq (⟨"Proratehouse$Proration", "provisoOf", "(III)I"⟩, 2) := ⟨⟨by decide +kernel, by decide +kernel⟩, List.mem_of_getElem? (i := 76) (by decide +kernel), List.mem_of_getElem? (i := 597) (by decide +kernel), List.mem_of_getElem? (i := 598) (by decide +kernel)⟩
theorem lw_p12 : lw_okq (⟨"Proratehouse", "canBeIssued", "()Z"⟩, 11) := ⟨⟨by decide +kernel, by decide +kernel⟩, List.mem_of_getElem? (i := 22) (by decide +kernel), List.mem_of_getElem? (i := 653) (by decide +kernel), List.mem_of_getElem? (i := 654) (by decide +kernel)⟩
theorem lw_p13 : lw_okq (⟨"Proratehouse", "issued", "(I)LProratehouse$Ticket;"⟩, 11) := ⟨⟨by decide +kernel, by decide +kernel⟩, List.mem_of_getElem? (i := 22) (by decide +kernel), List.mem_of_getElem? (i := 662) (by decide +kernel), List.mem_of_getElem? (i := 663) (by decide +kernel)⟩
theorem lw_p14 : lw_okq (⟨"Proratehouse", "shareOut", "(LProratehouse$Ticket;)V"⟩, 11) := ⟨⟨by decide +kernel, by decide +kernel⟩, List.mem_of_getElem? (i := 22) (by decide +kernel), List.mem_of_getElem? (i := 760) (by decide +kernel), List.mem_of_getElem? (i := 761) (by decide +kernel)⟩
theorem lw_p15 : lw_okq (⟨"Proratehouse$Proration", "weightOf", "(LProratehouse$Coupon;LProratehouse$Pairs;)I"⟩, 2) := ⟨⟨by decide +kernel, by decide +kernel⟩, List.mem_of_getElem? (i := 76) (by decide +kernel), List.mem_of_getElem? (i := 772) (by decide +kernel), List.mem_of_getElem? (i := 773) (by decide +kernel)⟩
def lw_privs_1 : List (MethodName × Nat) := [(⟨"Proratehouse$Journey", "stopsBetween", "(II)I"⟩, 2), (⟨"Proratehouse$Journey", "milesOfLegs", "(LProratehouse$Pairs;II)I"⟩, 2), (⟨"Proratehouse$Journey", "highestBetween", "(LProratehouse$Tariff;II)I"⟩, 2), (⟨"Proratehouse$Ways", "goOn", "(III)V"⟩, 5), (⟨"Proratehouse$Ways", "sumOfSet", "(II)I"⟩, 5), (⟨"Proratehouse$Clearing", "forgetNets", "()V"⟩, 5), (⟨"Proratehouse$Bill", "amountBack", "()I"⟩, 6), (⟨"Proratehouse$Clearing", "addToNets", "(LProratehouse$Bill;I)V"⟩, 5), (⟨"Proratehouse", "moveNets", "()V"⟩, 11), (⟨"Proratehouse", "addCash", "(IJ)V"⟩, 11), (⟨"java/lang/Throwable", "fillInStackTrace", "(I)Ljava/lang/Throwable;"⟩, 6), (⟨"Proratehouse$Proration", "provisoOf", "(III)I"⟩, 2), (⟨"Proratehouse", "canBeIssued", "()Z"⟩, 11), (⟨"Proratehouse", "issued", "(I)LProratehouse$Ticket;"⟩, 11), (⟨"Proratehouse", "shareOut", "(LProratehouse$Ticket;)V"⟩, 11), (⟨"Proratehouse$Proration", "weightOf", "(LProratehouse$Coupon;LProratehouse$Pairs;)I"⟩, 2)]
theorem lw_r1 : ∀ q ∈ lw_privs_1, lw_okq q := List.forall_mem_cons.mpr ⟨lw_p0, List.forall_mem_cons.mpr ⟨lw_p1, List.forall_mem_cons.mpr ⟨lw_p2, List.forall_mem_cons.mpr ⟨lw_p3, List.forall_mem_cons.mpr ⟨lw_p4, List.forall_mem_cons.mpr ⟨lw_p5, List.forall_mem_cons.mpr ⟨lw_p6, List.forall_mem_cons.mpr ⟨lw_p7, List.forall_mem_cons.mpr ⟨lw_p8, List.forall_mem_cons.mpr ⟨lw_p9, List.forall_mem_cons.mpr ⟨lw_p10, List.forall_mem_cons.mpr ⟨lw_p11, List.forall_mem_cons.mpr ⟨lw_p12, List.forall_mem_cons.mpr ⟨lw_p13, List.forall_mem_cons.mpr ⟨lw_p14, List.forall_mem_cons.mpr ⟨lw_p15, fun _ h => absurd h List.not_mem_nil⟩⟩⟩⟩⟩⟩⟩⟩⟩⟩⟩⟩⟩⟩⟩⟩
theorem lw_p16 : lw_okq (⟨"Proratehouse$Proration", "shareByWeights", "(LProratehouse$Ticket;IIII)V"⟩, 2) := ⟨⟨by decide +kernel, by decide +kernel⟩, List.mem_of_getElem? (i := 76) (by decide +kernel), List.mem_of_getElem? (i := 780) (by decide +kernel), List.mem_of_getElem? (i := 781) (by decide +kernel)⟩
theorem lw_p17 : lw_okq (⟨"Proratehouse", "receive", "(LProratehouse$Ticket;I)V"⟩, 11) := ⟨⟨by decide +kernel, by decide +kernel⟩, List.mem_of_getElem? (i := 22) (by decide +kernel), List.mem_of_getElem? (i := 784) (by decide +kernel), List.mem_of_getElem? (i := 785) (by decide +kernel)⟩
theorem lw_p18 : lw_okq (⟨"Proratehouse", "ticketAt", "(I)LProratehouse$Ticket;"⟩, 11) := ⟨⟨by decide +kernel, by decide +kernel⟩, List.mem_of_getElem? (i := 22) (by decide +kernel), List.mem_of_getElem? (i := 795) (by decide +kernel), List.mem_of_getElem? (i := 796) (by decide +kernel)⟩
theorem lw_p19 : lw_okq (⟨"Proratehouse$Ticket", "openAt", "(I)LProratehouse$Coupon;"⟩, 8) := ⟨⟨by decide +kernel, by decide +kernel⟩, List.mem_of_getElem? (i := 665) (by decide +kernel), List.mem_of_getElem? (i := 806) (by decide +kernel), List.mem_of_getElem? (i := 807) (by decide +kernel)⟩
theorem lw_p20 : lw_okq (⟨"ProratehouseModel", "goes", "(ZZZ)Z"⟩, 50) := ⟨⟨by decide +kernel, by decide +kernel⟩, List.mem_of_getElem? (i := 1003) (by decide +kernel), List.mem_of_getElem? (i := 1175) (by decide +kernel), List.mem_of_getElem? (i := 1176) (by decide +kernel)⟩
theorem lw_p21 : lw_okq (⟨"ProratehouseModel", "partOf", "(II)I"⟩, 50) := ⟨⟨by decide +kernel, by decide +kernel⟩, List.mem_of_getElem? (i := 1003) (by decide +kernel), List.mem_of_getElem? (i := 1223) (by decide +kernel), List.mem_of_getElem? (i := 1224) (by decide +kernel)⟩
theorem lw_p22 : lw_okq (⟨"ProratehouseModel", "placeOf", "(I)I"⟩, 50) := ⟨⟨by decide +kernel, by decide +kernel⟩, List.mem_of_getElem? (i := 1003) (by decide +kernel), List.mem_of_getElem? (i := 1227) (by decide +kernel), List.mem_of_getElem? (i := 1228) (by decide +kernel)⟩
theorem lw_p23 : lw_okq (⟨"ProratehouseModel", "lowest", "(III)I"⟩, 50) := ⟨⟨by decide +kernel, by decide +kernel⟩, List.mem_of_getElem? (i := 1003) (by decide +kernel), List.mem_of_getElem? (i := 1231) (by decide +kernel), List.mem_of_getElem? (i := 1232) (by decide +kernel)⟩
theorem lw_p24 : lw_okq (⟨"ProratehouseModel", "stopsIn", "(II)I"⟩, 50) := ⟨⟨by decide +kernel, by decide +kernel⟩, List.mem_of_getElem? (i := 1003) (by decide +kernel), List.mem_of_getElem? (i := 1235) (by decide +kernel), List.mem_of_getElem? (i := 1236) (by decide +kernel)⟩
theorem lw_p25 : lw_okq (⟨"ProratehouseModel", "isStop", "(I)Z"⟩, 50) := ⟨⟨by decide +kernel, by decide +kernel⟩, List.mem_of_getElem? (i := 1003) (by decide +kernel), List.mem_of_getElem? (i := 1239) (by decide +kernel), List.mem_of_getElem? (i := 1240) (by decide +kernel)⟩
theorem lw_p26 : lw_okq (⟨"ProratehouseModel", "milesOf", "(I)I"⟩, 50) := ⟨⟨by decide +kernel, by decide +kernel⟩, List.mem_of_getElem? (i := 1003) (by decide +kernel), List.mem_of_getElem? (i := 1243) (by decide +kernel), List.mem_of_getElem? (i := 1244) (by decide +kernel)⟩
theorem lw_p27 : lw_okq (⟨"ProratehouseModel", "finds", "()I"⟩, 50) := ⟨⟨by decide +kernel, by decide +kernel⟩, List.mem_of_getElem? (i := 1003) (by decide +kernel), List.mem_of_getElem? (i := 1251) (by decide +kernel), List.mem_of_getElem? (i := 1252) (by decide +kernel)⟩
theorem lw_p28 : lw_okq (⟨"ProratehouseModel", "sumOf", "(I)I"⟩, 50) := ⟨⟨by decide +kernel, by decide +kernel⟩, List.mem_of_getElem? (i := 1003) (by decide +kernel), List.mem_of_getElem? (i := 1255) (by decide +kernel), List.mem_of_getElem? (i := 1256) (by decide +kernel)⟩
theorem lw_p29 : lw_okq (⟨"ProratehouseModel", "canIssue", "()Z"⟩, 50) := ⟨⟨by decide +kernel, by decide +kernel⟩, List.mem_of_getElem? (i := 1003) (by decide +kernel), List.mem_of_getElem? (i := 1272) (by decide +kernel), List.mem_of_getElem? (i := 1273) (by decide +kernel)⟩
theorem lw_p30 : lw_okq (⟨"ProratehouseModel", "makes", "(II)V"⟩, 50) := ⟨⟨by decide +kernel, by decide +kernel⟩, List.mem_of_getElem? (i := 1003) (by decide +kernel), List.mem_of_getElem? (i := 1276) (by decide +kernel), List.mem_of_getElem? (i := 1277) (by decide +kernel)⟩
theorem lw_p31 : lw_okq (⟨"ProratehouseModel", "shares", "(III)I"⟩, 50) := ⟨⟨by decide +kernel, by decide +kernel⟩, List.mem_of_getElem? (i := 1003) (by decide +kernel), List.mem_of_getElem? (i := 1280) (by decide +kernel), List.mem_of_getElem? (i := 1281) (by decide +kernel)⟩
def lw_privs_2 : List (MethodName × Nat) := [(⟨"Proratehouse$Proration", "shareByWeights", "(LProratehouse$Ticket;IIII)V"⟩, 2), (⟨"Proratehouse", "receive", "(LProratehouse$Ticket;I)V"⟩, 11), (⟨"Proratehouse", "ticketAt", "(I)LProratehouse$Ticket;"⟩, 11), (⟨"Proratehouse$Ticket", "openAt", "(I)LProratehouse$Coupon;"⟩, 8), (⟨"ProratehouseModel", "goes", "(ZZZ)Z"⟩, 50), (⟨"ProratehouseModel", "partOf", "(II)I"⟩, 50), (⟨"ProratehouseModel", "placeOf", "(I)I"⟩, 50), (⟨"ProratehouseModel", "lowest", "(III)I"⟩, 50), (⟨"ProratehouseModel", "stopsIn", "(II)I"⟩, 50), (⟨"ProratehouseModel", "isStop", "(I)Z"⟩, 50), (⟨"ProratehouseModel", "milesOf", "(I)I"⟩, 50), (⟨"ProratehouseModel", "finds", "()I"⟩, 50), (⟨"ProratehouseModel", "sumOf", "(I)I"⟩, 50), (⟨"ProratehouseModel", "canIssue", "()Z"⟩, 50), (⟨"ProratehouseModel", "makes", "(II)V"⟩, 50), (⟨"ProratehouseModel", "shares", "(III)I"⟩, 50)]
theorem lw_r2 : ∀ q ∈ lw_privs_2, lw_okq q := List.forall_mem_cons.mpr ⟨lw_p16, List.forall_mem_cons.mpr ⟨lw_p17, List.forall_mem_cons.mpr ⟨lw_p18, List.forall_mem_cons.mpr ⟨lw_p19, List.forall_mem_cons.mpr ⟨lw_p20, List.forall_mem_cons.mpr ⟨lw_p21, List.forall_mem_cons.mpr ⟨lw_p22, List.forall_mem_cons.mpr ⟨lw_p23, List.forall_mem_cons.mpr ⟨lw_p24, List.forall_mem_cons.mpr ⟨lw_p25, List.forall_mem_cons.mpr ⟨lw_p26, List.forall_mem_cons.mpr ⟨lw_p27, List.forall_mem_cons.mpr ⟨lw_p28, List.forall_mem_cons.mpr ⟨lw_p29, List.forall_mem_cons.mpr ⟨lw_p30, List.forall_mem_cons.mpr ⟨lw_p31, fun _ h => absurd h List.not_mem_nil⟩⟩⟩⟩⟩⟩⟩⟩⟩⟩⟩⟩⟩⟩⟩⟩
theorem lw_p32 : lw_okq (⟨"ProratehouseModel", "provisoOf", "(I)I"⟩, 50) := ⟨⟨by decide +kernel, by decide +kernel⟩, List.mem_of_getElem? (i := 1003) (by decide +kernel), List.mem_of_getElem? (i := 1284) (by decide +kernel), List.mem_of_getElem? (i := 1285) (by decide +kernel)⟩
theorem lw_p33 : lw_okq (⟨"ProratehouseModel", "weightOf", "(I)I"⟩, 50) := ⟨⟨by decide +kernel, by decide +kernel⟩, List.mem_of_getElem? (i := 1003) (by decide +kernel), List.mem_of_getElem? (i := 1288) (by decide +kernel), List.mem_of_getElem? (i := 1289) (by decide +kernel)⟩
theorem lw_p34 : lw_okq (⟨"ProratehouseModel", "taxes", "(I)I"⟩, 50) := ⟨⟨by decide +kernel, by decide +kernel⟩, List.mem_of_getElem? (i := 1003) (by decide +kernel), List.mem_of_getElem? (i := 1292) (by decide +kernel), List.mem_of_getElem? (i := 1293) (by decide +kernel)⟩
theorem lw_p35 : lw_okq (⟨"ProratehouseModel", "buys", "(II)V"⟩, 50) := ⟨⟨by decide +kernel, by decide +kernel⟩, List.mem_of_getElem? (i := 1003) (by decide +kernel), List.mem_of_getElem? (i := 1296) (by decide +kernel), List.mem_of_getElem? (i := 1297) (by decide +kernel)⟩
theorem lw_p36 : lw_okq (⟨"ProratehouseModel", "isCoupon", "(II)Z"⟩, 50) := ⟨⟨by decide +kernel, by decide +kernel⟩, List.mem_of_getElem? (i := 1003) (by decide +kernel), List.mem_of_getElem? (i := 1304) (by decide +kernel), List.mem_of_getElem? (i := 1305) (by decide +kernel)⟩
theorem lw_p37 : lw_okq (⟨"ProratehouseModel", "isTicket", "(I)Z"⟩, 50) := ⟨⟨by decide +kernel, by decide +kernel⟩, List.mem_of_getElem? (i := 1003) (by decide +kernel), List.mem_of_getElem? (i := 1308) (by decide +kernel), List.mem_of_getElem? (i := 1309) (by decide +kernel)⟩
theorem lw_p38 : lw_okq (⟨"ProratehouseModel", "hasOpen", "(I)Z"⟩, 50) := ⟨⟨by decide +kernel, by decide +kernel⟩, List.mem_of_getElem? (i := 1003) (by decide +kernel), List.mem_of_getElem? (i := 1320) (by decide +kernel), List.mem_of_getElem? (i := 1321) (by decide +kernel)⟩
theorem lw_p39 : lw_okq (⟨"ProratehouseModel", "openOnes", "(IZ)I"⟩, 50) := ⟨⟨by decide +kernel, by decide +kernel⟩, List.mem_of_getElem? (i := 1003) (by decide +kernel), List.mem_of_getElem? (i := 1324) (by decide +kernel), List.mem_of_getElem? (i := 1325) (by decide +kernel)⟩
theorem lw_p40 : lw_okq (⟨"ProratehouseModel", "turns", "(II)V"⟩, 50) := ⟨⟨by decide +kernel, by decide +kernel⟩, List.mem_of_getElem? (i := 1003) (by decide +kernel), List.mem_of_getElem? (i := 1330) (by decide +kernel), List.mem_of_getElem? (i := 1331) (by decide +kernel)⟩
theorem lw_p41 : lw_okq (⟨"ProratehouseModel", "settles", "(I)V"⟩, 50) := ⟨⟨by decide +kernel, by decide +kernel⟩, List.mem_of_getElem? (i := 1003) (by decide +kernel), List.mem_of_getElem? (i := 1346) (by decide +kernel), List.mem_of_getElem? (i := 1347) (by decide +kernel)⟩
theorem lw_p42 : lw_okq (⟨"ProratehouseModel", "moves", "(III)V"⟩, 50) := ⟨⟨by decide +kernel, by decide +kernel⟩, List.mem_of_getElem? (i := 1003) (by decide +kernel), List.mem_of_getElem? (i := 1350) (by decide +kernel), List.mem_of_getElem? (i := 1351) (by decide +kernel)⟩
theorem lw_p43 : lw_okq (⟨"ProratehouseModel", "backOf", "(I)I"⟩, 50) := ⟨⟨by decide +kernel, by decide +kernel⟩, List.mem_of_getElem? (i := 1003) (by decide +kernel), List.mem_of_getElem? (i := 1354) (by decide +kernel), List.mem_of_getElem? (i := 1355) (by decide +kernel)⟩
theorem lw_p44 : lw_okq (⟨"ProratehouseModel", "isBill", "(I)Z"⟩, 50) := ⟨⟨by decide +kernel, by decide +kernel⟩, List.mem_of_getElem? (i := 1003) (by decide +kernel), List.mem_of_getElem? (i := 1362) (by decide +kernel), List.mem_of_getElem? (i := 1363) (by decide +kernel)⟩
theorem lw_p45 : lw_okq (⟨"ProratehouseModel", "undoes", "(I)V"⟩, 50) := ⟨⟨by decide +kernel, by decide +kernel⟩, List.mem_of_getElem? (i := 1003) (by decide +kernel), List.mem_of_getElem? (i := 1374) (by decide +kernel), List.mem_of_getElem? (i := 1375) (by decide +kernel)⟩
theorem lw_p46 : lw_okq (⟨"ProratehouseModel", "defaults", "()I"⟩, 50) := ⟨⟨by decide +kernel, by decide +kernel⟩, List.mem_of_getElem? (i := 1003) (by decide +kernel), List.mem_of_getElem? (i := 1411) (by decide +kernel), List.mem_of_getElem? (i := 1412) (by decide +kernel)⟩
def lw_privs_3 : List (MethodName × Nat) := [(⟨"ProratehouseModel", "provisoOf", "(I)I"⟩, 50), (⟨"ProratehouseModel", "weightOf", "(I)I"⟩, 50), (⟨"ProratehouseModel", "taxes", "(I)I"⟩, 50), (⟨"ProratehouseModel", "buys", "(II)V"⟩, 50), (⟨"ProratehouseModel", "isCoupon", "(II)Z"⟩, 50), (⟨"ProratehouseModel", "isTicket", "(I)Z"⟩, 50), (⟨"ProratehouseModel", "hasOpen", "(I)Z"⟩, 50), (⟨"ProratehouseModel", "openOnes", "(IZ)I"⟩, 50), (⟨"ProratehouseModel", "turns", "(II)V"⟩, 50), (⟨"ProratehouseModel", "settles", "(I)V"⟩, 50), (⟨"ProratehouseModel", "moves", "(III)V"⟩, 50), (⟨"ProratehouseModel", "backOf", "(I)I"⟩, 50), (⟨"ProratehouseModel", "isBill", "(I)Z"⟩, 50), (⟨"ProratehouseModel", "undoes", "(I)V"⟩, 50), (⟨"ProratehouseModel", "defaults", "()I"⟩, 50)]
theorem lw_r3 : ∀ q ∈ lw_privs_3, lw_okq q := List.forall_mem_cons.mpr ⟨lw_p32, List.forall_mem_cons.mpr ⟨lw_p33, List.forall_mem_cons.mpr ⟨lw_p34, List.forall_mem_cons.mpr ⟨lw_p35, List.forall_mem_cons.mpr ⟨lw_p36, List.forall_mem_cons.mpr ⟨lw_p37, List.forall_mem_cons.mpr ⟨lw_p38, List.forall_mem_cons.mpr ⟨lw_p39, List.forall_mem_cons.mpr ⟨lw_p40, List.forall_mem_cons.mpr ⟨lw_p41, List.forall_mem_cons.mpr ⟨lw_p42, List.forall_mem_cons.mpr ⟨lw_p43, List.forall_mem_cons.mpr ⟨lw_p44, List.forall_mem_cons.mpr ⟨lw_p45, List.forall_mem_cons.mpr ⟨lw_p46, fun _ h => absurd h List.not_mem_nil⟩⟩⟩⟩⟩⟩⟩⟩⟩⟩⟩⟩⟩⟩⟩
def lw_privs : List (MethodName × Nat) := lw_privs_1 ++ (lw_privs_2 ++ (lw_privs_3))
def lw_tbl : List Cond := k2_sels lw_privs ++ tables_1
theorem lw_privs_ok : ∀ q ∈ lw_privs, lw_okq q := by
  show ∀ q ∈ lw_privs_1 ++ (lw_privs_2 ++ (lw_privs_3)), lw_okq q
  exact List.forall_mem_append.mpr ⟨lw_r1, List.forall_mem_append.mpr ⟨lw_r2, lw_r3⟩⟩
-- ===== end of PART A; then your names; then what follows =====
end
section
/-! ===== BEGIN words of one list among another's, by their places ===== -/
theorem goodIn_r {big : List Cond} (ws : List Cond) (ps : List Nat) (hp : ws = ps.filterMap (fun i => big[i]?)) (h : ws.all goodWord = true) : GoodIn big ws := by
  intro w hw
  have h1 := List.all_eq_true.mp h w hw
  rw [hp] at hw
  obtain ⟨i, -, hi⟩ := List.mem_filterMap.mp hw
  have hm : w ∈ big := by first | exact List.mem_of_getElem? hi | exact List.getElem?_mem hi
  exact ⟨hm, good_of_word h1⟩
theorem goodIn_app {big a b : List Cond} (ha : GoodIn big a) (hb : GoodIn big b) : GoodIn big (a ++ b) := fun w h => (List.mem_append.mp h).elim (ha w) (hb w)
theorem goodIn_ca {big a b : List Cond} {c : Cond} (ha : GoodIn big (c :: a)) (hb : GoodIn big b) : GoodIn big (c :: (a ++ b)) := fun w h => (List.mem_cons.mp h).elim (fun e => ha w (List.mem_cons.mpr (Or.inl e))) (fun h => (List.mem_append.mp h).elim (fun h => ha w (List.mem_cons.mpr (Or.inr h))) (hb w))
theorem goodIn_sub {big ws : List Cond} (hm : ∀ w ∈ ws, w ∈ big) (h : ws.all goodWord = true) : GoodIn big ws := fun w hw => ⟨hm w hw, good_of_word (List.all_eq_true.mp h w hw)⟩
/-! ===== END ===== -/

/-! ===== BEGIN exceptions that leave a method, and their catching by the caller (launches without stack traces) ===== -/
section VXA
/-! The laws vx_back, vx_callV, vx_callS, vx_callSW, vx_throw0, vx_throwS follow proofs of the library, with one case more: JvmDerived/Free/Laws.lean (Back.of_free), Shelf42/LK1.lean (callV, callS), Shelf/KitTraced.lean (throwNew0V, throwNewS). -/
/-- where a method has thrown q: the class by its name, the cell, what was written, the world -/
def vx_T (XC : String → State → State → Prop) (st : State) (q : Addr) (t : State) (mc ms : Nat) (free : Addr → Prop) : Prop :=
  ∃ (E : String) (ce : Cell) (L : List Loc), XC E st t ∧ t.heap[q]? = some ce ∧ ce.vm = .none ∧ st.vm.findClass E = some ce.cls ∧ st.WarmedH t.vm ∧ st.sameButNew ({ t with vm := st.vm } : State) L mc ms ∧ ∀ z ∈ L, free z.base
def vx_Q (Qc : Array Value → State → Outcome → State → Prop) (XC : String → State → State → Prop) (mc ms : Nat) (free : Addr → Prop) : Array Value → State → Outcome → State → Prop := fun a st o t =>
  (Qc a st o t ∧ ∃ L, FrameEnd st o t L mc ms ∧ ∀ q ∈ L, free q.base) ∨ ∃ q, o = .threw q ∧ vx_T XC st q t mc ms free
/-- a callee that returns or throws -/
def vx_Met (l : Launch) (y : MethodName) (ws : List Cond) (rm : Room) (Pc : Array Value → State → Prop) (Qc : Array Value → State → Outcome → State → Prop) (XC : String → State → State → Prop) (mc ms : Nat) (free : Addr → Prop) : Prop :=
  MetFree l y (headSpec ws rm) Pc (fun _ _ _ _ _ => True) (vx_Q Qc XC mc ms free)
def vx_Post (XC : String → State → State → Prop) (mc ms : Nat) (free : Addr → Prop) : Pt → Array Value → Addr → Pt → Prop := fun A a q B =>
  ∃ (g : JFrame) (mk : MethodId) (t : State) (L : List Loc) (E : String) (ce : Cell), B.U.heap = t.heap ∧ B.U.vm = t.vm ∧ XC E (A.U.calling g mk a) t ∧ t.heap[q]? = some ce ∧ ce.vm = .none ∧ A.U.vm.findClass E = some ce.cls ∧ B.locs = A.locs ++ L ∧ (∀ z ∈ L, free z.base) ∧ B.cells = A.cells + mc ∧ B.slots = A.slots + ms
def vx_Back (l : Launch) (R : Room) (p : Program) (e : Env) (below : List Frame) (s : State) (sargs : Array Value) (y : MethodName) (len W9 : Nat)
    (Pre : Pt → Array Value → Prop) (Post : Pt → Array Value → Option Value → Pt → Prop) (PostX : Pt → Array Value → Addr → Pt → Prop) : Prop :=
  ∀ (m : MethodId) (meth : Method) (c : Code) (A : Pt) (g : JFrame) (ig : Instr) (mk : MethodId) (a : Array Value),
    Stand p l e R s m sargs below meth c A.U A.locs A.cells A.slots → g.method = m → g.locals.size = c.maxLocals → decode c.code g.pc = .ok (ig, len) →
    2 * g.monitorRoom + (g.stack.map fun v => v.category).sum ≤ W9 → A.U.methodNamed? y = some mk → Pre A a →
    (∃ (v : Option Value) (B : Pt), Stand p l e R s m sargs below meth c B.U B.locs B.cells B.slots ∧ Post A a v B ∧
      Steps p.tables e below (doInvoke e (A.U.setTop g) [] mk a).1 (B.U.setTop { g with pc := g.pc + len, stack := v.toList ++ g.stack })) ∨
    (∃ (q : Addr) (B : Pt), Stand p l e R s m sargs below meth c B.U B.locs B.cells B.slots ∧ PostX A a q B ∧
      Steps p.tables e below (doInvoke e (A.U.setTop g) [] mk a).1 ((B.U.setTop g).pushFrame (.throwing q)))
section Payer
variable {l : Launch} {R : Room} {p : Program} {e : Env} {below : List Frame} {s : State} {sargs : Array Value} {y : MethodName} {len W9 : Nat}
theorem vx_back {ws : List Cond} {rm : Room} {Pc : Array Value → State → Prop} {Qc : Array Value → State → Outcome → State → Prop} {XC : String → State → State → Prop} {mc ms : Nat} {free : Addr → Prop} {bytes : ByteArray} {maxL : Nat} {ret : Option FieldType}
    (hM : vx_Met l y ws rm Pc Qc XC mc ms free) (hblind : FrameBlind Pc) (hrc : rm.cells = mc) (hrs : rm.slots = ms)
    (hframes : rm.frames + 1 ≤ R.frames) (hlocals : W9 + (maxL + 11) + rm.locals ≤ R.locals)
    (hws : ∀ w ∈ ws, ∀ a' U, s.WarmedH U.vm → w.before a' U = true) (hcode : Cond.code y bytes maxL ret ∈ ws) (hinit : ∀ a' U, s.WarmedH U.vm → (Cond.initialized y.cls).before a' U = true) :
    vx_Back l R p e below s sargs y len W9 (PreOf R mc ms Pc) (PostOf Qc mc ms free) (vx_Post XC mc ms free) := by
  intro m meth c A g ig mk a X hg hsize hdg hW hn hp
  have h1 : (headSpec ws rm).pre.before a A.U = true := atoms_intro fun w hw => hws w hw _ _ X.warmed
  have h2 : (Cond.code y bytes maxL ret).before a A.U = true := hws _ hcode _ _ X.warmed
  have h3 : (Cond.initialized y.cls).before a A.U = true := hinit _ _ X.warmed
  have h4 : A.cells + (headSpec ws rm).room.cells ≤ R.cells := by rw [show (headSpec ws rm).room.cells = mc from hrc]; exact hp.1
  have h5 : A.slots + (headSpec ws rm).room.slots ≤ R.slots := by rw [show (headSpec ws rm).room.slots = ms from hrs]; exact hp.2.1
  have hPc : Pc a (A.U.calling g mk a) := hblind _ _ _ _ hp.2.2
  obtain ⟨U, Ls, c0, s0⟩ := A
  dsimp only [Pt.U, Pt.locs, Pt.cells, Pt.slots] at h1 h2 h3 h4 h5 X hn hPc ⊢
  obtain ⟨methY, cY, hmY, hcY, -, hlY, -, -, -, -⟩ := Cond.code_spec hn h2
  obtain ⟨kY, hkY, -⟩ := className_of_methodNamed hn
  have hinitY : kY.init = .initialized := Cond.initialized_spec (findClass_of_methodNamed hn) hkY h3
  have h : At U g.method c below := by rw [hg]; exact X.here
  have hlocals9 : W9 + (maxL + 11) + (headSpec ws rm).room.locals ≤ R.locals := hlocals
  have happ : (headSpec ws rm).appliesLoose y e.platform (U.calling g mk a) = true :=
    Spec.appliesLoose_calling (g := g) h hdg hn hkY hinitY
      (X.room_calling (g := g) (R' := (headSpec ws rm).room) hsize hmY hcY hframes (by rw [hlY]; omega) h4 h5) h1
  obtain ⟨mid, hmid⟩ := h.above
  have hfr : (U.setTop g).frames = (.java g :: mid) ++ below := by rw [State.frames_setTop' g h.top, hmid]; rfl
  obtain ⟨o, s₂, hsteps, -, hend, hq⟩ := Steps.callFree hM p X.admits X.cas X.clock (acts := []) hfr happ hPc trivial
  have hq' : vx_Q Qc XC mc ms free a (U.calling g mk a) o s₂ := hq
  rw [State.frames_setTop' g h.top] at hend
  obtain ⟨g₀, hg0⟩ := Option.isSome_iff_exists.mp h.top
  obtain ⟨r, hr⟩ := State.topJava?_eq_some.mp hg0
  have hr' : (({ U with heap := s₂.heap, slotsUsed := s₂.slotsUsed } : State).setVm s₂.vm).frames = .java g₀ :: r := hr
  rcases hq' with ⟨hqc, L, hfe, hL⟩ | ⟨q, rfl, E, ce, L, hx, hce, hcv, hcl, hW₂, hsm, hL⟩
  · obtain ⟨⟨v, rfl⟩, hW₂, e2, q2, q3, q4, q5, q6⟩ := id hfe
    have e3 : s₂ = ({ (U.calling g mk a).setFrames s₂.frames with heap := s₂.heap, slotsUsed := s₂.slotsUsed } : State).setVm s₂.vm := by
      have : s₂ = ({ s₂ with vm := (U.calling g mk a).vm } : State).setVm s₂.vm := rfl
      rw [e2] at this
      exact this
    obtain ⟨c₂, i₂, len₂, hc₂, hd₂, hf₂⟩ := hend
    have hW' : U.WarmedH s₂.vm := hW₂
    have hcc : c₂ = c := by
      have h1 : s₂.code? g.method = U.code? g.method := by
        rw [State.code?_eq, State.code?_eq, hW'.alike.method?]
      exact Option.some.inj (hc₂.symm.trans (h1.trans h.code))
    subst hcc
    have hlen : len₂ = len := by rw [hdg] at hd₂; cases hd₂; rfl
    subst hlen
    have hs₂ : s₂ = (({ U with heap := s₂.heap, slotsUsed := s₂.slotsUsed } : State).setVm s₂.vm).setTop { g with pc := g.pc + len₂, stack := v.toList ++ g.stack } := by
      refine e3.trans ?_
      rw [hf₂, State.calling_eq h.top, State.setFrames_setFrames, State.setTop_of_frames _ hr', hr]
      rfl
    have hsame : U.sameButNew ({ U with heap := s₂.heap, slotsUsed := s₂.slotsUsed } : State) L mc ms := by
      refine ⟨?_, q2, q3, q4, q5, q6⟩
      obtain ⟨t, ht, -⟩ := State.frames_cons hr
      show ({ U with heap := s₂.heap, slotsUsed := s₂.slotsUsed } : State) = { U.setFrames U.frames with heap := s₂.heap, slotsUsed := s₂.slotsUsed }
      rw [State.setFrames_self ht]
    subst hg
    refine Or.inl ⟨v, ⟨(({ U with heap := s₂.heap, slotsUsed := s₂.slotsUsed } : State).setVm s₂.vm), Ls ++ L, c0 + mc, s0 + ms⟩,
      ⟨X.admits, X.cas, X.clock, X.frames, X.room, X.hears, X.method, X.code, (X.here.setHeapUsed s₂.heap s₂.slotsUsed).setVm hW'.alike, X.tail, State.WarmedH.trans X.warmed hW', X.limits, X.bytes, X.same.trans (hsame.setVm s.vm)⟩,
      ⟨g, mk, s₂, L, rfl, rfl, hqc, rfl, hL, rfl, rfl⟩, ?_⟩
    show Steps p.tables e below _ ((({ U with heap := s₂.heap, slotsUsed := s₂.slotsUsed } : State).setVm s₂.vm).setTop { g with pc := g.pc + len₂, stack := v.toList ++ g.stack })
    rw [← hs₂]
    exact hsteps
  · obtain ⟨e2, q2, q3, q4, q5, q6⟩ := id hsm
    have e3 : s₂ = ({ (U.calling g mk a).setFrames s₂.frames with heap := s₂.heap, slotsUsed := s₂.slotsUsed } : State).setVm s₂.vm := by
      have : s₂ = ({ s₂ with vm := (U.calling g mk a).vm } : State).setVm s₂.vm := rfl
      rw [e2] at this
      exact this
    have hf₂ : s₂.frames = .throwing q :: .java g :: U.frames.tail := hend
    have hW' : U.WarmedH s₂.vm := hW₂
    have hs₂ : s₂ = ((({ U with heap := s₂.heap, slotsUsed := s₂.slotsUsed } : State).setVm s₂.vm).setTop g).pushFrame (.throwing q) := by
      refine e3.trans ?_
      rw [hf₂, State.calling_eq h.top, State.setFrames_setFrames, State.pushFrame, State.frames_setTop _ hr', State.setTop_of_frames _ hr', State.setFrames_setFrames, hr]
      rfl
    have hsame : U.sameButNew ({ U with heap := s₂.heap, slotsUsed := s₂.slotsUsed } : State) L mc ms := by
      refine ⟨?_, q2, q3, q4, q5, q6⟩
      obtain ⟨t, ht, -⟩ := State.frames_cons hr
      show ({ U with heap := s₂.heap, slotsUsed := s₂.slotsUsed } : State) = { U.setFrames U.frames with heap := s₂.heap, slotsUsed := s₂.slotsUsed }
      rw [State.setFrames_self ht]
    subst hg
    refine Or.inr ⟨q, ⟨(({ U with heap := s₂.heap, slotsUsed := s₂.slotsUsed } : State).setVm s₂.vm), Ls ++ L, c0 + mc, s0 + ms⟩,
      ⟨X.admits, X.cas, X.clock, X.frames, X.room, X.hears, X.method, X.code, (X.here.setHeapUsed s₂.heap s₂.slotsUsed).setVm hW'.alike, X.tail, State.WarmedH.trans X.warmed hW', X.limits, X.bytes, X.same.trans (hsame.setVm s.vm)⟩,
      ⟨g, mk, s₂, L, E, ce, rfl, rfl, hx, hce, hcv, hcl, rfl, hL, rfl, rfl⟩, ?_⟩
    show Steps p.tables e below _ (((({ U with heap := s₂.heap, slotsUsed := s₂.slotsUsed } : State).setVm s₂.vm).setTop g).pushFrame (.throwing q))
    rw [← hs₂]
    exact hsteps
end Payer
section Calls
variable {p : Program} {l : Launch} {e : Env} {R : Room} {s : State} {m : MethodId} {args : Array Value} {below : List Frame} {meth : Method} {c : Code} {T : State} {locs : List Loc} {cells slots : Nat}
theorem vx_callV (X : Stand p l e R s m args below meth c T locs cells slots) (hexec : p.tables.exec = Jvm.exec) {own C : String} {index : Nat} {y : MethodName} {bytes : ByteArray} {maxL : Nat} {ret : Option FieldType}
    (hown : s.vm.findClass own = some m.cls) (hlink : (Cond.methodLink own index y).before args s = true) (hinst : (Cond.instanceMethod y).before args s = true) (hsel : (Cond.selects C y y).before args s = true)
    (hcode : (Cond.code y bytes maxL ret).before args s = true) (hy : y.cls ≠ "java/lang/invoke/MethodHandle" ∧ y.cls ≠ "java/lang/invoke/VarHandle")
    {W9 : Nat} {Pre : Pt → Array Value → Prop} {Post : Pt → Array Value → Option Value → Pt → Prop} {PostX : Pt → Array Value → Addr → Pt → Prop} (hK : vx_Back l R p e below s args y 3 W9 Pre Post PostX)
    {b : Addr} {cellB : Cell} (hcell : T.heap[b]? = some cellB) (hobj : cellB.vm.isStatics = false) (hcls : s.vm.findClass C = some cellB.cls)
    {g : JFrame} (hg : g.method = m) (hsize : g.locals.size = c.maxLocals) {argsL rest : List Value} (hlen : ∀ sig, parseMethodDescriptor y.desc = some sig → argsL.length = sig.parameters.length)
    (hstack : g.stack = argsL.reverse ++ .ref b :: rest) (hW : 2 * g.monitorRoom + (rest.map fun v => v.category).sum ≤ W9) (hdg : decode c.code g.pc = .ok (.invokevirtual index, 3))
    (hpre : ∀ vm₁, s.WarmedH vm₁ → Pre ⟨T.setVm vm₁, locs, cells, slots⟩ (Value.ref b :: argsL).toArray) :
    (∃ (v : Option Value) (vm₁ : Vm) (B : Pt), s.WarmedH vm₁ ∧ Stand p l e R s m args below meth c B.U B.locs B.cells B.slots ∧ Post ⟨T.setVm vm₁, locs, cells, slots⟩ (Value.ref b :: argsL).toArray v B ∧
      ∀ target, Steps p.tables e below (B.U.setTop { g with pc := g.pc + 3, stack := v.toList ++ rest }) target → Steps p.tables e below (T.setTop g) target) ∨
    (∃ (q : Addr) (vm₁ : Vm) (B : Pt), s.WarmedH vm₁ ∧ Stand p l e R s m args below meth c B.U B.locs B.cells B.slots ∧ PostX ⟨T.setVm vm₁, locs, cells, slots⟩ (Value.ref b :: argsL).toArray q B ∧
      Steps p.tables e below (T.setTop g) ((B.U.setTop { g with stack := rest }).pushFrame (.throwing q))) := by
  obtain ⟨mk, methM, hnamed, hmethM, hstM, habM⟩ := Cond.instanceMethod_spec hinst
  obtain ⟨methM', cM, hmethM', -, -, -, -, -, -, hsigM⟩ := Cond.code_spec hnamed hcode
  cases hmethM.symm.trans hmethM'
  obtain ⟨c2, r2, m2, q1, q2, q3, q4, kP, hkP, hkPi⟩ := Cond.selects_spec hsel
  cases hcls.symm.trans q1
  cases (State.methodFound?_of_named hnamed hy).symm.trans q2
  cases hnamed.symm.trans q3
  have hselP : selectMethod e.platform s.vm cellB.cls mk = .method mk := by rw [Launch.admits_selectMethod X.admits]; exact q4
  obtain ⟨vm₁, X₁, hstep₁⟩ := X.invokevirtual hexec hown hlink hnamed hmethM hstM hkP hkPi hy (a := b) (cell := cellB) hcell
    (fun z h => by rw [h] at hobj; cases hobj) hselP hmethM habM hkP hkPi (g := g) hg (argsL := argsL) (rest := rest) (hlen _ hsigM) hstack hdg
  rcases hK m meth c ⟨T.setVm vm₁, locs, cells, slots⟩ { g with stack := rest } (.invokevirtual index) mk (Value.ref b :: argsL).toArray X₁ hg hsize hdg hW (X₁.named hnamed) (hpre vm₁ X₁.warmed) with ⟨v, B, X', hpost, hsteps⟩ | ⟨q, B, X', hpost, hsteps⟩
  · exact Or.inl ⟨v, vm₁, B, X₁.warmed, X', hpost, fun target h => hstep₁ _ fun acts => by rw [doInvoke_state]; exact hsteps.trans h⟩
  · exact Or.inr ⟨q, vm₁, B, X₁.warmed, X', hpost, hstep₁ _ fun acts => by rw [doInvoke_state]; exact hsteps⟩
theorem vx_callS (X : Stand p l e R s m args below meth c T locs cells slots) (hexec : p.tables.exec = Jvm.exec) {own : String} {index : Nat} {y : MethodName} {bytes : ByteArray} {maxL : Nat} {ret : Option FieldType}
    (hown : s.vm.findClass own = some m.cls) (hlink : (Cond.methodLink own index y).before args s = true) (hstat : (Cond.static y).before args s = true) (hinit : (Cond.initialized y.cls).before args s = true)
    (hcode : (Cond.code y bytes maxL ret).before args s = true) (hy : y.cls ≠ "java/lang/invoke/MethodHandle" ∧ y.cls ≠ "java/lang/invoke/VarHandle")
    {W9 : Nat} {Pre : Pt → Array Value → Prop} {Post : Pt → Array Value → Option Value → Pt → Prop} {PostX : Pt → Array Value → Addr → Pt → Prop} (hK : vx_Back l R p e below s args y 3 W9 Pre Post PostX)
    {g : JFrame} (hg : g.method = m) (hsize : g.locals.size = c.maxLocals) {argsL rest : List Value} (hlen : ∀ sig, parseMethodDescriptor y.desc = some sig → argsL.length = sig.parameters.length)
    (hstack : g.stack = argsL.reverse ++ rest) (hW : 2 * g.monitorRoom + (rest.map fun v => v.category).sum ≤ W9) (hdg : decode c.code g.pc = .ok (.invokestatic index, 3))
    (hpre : ∀ vm₁, s.WarmedH vm₁ → Pre ⟨T.setVm vm₁, locs, cells, slots⟩ argsL.toArray) :
    (∃ (v : Option Value) (vm₁ : Vm) (B : Pt), s.WarmedH vm₁ ∧ Stand p l e R s m args below meth c B.U B.locs B.cells B.slots ∧ Post ⟨T.setVm vm₁, locs, cells, slots⟩ argsL.toArray v B ∧
      ∀ target, Steps p.tables e below (B.U.setTop { g with pc := g.pc + 3, stack := v.toList ++ rest }) target → Steps p.tables e below (T.setTop g) target) ∨
    (∃ (q : Addr) (vm₁ : Vm) (B : Pt), s.WarmedH vm₁ ∧ Stand p l e R s m args below meth c B.U B.locs B.cells B.slots ∧ PostX ⟨T.setVm vm₁, locs, cells, slots⟩ argsL.toArray q B ∧
      Steps p.tables e below (T.setTop g) ((B.U.setTop { g with stack := rest }).pushFrame (.throwing q))) := by
  obtain ⟨mk, hnamed⟩ := Cond.code_named hcode
  obtain ⟨methM, cM, hmethM, -, -, -, -, -, -, hsigM⟩ := Cond.code_spec hnamed hcode
  have hstatic : methM.isStatic = true := Cond.static_spec hnamed hmethM hstat
  obtain ⟨kP, hkP, -⟩ := className_of_methodNamed hnamed
  have hinitP : kP.init = .initialized := Cond.initialized_spec (findClass_of_methodNamed hnamed) hkP hinit
  obtain ⟨vm₁, X₁, hstep₁⟩ := X.invokestatic hexec hown hlink hnamed hmethM hstatic hkP hinitP hy (g := g) hg (argsL := argsL) (rest := rest) (hlen _ hsigM) hstack hdg
  rcases hK m meth c ⟨T.setVm vm₁, locs, cells, slots⟩ { g with stack := rest } (.invokestatic index) mk argsL.toArray X₁ hg hsize hdg hW (X₁.named hnamed) (hpre vm₁ X₁.warmed) with ⟨v, B, X', hpost, hsteps⟩ | ⟨q, B, X', hpost, hsteps⟩
  · exact Or.inl ⟨v, vm₁, B, X₁.warmed, X', hpost, fun target h => hstep₁ _ fun acts => by rw [doInvoke_state]; exact hsteps.trans h⟩
  · exact Or.inr ⟨q, vm₁, B, X₁.warmed, X', hpost, hstep₁ _ fun acts => by rw [doInvoke_state]; exact hsteps⟩
end Calls
theorem vx_cls {s : State} {T : State} {vm₁ : Vm} {E : String} {k : ClassId} (hW : s.WarmedH vm₁) (h : (T.setVm vm₁).vm.findClass E = some k) : s.vm.findClass E = some k := by
  have h1 : vm₁.findClass E = some k := h
  rw [hW.alike.findClass] at h1
  exact h1
/-- the method's frame g, with q thrown over it -/
def vx_W (p : Program) (l : Launch) (e : Env) (R : Room) (s : State) (m : MethodId) (args : Array Value) (below : List Frame) (meth : Method) (c : Code) (H : Heap) (locs : List Loc) (cells slots : Nat) (Q : State → Prop) (g : JFrame) (q : Addr) : Prop :=
  ∀ T : State, T.heap = H → Stand p l e R s m args below meth c T locs cells slots → ∃ t, Steps p.tables e below ((T.setTop g).pushFrame (.throwing q)) t ∧ Q t
def vx_Run (p : Program) (l : Launch) (e : Env) (R : Room) (s : State) (m : MethodId) (args : Array Value) (below : List Frame) (meth : Method) (c : Code) (H : Heap) (locs : List Loc) (cells slots mc ms : Nat) (g : JFrame) (rest : List Value) (Qa : State → Outcome → State → Prop) (XC : String → State → State → Prop) (free : Addr → Prop) : Prop :=
  ∀ T : State, T.heap = H → Stand p l e R s m args below meth c T locs cells slots →
    (∃ (v : Option Value) (st₀ t T' : State) (L : List Loc), st₀.heap = H ∧ Stand p l e R s m args below meth c T' (locs ++ L) (cells + mc) (slots + ms) ∧ (∀ q ∈ L, free q.base) ∧ T'.heap = t.heap ∧ T'.vm = t.vm ∧ Qa st₀ (.returned v) t ∧
      Goes p e below T g T' { g with pc := g.pc + 3, stack := v.toList ++ rest }) ∨
    (∃ (q : Addr) (st₀ t T' : State) (L : List Loc) (E : String) (ce : Cell), st₀.heap = H ∧ Stand p l e R s m args below meth c T' (locs ++ L) (cells + mc) (slots + ms) ∧ (∀ z ∈ L, free z.base) ∧ T'.heap = t.heap ∧ T'.vm = t.vm ∧ XC E st₀ t ∧ t.heap[q]? = some ce ∧ ce.vm = .none ∧ s.vm.findClass E = some ce.cls ∧
      Steps p.tables e below (T.setTop g) ((T'.setTop { g with stack := rest }).pushFrame (.throwing q)))
def vx_X {S : Type} (px : S → Prop) (B : String → S → State → Prop) (A : Nat → Prop) : String → State → State → Prop := fun E st t => ∃ u : S, px u ∧ B E u t ∧ va_F A st t
section Runs
variable {p : Program} {l : Launch} {e : Env} {R : Room} {s : State} {m : MethodId} {args : Array Value} {below : List Frame} {meth : Method} {c : Code} {H : Heap} {locs : List Loc} {cells slots : Nat}
variable {y : MethodName} {bytes cc : ByteArray} {maxL nL mc ms n index : Nat} {ret : Option FieldType} {ws : List Cond} {rm : Room} {Pc : Array Value → State → Prop} {Qc : Array Value → State → Outcome → State → Prop} {XC : String → State → State → Prop} {free : Addr → Prop} {Ts : List Cond} {own C : String} {b : Addr} {As rest : List Value} {g : JFrame}
theorem vx_callBack (cb : CallB R s args own index y bytes maxL ret ws rm mc ms n) (hM : vx_Met l y ws rm Pc Qc XC mc ms free) (hbl : FrameBlind Pc) : vx_Back l R p e below s args y 3 8 (PreOf R mc ms Pc) (PostOf Qc mc ms free) (vx_Post XC mc ms free) := by
  obtain ⟨hrc, hrs, hfr, hlo, hws, hcw, -, hini, -⟩ := cb
  exact vx_back (bytes := bytes) (maxL := maxL) (ret := ret) hM hbl hrc hrs hfr hlo hws hcw (fun a' U hW => word_at hW (Or.inl (by first | rfl | simp [Cond.onTables, Cond.keeps, Cond.steady])) hini)
theorem vx_runV (S : CallFix p m c cc nL s args Ts own) (hM : vx_Met l y ws rm Pc Qc XC mc ms free) (cw : CallW R s args own C index y bytes maxL ret ws rm mc ms n) (hp : PreV s H C b Pc As)
    (hg : g.method = m) (hn : As.length = n) (hsize : g.locals.size = nL) (hstack : g.stack = As.reverse ++ .ref b :: rest) (hW : 2 * g.monitorRoom + (rest.map fun v => v.category).sum ≤ 8) (hdg : decode cc g.pc = .ok (.invokevirtual index, 3)) (hf : cells + mc ≤ R.cells ∧ slots + ms ≤ R.slots) :
    vx_Run p l e R s m args below meth c H locs cells slots mc ms g rest (Qc (Value.ref b :: As).toArray) XC free := by
  have hK : vx_Back l R p e below s args y 3 8 (PreOf R mc ms Pc) (PostOf Qc mc ms free) (vx_Post XC mc ms free) := vx_callBack cw.1 hM hp.1
  obtain ⟨⟨-, -, -, -, -, -, hcode, -, hy, hlen, hl⟩, hin, hse⟩ := cw
  obtain ⟨hx, hb, hml, ho, -⟩ := S
  obtain ⟨-, ⟨cellB, hcB, hoB, hclB⟩, hPc⟩ := hp
  intro T hT X
  rcases vx_callV X hx (C := C) (bytes := bytes) (maxL := maxL) (ret := ret) ho hl hin hse hcode hy hK (by rw [hT]; exact hcB) hoB hclB hg (hsize.trans hml.symm) (argsL := As) (rest := rest) (fun sig h => hn.trans (hlen sig h)) hstack hW (by rw [hb]; exact hdg)
    (fun vm₁ hW₁ => ⟨hf.1, hf.2, hPc (T.setVm vm₁) hT hW₁⟩) with ⟨v, vm₁, ⟨U', l2, c2, s2⟩, hW₁, X', ⟨g', mk, t, L, e1, e2, hq, h1, hL, h2, h3⟩, st⟩ | ⟨q, vm₁, ⟨U', l2, c2, s2⟩, hW₁, X', ⟨g', mk, t, L, E, ce, e1, e2, hq, hce, hcv, hcl, h1, hL, h2, h3⟩, st⟩
  · dsimp only [Pt.U, Pt.locs, Pt.cells, Pt.slots] at X' e1 e2 h1 h2 h3 st
    subst h1; subst h2; subst h3
    exact Or.inl ⟨v, (T.setVm vm₁).calling g' mk (Value.ref b :: As).toArray, t, U', L, hT, X', hL, e1, e2, hq, st⟩
  · dsimp only [Pt.U, Pt.locs, Pt.cells, Pt.slots] at X' e1 e2 h1 h2 h3 st hcl
    subst h1; subst h2; subst h3
    exact Or.inr ⟨q, (T.setVm vm₁).calling g' mk (Value.ref b :: As).toArray, t, U', L, E, ce, hT, X', hL, e1, e2, hq, hce, hcv, vx_cls hW₁ hcl, st⟩
theorem vx_runS (S : CallFix p m c cc nL s args Ts own) (hM : vx_Met l y ws rm Pc Qc XC mc ms free) (cw : CallB R s args own index y bytes maxL ret ws rm mc ms n ∧ (Cond.static y).before args s = true) (hp : PreS s H Pc As)
    (hg : g.method = m) (hn : As.length = n) (hsize : g.locals.size = nL) (hstack : g.stack = As.reverse ++ rest) (hW : 2 * g.monitorRoom + (rest.map fun v => v.category).sum ≤ 8) (hdg : decode cc g.pc = .ok (.invokestatic index, 3)) (hf : cells + mc ≤ R.cells ∧ slots + ms ≤ R.slots) :
    vx_Run p l e R s m args below meth c H locs cells slots mc ms g rest (Qc As.toArray) XC free := by
  have hK : vx_Back l R p e below s args y 3 8 (PreOf R mc ms Pc) (PostOf Qc mc ms free) (vx_Post XC mc ms free) := vx_callBack cw.1 hM hp.1
  obtain ⟨⟨-, -, -, -, -, -, hcode, hini, hy, hlen, hl⟩, hstt⟩ := cw
  obtain ⟨hx, hb, hml, ho, -⟩ := S
  intro T hT X
  rcases vx_callS X hx (bytes := bytes) (maxL := maxL) (ret := ret) ho hl hstt hini hcode hy hK hg (hsize.trans hml.symm) (argsL := As) (rest := rest) (fun sig h => hn.trans (hlen sig h)) hstack hW (by rw [hb]; exact hdg)
    (fun vm₁ hW₁ => ⟨hf.1, hf.2, hp.2 (T.setVm vm₁) hT hW₁⟩) with ⟨v, vm₁, ⟨U', l2, c2, s2⟩, hW₁, X', ⟨g', mk, t, L, e1, e2, hq, h1, hL, h2, h3⟩, st⟩ | ⟨q, vm₁, ⟨U', l2, c2, s2⟩, hW₁, X', ⟨g', mk, t, L, E, ce, e1, e2, hq, hce, hcv, hcl, h1, hL, h2, h3⟩, st⟩
  · dsimp only [Pt.U, Pt.locs, Pt.cells, Pt.slots] at X' e1 e2 h1 h2 h3 st
    subst h1; subst h2; subst h3
    exact Or.inl ⟨v, (T.setVm vm₁).calling g' mk As.toArray, t, U', L, hT, X', hL, e1, e2, hq, st⟩
  · dsimp only [Pt.U, Pt.locs, Pt.cells, Pt.slots] at X' e1 e2 h1 h2 h3 st hcl
    subst h1; subst h2; subst h3
    exact Or.inr ⟨q, (T.setVm vm₁).calling g' mk As.toArray, t, U', L, E, ce, hT, X', hL, e1, e2, hq, hce, hcv, vx_cls hW₁ hcl, st⟩
end Runs
section Rows
variable {p : Program} {l : Launch} {e : Env} {R : Room} {s : State} {m : MethodId} {args : Array Value} {below : List Frame} {meth : Method} {c : Code} {H : Heap} {locs : List Loc} {cells slots : Nat} {Q : State → Prop}
variable {mc ms : Nat} {free : Addr → Prop} {A0 A1 : Nat → Prop} {H0 : Heap} {a : Array Value} {pc : Nat} {ls : Array Slot} {st0 rest : List Value}
theorem vx_keep {st₀ t T' : State} {L : List Loc} (h0 : st₀.heap = H) (e1 : T'.heap = t.heap) (hS : va_S A0 H0 H locs) (hA : ∀ q, q < H.size → A1 q → A0 q) (hf : ∀ q, free q → A0 q) (hL : ∀ q ∈ L, free q.base) (hF : va_F A1 st₀ t) :
    H.size ≤ T'.heap.size ∧ (∀ q : Nat, q < H.size → ¬ A1 q → T'.heap[q]? = H[q]?) ∧ va_S A0 H0 T'.heap (locs ++ L) := by
  obtain ⟨hz, hk⟩ := hF
  rw [h0] at hz hk
  exact ⟨by rw [e1]; exact hz, fun q h1 h2 => by rw [e1]; exact hk q h1 h2,
    ⟨Nat.le_trans hS.1 (by rw [e1]; exact hz), fun q h1 h2 => by rw [e1, hk q (Nat.lt_of_lt_of_le h1 hS.1) (fun z => h2 (hA q (Nat.lt_of_lt_of_le h1 hS.1) z))]; exact hS.2.1 q h1 h2, fun q hq => by
      rcases List.mem_append.mp hq with h | h
      · exact hS.2.2 q h
      · exact hf _ (hL q h)⟩⟩
theorem vx_calli {S SX : Type} {post : Int32 → S → Prop} {px : SX → Prop} {B : S → State → Prop} {BX : String → SX → State → Prop} {AX : Nat → Prop} (hr : vx_Run p l e R s m args below meth c H locs cells slots mc ms (F0 m pc ls st0) rest (va_Qi post B A1 a) (vx_X px BX AX) free) (hS : va_S A0 H0 H locs) (hA : ∀ q, q < H.size → A1 q → A0 q) (hf : ∀ q, free q → A0 q) (hAX : ∀ q, q < H.size → AX q → A0 q)
    (kx : ∀ (E : String) (ce : Cell) (q9 : Addr) (u : SX) (t : State) (H1 : Heap) (locs1 : List Loc), t.heap = H1 → s.vm.Alike t.vm → px u → BX E u t → H.size ≤ H1.size → (∀ q : Nat, q < H.size → ¬ AX q → H1[q]? = H[q]?) → va_S A0 H0 H1 locs1 → H1[q9]? = some ce → ce.vm = .none → s.vm.findClass E = some ce.cls → vx_W p l e R s m args below meth c H1 locs1 (cells + mc) (slots + ms) Q (F0 m pc ls rest) q9)
    (kk : ∀ (r : Int32) (u : S) (t : State) (H1 : Heap) (locs1 : List Loc), t.heap = H1 → s.vm.Alike t.vm → post r u → B u t → H.size ≤ H1.size → (∀ q : Nat, q < H.size → ¬ A1 q → H1[q]? = H[q]?) → va_S A0 H0 H1 locs1 → W p l e R s m args below meth c H1 locs1 (cells + mc) (slots + ms) Q (F0 m (pc + 3) ls (.int r :: rest))) : W p l e R s m args below meth c H locs cells slots Q (F0 m pc ls st0) := by
  intro T hT X
  rcases hr T hT X with ⟨v, st₀, t, T', L, h0, X', hL, e1, e2, ⟨⟨r, u, hv, hp, hb⟩, hF⟩, st⟩ | ⟨q, st₀, t, T', L, E, ce, h0, X', hL, e1, e2, ⟨u, hp, hb, hF⟩, hce, hcv, hcl, st⟩
  · cases hv
    obtain ⟨k1, k2, k3⟩ := vx_keep h0 e1 hS hA hf hL hF
    obtain ⟨t2, a1, b1⟩ := kk r u t T'.heap (locs ++ L) e1.symm (by rw [← e2]; exact X'.warmed.alike) hp hb k1 k2 k3 T' rfl X'
    exact ⟨t2, st t2 a1, b1⟩
  · obtain ⟨k1, k2, k3⟩ := vx_keep h0 e1 hS hAX hf hL hF
    obtain ⟨t2, a1, b1⟩ := kx E ce q u t T'.heap (locs ++ L) e1.symm (by rw [← e2]; exact X'.warmed.alike) hp hb k1 k2 k3 (by rw [e1]; exact hce) hcv hcl T' rfl X'
    exact ⟨t2, st.trans a1, b1⟩
theorem vx_calll {S SX : Type} {post : Int64 → S → Prop} {px : SX → Prop} {B : S → State → Prop} {BX : String → SX → State → Prop} {AX : Nat → Prop} (hr : vx_Run p l e R s m args below meth c H locs cells slots mc ms (F0 m pc ls st0) rest (va_Ql post B A1 a) (vx_X px BX AX) free) (hS : va_S A0 H0 H locs) (hA : ∀ q, q < H.size → A1 q → A0 q) (hf : ∀ q, free q → A0 q) (hAX : ∀ q, q < H.size → AX q → A0 q)
    (kx : ∀ (E : String) (ce : Cell) (q9 : Addr) (u : SX) (t : State) (H1 : Heap) (locs1 : List Loc), t.heap = H1 → s.vm.Alike t.vm → px u → BX E u t → H.size ≤ H1.size → (∀ q : Nat, q < H.size → ¬ AX q → H1[q]? = H[q]?) → va_S A0 H0 H1 locs1 → H1[q9]? = some ce → ce.vm = .none → s.vm.findClass E = some ce.cls → vx_W p l e R s m args below meth c H1 locs1 (cells + mc) (slots + ms) Q (F0 m pc ls rest) q9)
    (kk : ∀ (r : Int64) (u : S) (t : State) (H1 : Heap) (locs1 : List Loc), t.heap = H1 → s.vm.Alike t.vm → post r u → B u t → H.size ≤ H1.size → (∀ q : Nat, q < H.size → ¬ A1 q → H1[q]? = H[q]?) → va_S A0 H0 H1 locs1 → W p l e R s m args below meth c H1 locs1 (cells + mc) (slots + ms) Q (F0 m (pc + 3) ls (.long r :: rest))) : W p l e R s m args below meth c H locs cells slots Q (F0 m pc ls st0) := by
  intro T hT X
  rcases hr T hT X with ⟨v, st₀, t, T', L, h0, X', hL, e1, e2, ⟨⟨r, u, hv, hp, hb⟩, hF⟩, st⟩ | ⟨q, st₀, t, T', L, E, ce, h0, X', hL, e1, e2, ⟨u, hp, hb, hF⟩, hce, hcv, hcl, st⟩
  · cases hv
    obtain ⟨k1, k2, k3⟩ := vx_keep h0 e1 hS hA hf hL hF
    obtain ⟨t2, a1, b1⟩ := kk r u t T'.heap (locs ++ L) e1.symm (by rw [← e2]; exact X'.warmed.alike) hp hb k1 k2 k3 T' rfl X'
    exact ⟨t2, st t2 a1, b1⟩
  · obtain ⟨k1, k2, k3⟩ := vx_keep h0 e1 hS hAX hf hL hF
    obtain ⟨t2, a1, b1⟩ := kx E ce q u t T'.heap (locs ++ L) e1.symm (by rw [← e2]; exact X'.warmed.alike) hp hb k1 k2 k3 (by rw [e1]; exact hce) hcv hcl T' rfl X'
    exact ⟨t2, st.trans a1, b1⟩
theorem vx_callf {S SX : Type} {post : UInt32 → S → Prop} {px : SX → Prop} {B : S → State → Prop} {BX : String → SX → State → Prop} {AX : Nat → Prop} (hr : vx_Run p l e R s m args below meth c H locs cells slots mc ms (F0 m pc ls st0) rest (va_Qf post B A1 a) (vx_X px BX AX) free) (hS : va_S A0 H0 H locs) (hA : ∀ q, q < H.size → A1 q → A0 q) (hf : ∀ q, free q → A0 q) (hAX : ∀ q, q < H.size → AX q → A0 q)
    (kx : ∀ (E : String) (ce : Cell) (q9 : Addr) (u : SX) (t : State) (H1 : Heap) (locs1 : List Loc), t.heap = H1 → s.vm.Alike t.vm → px u → BX E u t → H.size ≤ H1.size → (∀ q : Nat, q < H.size → ¬ AX q → H1[q]? = H[q]?) → va_S A0 H0 H1 locs1 → H1[q9]? = some ce → ce.vm = .none → s.vm.findClass E = some ce.cls → vx_W p l e R s m args below meth c H1 locs1 (cells + mc) (slots + ms) Q (F0 m pc ls rest) q9)
    (kk : ∀ (r : UInt32) (u : S) (t : State) (H1 : Heap) (locs1 : List Loc), t.heap = H1 → s.vm.Alike t.vm → post r u → B u t → H.size ≤ H1.size → (∀ q : Nat, q < H.size → ¬ A1 q → H1[q]? = H[q]?) → va_S A0 H0 H1 locs1 → W p l e R s m args below meth c H1 locs1 (cells + mc) (slots + ms) Q (F0 m (pc + 3) ls (.float r :: rest))) : W p l e R s m args below meth c H locs cells slots Q (F0 m pc ls st0) := by
  intro T hT X
  rcases hr T hT X with ⟨v, st₀, t, T', L, h0, X', hL, e1, e2, ⟨⟨r, u, hv, hp, hb⟩, hF⟩, st⟩ | ⟨q, st₀, t, T', L, E, ce, h0, X', hL, e1, e2, ⟨u, hp, hb, hF⟩, hce, hcv, hcl, st⟩
  · cases hv
    obtain ⟨k1, k2, k3⟩ := vx_keep h0 e1 hS hA hf hL hF
    obtain ⟨t2, a1, b1⟩ := kk r u t T'.heap (locs ++ L) e1.symm (by rw [← e2]; exact X'.warmed.alike) hp hb k1 k2 k3 T' rfl X'
    exact ⟨t2, st t2 a1, b1⟩
  · obtain ⟨k1, k2, k3⟩ := vx_keep h0 e1 hS hAX hf hL hF
    obtain ⟨t2, a1, b1⟩ := kx E ce q u t T'.heap (locs ++ L) e1.symm (by rw [← e2]; exact X'.warmed.alike) hp hb k1 k2 k3 (by rw [e1]; exact hce) hcv hcl T' rfl X'
    exact ⟨t2, st.trans a1, b1⟩
theorem vx_calld {S SX : Type} {post : UInt64 → S → Prop} {px : SX → Prop} {B : S → State → Prop} {BX : String → SX → State → Prop} {AX : Nat → Prop} (hr : vx_Run p l e R s m args below meth c H locs cells slots mc ms (F0 m pc ls st0) rest (va_Qd post B A1 a) (vx_X px BX AX) free) (hS : va_S A0 H0 H locs) (hA : ∀ q, q < H.size → A1 q → A0 q) (hf : ∀ q, free q → A0 q) (hAX : ∀ q, q < H.size → AX q → A0 q)
    (kx : ∀ (E : String) (ce : Cell) (q9 : Addr) (u : SX) (t : State) (H1 : Heap) (locs1 : List Loc), t.heap = H1 → s.vm.Alike t.vm → px u → BX E u t → H.size ≤ H1.size → (∀ q : Nat, q < H.size → ¬ AX q → H1[q]? = H[q]?) → va_S A0 H0 H1 locs1 → H1[q9]? = some ce → ce.vm = .none → s.vm.findClass E = some ce.cls → vx_W p l e R s m args below meth c H1 locs1 (cells + mc) (slots + ms) Q (F0 m pc ls rest) q9)
    (kk : ∀ (r : UInt64) (u : S) (t : State) (H1 : Heap) (locs1 : List Loc), t.heap = H1 → s.vm.Alike t.vm → post r u → B u t → H.size ≤ H1.size → (∀ q : Nat, q < H.size → ¬ A1 q → H1[q]? = H[q]?) → va_S A0 H0 H1 locs1 → W p l e R s m args below meth c H1 locs1 (cells + mc) (slots + ms) Q (F0 m (pc + 3) ls (.double r :: rest))) : W p l e R s m args below meth c H locs cells slots Q (F0 m pc ls st0) := by
  intro T hT X
  rcases hr T hT X with ⟨v, st₀, t, T', L, h0, X', hL, e1, e2, ⟨⟨r, u, hv, hp, hb⟩, hF⟩, st⟩ | ⟨q, st₀, t, T', L, E, ce, h0, X', hL, e1, e2, ⟨u, hp, hb, hF⟩, hce, hcv, hcl, st⟩
  · cases hv
    obtain ⟨k1, k2, k3⟩ := vx_keep h0 e1 hS hA hf hL hF
    obtain ⟨t2, a1, b1⟩ := kk r u t T'.heap (locs ++ L) e1.symm (by rw [← e2]; exact X'.warmed.alike) hp hb k1 k2 k3 T' rfl X'
    exact ⟨t2, st t2 a1, b1⟩
  · obtain ⟨k1, k2, k3⟩ := vx_keep h0 e1 hS hAX hf hL hF
    obtain ⟨t2, a1, b1⟩ := kx E ce q u t T'.heap (locs ++ L) e1.symm (by rw [← e2]; exact X'.warmed.alike) hp hb k1 k2 k3 (by rw [e1]; exact hce) hcv hcl T' rfl X'
    exact ⟨t2, st.trans a1, b1⟩
theorem vx_callv {S SX : Type} {post : S → Prop} {px : SX → Prop} {B : S → State → Prop} {BX : String → SX → State → Prop} {AX : Nat → Prop} (hr : vx_Run p l e R s m args below meth c H locs cells slots mc ms (F0 m pc ls st0) rest (va_Qv post B A1 a) (vx_X px BX AX) free) (hS : va_S A0 H0 H locs) (hA : ∀ q, q < H.size → A1 q → A0 q) (hf : ∀ q, free q → A0 q) (hAX : ∀ q, q < H.size → AX q → A0 q)
    (kx : ∀ (E : String) (ce : Cell) (q9 : Addr) (u : SX) (t : State) (H1 : Heap) (locs1 : List Loc), t.heap = H1 → s.vm.Alike t.vm → px u → BX E u t → H.size ≤ H1.size → (∀ q : Nat, q < H.size → ¬ AX q → H1[q]? = H[q]?) → va_S A0 H0 H1 locs1 → H1[q9]? = some ce → ce.vm = .none → s.vm.findClass E = some ce.cls → vx_W p l e R s m args below meth c H1 locs1 (cells + mc) (slots + ms) Q (F0 m pc ls rest) q9)
    (kk : ∀ (u : S) (t : State) (H1 : Heap) (locs1 : List Loc), t.heap = H1 → s.vm.Alike t.vm → post u → B u t → H.size ≤ H1.size → (∀ q : Nat, q < H.size → ¬ A1 q → H1[q]? = H[q]?) → va_S A0 H0 H1 locs1 → W p l e R s m args below meth c H1 locs1 (cells + mc) (slots + ms) Q (F0 m (pc + 3) ls (rest))) : W p l e R s m args below meth c H locs cells slots Q (F0 m pc ls st0) := by
  intro T hT X
  rcases hr T hT X with ⟨v, st₀, t, T', L, h0, X', hL, e1, e2, ⟨⟨u, hv, hp, hb⟩, hF⟩, st⟩ | ⟨q, st₀, t, T', L, E, ce, h0, X', hL, e1, e2, ⟨u, hp, hb, hF⟩, hce, hcv, hcl, st⟩
  · cases hv
    obtain ⟨k1, k2, k3⟩ := vx_keep h0 e1 hS hA hf hL hF
    obtain ⟨t2, a1, b1⟩ := kk u t T'.heap (locs ++ L) e1.symm (by rw [← e2]; exact X'.warmed.alike) hp hb k1 k2 k3 T' rfl X'
    exact ⟨t2, st t2 a1, b1⟩
  · obtain ⟨k1, k2, k3⟩ := vx_keep h0 e1 hS hAX hf hL hF
    obtain ⟨t2, a1, b1⟩ := kx E ce q u t T'.heap (locs ++ L) e1.symm (by rw [← e2]; exact X'.warmed.alike) hp hb k1 k2 k3 (by rw [e1]; exact hce) hcv hcl T' rfl X'
    exact ⟨t2, st.trans a1, b1⟩
/-- caught by the row x of this method's table; the rows ahead don't take it -/
theorem vx_catch {own name : String} {E : String} {ce : Cell} {q : Addr} (hown : s.vm.findClass own = some m.cls) (pre : List ExceptionTableEntry) (x : ExceptionTableEntry) (suf : List ExceptionTableEntry) (hsplit : c.exceptionTable.toList = pre ++ x :: suf)
    (hpass : ∀ z ∈ pre, covers z pc = false ∨ (z.catchType ≠ 0 ∧ ∃ nm : String, (Cond.classLink own z.catchType nm).before args s = true ∧ va_Nc E nm s)) (hx : covers x pc = true) (h0 : x.catchType ≠ 0)
    (hlink : (Cond.classLink own x.catchType name).before args s = true) (hcast : (Cond.castable E name).before args s = true) (hcell : H[q]? = some ce) (hv : ce.vm = .none) (hcl : s.vm.findClass E = some ce.cls)
    (kk : W p l e R s m args below meth c H locs cells slots Q (F0 m x.handlerPc ls [.ref q])) : vx_W p l e R s m args below meth c H locs cells slots Q (F0 m pc ls rest) q := by
  intro T hT X
  have hpl : e.platform.magicAccessors = ({} : Platform).magicAccessors := by rw [X.admits.platform]
  obtain ⟨c3, c4, hc3, hc4, hasg⟩ := Cond.castable_spec hcast
  cases Option.some.inj (hc3.symm.trans hcl)
  obtain ⟨c5, hc5, hcl5⟩ := Cond.classLink_spec hown hlink e.platform hpl
  cases Option.some.inj (hc4.symm.trans hc5)
  obtain ⟨vm', X', st⟩ := X.thenCaughtThrough q (g := F0 m pc ls rest) rfl (Steps.refl _) (by rw [hT]; exact hcell) (by rw [hv]; rfl) (by obtain ⟨k9, h9, -⟩ := Vm.findClass_spec hcl; exact ⟨k9, h9⟩) pre x suf hsplit
    (fun z hz => by
      rcases hpass z hz with h | ⟨hz0, nm, hl1, hn1⟩
      · exact Or.inl h
      · obtain ⟨c6, hc6, hcl6⟩ := Cond.classLink_spec hown hl1 e.platform hpl
        obtain ⟨a8, b8, h1, h2, h3⟩ := hn1
        cases Option.some.inj (h1.symm.trans hcl)
        cases Option.some.inj (h2.symm.trans hc6)
        exact Or.inr ⟨hz0, _, hcl6, h3⟩) hx (Or.inr ⟨h0, c4, hcl5, hasg⟩)
  obtain ⟨t, a1, b1⟩ := kk (T.setVm vm') hT X'
  exact ⟨t, st.trans a1, b1⟩
end Rows
section Ends
variable {p : Program} {l : Launch} {e : Env} {R : Room} {s : State} {m : MethodId} {args : Array Value} {below : List Frame} {meth : Method} {c : Code} {H : Heap} {locs : List Loc} {cells slots : Nat} {Q : State → Prop}
variable {mc ms : Nat} {free : Addr → Prop} {A0 A1 : Nat → Prop} {H0 : Heap} {a : Array Value} {ls : Array Slot} {st0 rest : List Value}
variable {Qc : Array Value → State → Outcome → State → Prop} {XC : String → State → State → Prop}
/-- what a body that may throw owes at its end -/
def vx_MQ (below : List Frame) (Qc : Array Value → State → Outcome → State → Prop) (XC : String → State → State → Prop) (a : Array Value) (s : State) (mc ms : Nat) (free : Addr → Prop) : State → Prop := fun t =>
  ∃ o, t.status = .running ∧ Ended t below o ∧ vx_Q Qc XC mc ms free a s o t
theorem vx_ret {g : JFrame} {mc ms : Nat} (k : W p l e R s m args below meth c H locs cells slots (MQ below Qc args s mc ms free) g) : W p l e R s m args below meth c H locs cells slots (vx_MQ below Qc XC args s mc ms free) g := by
  intro T hT X
  obtain ⟨t, a1, o, b1, b2, b3, b4⟩ := k T hT X
  exact ⟨t, a1, o, b1, b2, Or.inl ⟨b3, b4⟩⟩
/-- not caught here: it goes on to the caller -/
theorem vx_widen {g : JFrame} {q : Addr} {k n : Nat} (h1 : cells ≤ k) (h2 : slots ≤ n) (kk : vx_W p l e R s m args below meth c H locs k n Q g q) : vx_W p l e R s m args below meth c H locs cells slots Q g q := fun T hT X => kk T hT (stand_widen X h1 h2)
theorem vx_out {pc : Nat} {E : String} {ce : Cell} {q : Addr} {mc ms : Nat} (hout : ∀ x ∈ c.exceptionTable.toList, covers x pc = false) (hlocks : meth.locks = false) (hcell : H[q]? = some ce) (hv : ce.vm = .none) (hcl : s.vm.findClass E = some ce.cls)
    (hx : ∀ t : State, t.heap = H → s.vm.Alike t.vm → XC E s t) (hf : ∀ z ∈ locs, free z.base) (hc : cells ≤ mc) (hs : slots ≤ ms) :
    vx_W p l e R s m args below meth c H locs cells slots (vx_MQ below Qc XC args s mc ms free) (F0 m pc ls rest) q := by
  intro T hT X
  obtain ⟨st1, hrun, hend, hW, hsm⟩ := X.leaveThrown q (g := F0 m pc ls rest) rfl rfl rfl hout hlocks
  have hcell9 : (T.setFrames (.throwing q :: below)).heap[q]? = some ce := by
    show T.heap[q]? = some ce
    rw [hT]; exact hcell
  exact ⟨_, st1, .threw q, hrun, hend, Or.inr ⟨q, rfl, E, ce, locs, hx _ hT hW.alike, hcell9, hv, hcl, hW, hsm.mono hc hs, hf⟩⟩
theorem vx_frame {U : State} {k n : Nat} (h : s.sameButNew ({ U with vm := s.vm } : State) locs k n) : s.heap.size ≤ U.heap.size ∧ ∀ q : Nat, q < s.heap.size → (∀ z ∈ locs, z.base ≠ q) → U.heap[q]? = s.heap[q]? := by
  obtain ⟨-, h2, -, -, -, h6⟩ := h
  refine ⟨h2, fun q hq hz => ?_⟩
  obtain ⟨c9, e1, e2, e3, e4⟩ := h6 q _ (Array.getElem?_eq_getElem hq)
  have hs : c9.slots = (s.heap[q]).slots := Array.ext_getElem? fun i => e4 i fun hm => hz _ hm rfl
  have h9 : c9 = s.heap[q] := by
    rw [hs] at e2
    exact e2
  have e5 : U.heap[q]? = some c9 := e1
  rw [e5, h9, Array.getElem?_eq_getElem hq]
/-- the words of a throw but the four that speak of the heap -/
def vx_no (w : Cond) : Bool := decide (w ≠ .isRef (.static Bundle.tN "UNASSIGNED_STACK" Bundle.steD)) && decide (w ≠ .isRef (.static Bundle.tN "SUPPRESSED_SENTINEL" Bundle.listD)) && decide (w ≠ .laysStatic Bundle.tN "UNASSIGNED_STACK" Bundle.steD) && decide (w ≠ .laysStatic Bundle.tN "SUPPRESSED_SENTINEL" Bundle.listD)
def vx_at0 (own : String) (ic : Nat) (X : String) (names : List String) : List Cond := (Bundle.ownAtoms0 own ic X names).filter vx_no
def vx_atS (own : String) (ic : Nat) (X : String) (names : List String) : List Cond := (Bundle.ownAtoms own ic X names).filter vx_no
/-- a word that the tables alone decide, or a good one -/
def vx_ot (w : Cond) : Bool := w.onTables || goodWord w
theorem vx_ot_at {args a' : Array Value} {s U : State} {w : Cond} (hW : s.WarmedH U.vm) (hvm : s.vm = U.vm) (hg : vx_ot w = true) (h : w.before args s = true) : w.before a' U = true := by
  simp only [vx_ot, Bool.or_eq_true] at hg
  rcases hg with hg | hg
  · exact va_tabs hg hvm h
  · exact word_at hW (good_of_word hg) h
/-- a list's words: the good ones out of the method's own list, the others by premises of their own -/
theorem vx_hat {args : Array Value} {s : State} {L B : List Cond} (h1 : ∀ w ∈ L.filter goodWord, w.before args s = true) (h2 : ∀ w ∈ L.filter (fun w => !goodWord w), w ∈ B) (h3 : ∀ w ∈ B, w.before args s = true) : ∀ w ∈ L, w.before args s = true := by
  intro w hw
  by_cases g : goodWord w = true
  · exact h1 w (List.mem_filter.mpr ⟨hw, g⟩)
  · refine h3 w (h2 w (List.mem_filter.mpr ⟨hw, ?_⟩))
    show (!goodWord w) = true
    cases hgw : goodWord w
    · rfl
    · exact absurd hgw g
theorem vx_c {args : Array Value} {s : State} {w : Cond} {B : List Cond} (h : w.before args s = true) (t : ∀ w ∈ B, w.before args s = true) : ∀ w' ∈ w :: B, w'.before args s = true := fun w' h' => (List.mem_cons.mp h').elim (fun e => by rw [e]; exact h) (t w')
theorem vx_n {args : Array Value} {s : State} : ∀ w ∈ ([] : List Cond), w.before args s = true := fun _ h => nomatch h
theorem vx_own {args : Array Value} {s : State} {L : List Cond} (h1 : ∀ w ∈ L.filter vx_no, w.before args s = true)
    (hU : (Cond.isRef (.static Bundle.tN "UNASSIGNED_STACK" Bundle.steD)).before args s = true) (hN : (Cond.isRef (.static Bundle.tN "SUPPRESSED_SENTINEL" Bundle.listD)).before args s = true)
    (lU : (Cond.laysStatic Bundle.tN "UNASSIGNED_STACK" Bundle.steD).before args s = true) (lN : (Cond.laysStatic Bundle.tN "SUPPRESSED_SENTINEL" Bundle.listD).before args s = true) : ∀ w ∈ L, w.before args s = true := by
  intro w hw
  by_cases e1 : w = .isRef (.static Bundle.tN "UNASSIGNED_STACK" Bundle.steD)
  · rw [e1]; exact hU
  · by_cases e2 : w = .isRef (.static Bundle.tN "SUPPRESSED_SENTINEL" Bundle.listD)
    · rw [e2]; exact hN
    · by_cases e3 : w = .laysStatic Bundle.tN "UNASSIGNED_STACK" Bundle.steD
      · rw [e3]; exact lU
      · by_cases e4 : w = .laysStatic Bundle.tN "SUPPRESSED_SENTINEL" Bundle.listD
        · rw [e4]; exact lN
        · exact h1 w (List.mem_filter.mpr ⟨hw, by unfold vx_no; rw [decide_eq_true e1, decide_eq_true e2, decide_eq_true e3, decide_eq_true e4]; rfl⟩)
/-- where a static field lies, its class's statics cell in H -/
def vx_L (C n d : String) (A : Nat → Prop) (U : State) (H : Heap) : Prop := ∃ (c : ClassId) (k : Class) (i : Nat) (f : Field) (a : Nat) (cell : Cell), U.vm.findClass C = some c ∧ U.fieldFound? C n d = some (c, k, i, f) ∧ f.isStatic = true ∧ k.statics = some a ∧ H[a]? = some cell ∧ cell.vm.isStatics = true ∧ cell.cls = c ∧ f.slot < cell.slots.size ∧ k.staticTypes[f.slot]? = some f.type ∧ ¬ A a
theorem vx_L.moved {C n d : String} {A : Nat → Prop} {u U : State} {H : Heap} (hvm : u.vm.Alike U.vm) (h : vx_L C n d A u H) : vx_L C n d A U H := by
  obtain ⟨c, k, i, f, a, cell, h1, h2, h3, h4, h5, h6, h7, h8, h9, h10⟩ := h
  obtain ⟨k', hi', he⟩ := State.fieldFound?_setVm hvm h2
  exact ⟨c, k', i, f, a, cell, by rw [hvm.findClass]; exact h1, hi', h3, by rw [he]; exact h4, h5, h6, h7, h8, by rw [he]; exact h9, h10⟩
theorem vx_L.kept {C n d : String} {A : Nat → Prop} {U : State} {H H1 : Heap} (h : vx_L C n d A U H) (hq : ∀ a : Nat, a < H.size → ¬ A a → H1[a]? = H[a]?) : vx_L C n d A U H1 := by
  obtain ⟨c, k, i, f, a, cell, h1, h2, h3, h4, h5, h6, h7, h8, h9, h10⟩ := h
  exact ⟨c, k, i, f, a, cell, h1, h2, h3, h4, by rw [hq a (Array.getElem?_eq_some_iff.mp h5).1 h10]; exact h5, h6, h7, h8, h9, h10⟩
theorem vx_L.narrow {C n d : String} {A B : Nat → Prop} {U : State} {H : Heap} (h : vx_L C n d A U H) (hAB : ∀ q, B q → A q) : vx_L C n d B U H := by
  obtain ⟨c, k, i, f, a, cell, h1, h2, h3, h4, h5, h6, h7, h8, h9, h10⟩ := h
  exact ⟨c, k, i, f, a, cell, h1, h2, h3, h4, h5, h6, h7, h8, h9, fun z => h10 (hAB _ z)⟩
theorem vx_L.word {C n d : String} {A : Nat → Prop} {s : State} {args : Array Value} (h : vx_L C n d A s s.heap) : (Cond.laysStatic C n d).before args s = true := by
  obtain ⟨c, k, i, f, a, cell, h1, h2, h3, h4, h5, h6, h7, h8, h9, -⟩ := h
  show (Cond.laysStatic C n d).holds args s none s [] = true
  exact Cond.laysStatic_of h1 h2 h3 h4 h5 h6 h7 h8 h9
/-- .. and what it holds: null or some reference -/
def vx_Zq (C n d : String) (A : Nat → Prop) (U : State) (H : Heap) : Prop := va_Zq C n d A U H ∧ vx_L C n d A U H
theorem vx_Zq.moved {C n d : String} {A : Nat → Prop} {u U : State} {H : Heap} (hvm : u.vm.Alike U.vm) (h : vx_Zq C n d A u H) : vx_Zq C n d A U H := ⟨va_Zq.moved hvm h.1, vx_L.moved hvm h.2⟩
theorem vx_Zq.kept {C n d : String} {A : Nat → Prop} {U : State} {H H1 : Heap} (h : vx_Zq C n d A U H) (hq : ∀ a : Nat, a < H.size → ¬ A a → H1[a]? = H[a]?) : vx_Zq C n d A U H1 := ⟨va_Zq.kept h.1 hq, vx_L.kept h.2 hq⟩
theorem vx_Zq.narrow {C n d : String} {A B : Nat → Prop} {U : State} {H : Heap} (h : vx_Zq C n d A U H) (hAB : ∀ q, B q → A q) : vx_Zq C n d B U H := ⟨va_Zq.narrow h.1 hAB, vx_L.narrow h.2 hAB⟩
theorem vx_Zqof {args : Array Value} {s : State} {C n d : String} {A : Nat → Prop} (hl : (Cond.laysStatic C n d).before args s = true) (hini : (Cond.initialized C).before args s = true) (h : (Cond.isRef (.static C n d)).before args s = true) (hA : ∀ a : Nat, a < s.heap.size → ¬ A a) : vx_Zq C n d A s s.heap := by
  refine ⟨va_Zqof hl hini h hA, ?_⟩
  obtain ⟨c, k, i, f, a, cell, h1, h2, h3, h4, h5, h6, h7, h8, h9⟩ := Cond.laysStatic_spec hl
  exact ⟨c, k, i, f, a, cell, h1, h2, h3, h4, h5, h6, h7, h8, h9, hA a (Array.getElem?_eq_some_iff.mp h5).1⟩
theorem vx_isRef {C n d : String} {v : Value} {A : Nat → Prop} {s : State} {args : Array Value} (h : va_Z C n d v A s s.heap) (hv : v.isRef = true) : (Cond.isRef (.static C n d)).before args s = true := by
  obtain ⟨cf, kf, fi, f, a, cell, h1, h2, h3, h4, h5, h6, h7, -⟩ := h
  have he : (Term.static C n d).eval args s none [] s = some v := by
    simp [Term.eval, State.fieldNamed?, h1, h2, h4, h5, h6, h7]
  simp only [Cond.before, Cond.holds, Cond.value, he]
  cases v <;> simp_all [Value.isRef]
theorem vx_isRefq {C n d : String} {A : Nat → Prop} {s : State} {args : Array Value} (h : va_Zq C n d A s s.heap) : (Cond.isRef (.static C n d)).before args s = true := by
  rcases h with h | ⟨t, h⟩
  · exact vx_isRef h rfl
  · exact vx_isRef h rfl
/-- the same frame, seen from here: as if the method were called anew in this heap -/
theorem vx_rebase {T : State} (X : Stand p l e R s m args below meth c T locs cells slots) {R' : Room} (hf : R'.frames ≤ R.frames) (hl : R'.locals ≤ R.locals) (hc : cells + R'.cells ≤ R.cells) (hs : slots + R'.slots ≤ R.slots) :
    Stand p l e R' ((T.setVm s.vm).setFrames (.invoking m args :: below)) m args below meth c T [] 0 0 := by
  have htop : (T.setVm s.vm).topJava?.isSome := X.here.top
  have hF : ((T.setVm s.vm).setFrames (.invoking m args :: below)).frames = .invoking m args :: below := State.frames_setFrames _ (State.cur_lt_of_top htop)
  obtain ⟨g₀, hg0⟩ := Option.isSome_iff_exists.mp htop
  obtain ⟨r, hr⟩ := State.topJava?_eq_some.mp hg0
  have hl9 : e.platform.stackLimits (T.setVm s.vm).me = e.platform.stackLimits s.me := X.limits
  have hb9 : (T.setVm s.vm).me.stackBytes = s.me.stackBytes := X.bytes
  refine ⟨X.admits, X.cas, X.clock, hF, ?_, X.hears, X.method, X.code, X.here, X.tail, X.warmed, ?_, ?_, ?_⟩
  · have h := X.room
    have hU : ((T.setVm s.vm).setFrames (.invoking m args :: below)).localsInUse = s.localsInUse := by
      rw [State.localsInUse_invoking hF (meth := meth) (c := c) X.method X.code, State.localsInUse_invoking X.frames X.method X.code]
    simp only [State.hasRoom, Bool.and_eq_true, decide_eq_true_eq] at h ⊢
    obtain ⟨⟨⟨⟨h1, h2, h3, h4, h5, h6⟩, h7⟩, h8⟩, h9⟩ := h
    rw [X.frames, List.length_cons] at h2 h3
    have q1 := X.heapSize
    have q2 := X.used
    simp only [hF, hU, List.length_cons, State.stackLimits_setFrames, State.stackBytes_setFrames, hl9, hb9]
    refine ⟨⟨⟨⟨by omega, by omega, by omega, by omega, by omega, h6⟩, ?_⟩, ?_⟩, X.book⟩
    · show T.heap.size + R'.cells ≤ e.platform.maxCells
      omega
    · show T.slotsUsed + R'.slots ≤ e.platform.maxSlots
      omega
  · rw [State.stackLimits_setFrames]; rfl
  · rw [State.stackBytes_setFrames]; rfl
  · refine ⟨?_, Nat.le_refl _, Nat.le_refl _, ?_, ?_, fun a c9 h9 => ⟨c9, h9, rfl, rfl, fun _ _ => rfl⟩⟩
    · obtain ⟨t, ht, -⟩ := State.frames_cons hr
      show T.setVm s.vm = { ((T.setVm s.vm).setFrames (.invoking m args :: below)).setFrames (T.setVm s.vm).frames with heap := T.heap, slotsUsed := T.slotsUsed }
      rw [State.setFrames_setFrames, State.setFrames_self ht]
      rfl
    · show T.slotsUsed = T.slotsUsed + ((T.heap.toList.drop T.heap.size).map (·.slots.size)).sum
      rw [List.drop_eq_nil_of_le (Nat.le_of_eq Array.length_toList)]
      rfl
    · show ((T.heap.toList.drop T.heap.size).map (·.slots.size)).sum ≤ 0
      rw [List.drop_eq_nil_of_le (Nat.le_of_eq Array.length_toList)]
      exact Nat.le_refl _
/-- 'throw new E()': new; dup; invokespecial; athrow -/
theorem vx_throw0 {cc : ByteArray} {pc : Nat} (hexec : p.tables.exec = Jvm.exec) (hb : c.code = cc) (hl : l.stackTraces = false) {own cls : String} {names : List String} {ik ic mc ms : Nat} {A : Nat → Prop}
    (hown : s.vm.findClass own = some m.cls) (hcls : Bundle.fit cls = true) (hnames : ∀ n ∈ names, Bundle.fit n = true)
    (hk : (Cond.classLink own ik cls).before args s = true) (hini : (Cond.initialized cls).before args s = true) (hat : ∀ w ∈ vx_at0 own ic cls names, w.before args s = true)
    (hgood : ∀ w ∈ Cond.classLink own ik cls :: Cond.initialized cls :: vx_at0 own ic cls names, vx_ot w = true)
    (hU : vx_Zq Bundle.tN "UNASSIGNED_STACK" Bundle.steD A s s.heap) (hN : vx_Zq Bundle.tN "SUPPRESSED_SENTINEL" Bundle.listD A s s.heap) (hS : va_S A s.heap H locs) (hsize : ls.size = c.maxLocals)
    (d0 : decode cc pc = .ok (.new ik, 3)) (d3 : decode cc (pc + 3) = .ok (.dup, 1)) (d4 : decode cc (pc + 4) = .ok (.invokespecial ic, 3)) (d7 : decode cc (pc + 7) = .ok (.athrow, 1))
    (hout : ∀ x ∈ c.exceptionTable.toList, covers x (pc + 7) = false)
    (hRframes : names.length + 3 < R.frames) (hRlocals : (rest.map fun v => v.category).sum + (13 * (names.length + 1) + 42) ≤ R.locals) (hRcells : cells + 1 ≤ R.cells) (hRslots : slots + 6 ≤ R.slots) (hlocks : meth.locks = false)
    (hx : ∀ t : State, s.vm.Alike t.vm → H.size ≤ t.heap.size → (∀ q : Nat, q < H.size → t.heap[q]? = H[q]?) → XC cls s t)
    (hf : ∀ z ∈ locs, free z.base) (hc : cells + 1 ≤ mc) (hs : slots + 6 ≤ ms) :
    W p l e R s m args below meth c H locs cells slots (vx_MQ below Qc XC args s mc ms free) (F0 m pc ls rest) := by
  intro T hT X
  have htr : e.platform.stackTraces = false := (show e.platform.stackTraces = l.stackTraces by rw [X.admits.platform]).trans hl
  have Y := vx_rebase X (R' := { frames := R.frames, locals := R.locals, cells := 1, slots := 6 }) (Nat.le_refl _) (Nat.le_refl _) hRcells hRslots
  obtain ⟨s', hA⟩ : ∃ z, z = (T.setVm s.vm).setFrames (.invoking m args :: below) := ⟨_, rfl⟩
  rw [← hA] at Y
  have hvm : s'.vm = s.vm := by rw [hA]; rfl
  have hhp : s'.heap = H := by rw [hA]; exact hT
  have hW0 : s.WarmedH s'.vm := by rw [hvm]; exact State.WarmedH.refl s
  have hat' : ∀ w ∈ vx_at0 own ic cls names, w.before args s' = true := fun w hw => vx_ot_at hW0 hvm.symm (hgood w (List.mem_cons_of_mem _ (List.mem_cons_of_mem _ hw))) (hat w hw)
  have hk' : (Cond.classLink own ik cls).before args s' = true := vx_ot_at hW0 hvm.symm (hgood _ List.mem_cons_self) hk
  have hini' : (Cond.initialized cls).before args s' = true := vx_ot_at hW0 hvm.symm (hgood _ (List.mem_cons_of_mem _ List.mem_cons_self)) hini
  have hU' : vx_Zq Bundle.tN "UNASSIGNED_STACK" Bundle.steD A s' s'.heap := by rw [hhp]; exact vx_Zq.moved hW0.alike (hU.kept hS.2.1)
  have hN' : vx_Zq Bundle.tN "SUPPRESSED_SENTINEL" Bundle.listD A s' s'.heap := by rw [hhp]; exact vx_Zq.moved hW0.alike (hN.kept hS.2.1)
  have h : ∀ w ∈ Bundle.ownAtoms0 own ic cls names, w.before args s' = true := vx_own hat' (vx_isRefq hU'.1) (vx_isRefq hN'.1) hU'.2.word hN'.2.word
  have hown' : s'.vm.findClass own = some m.cls := by rw [hvm]; exact hown
  have hins : (Cond.instantiable cls 6).before args s' = true := h _ (by simp [Bundle.ownAtoms0])
  obtain ⟨vm₁, cX, kX, hfX, hkX, -, -, X₁, st1⟩ := Y.newCold hexec (own := own) (C := cls) (index := ik) (n := 6) hown' hk' hins hini'
    (g := F0 m pc ls rest) rfl (by rw [hb]; exact d0) (Nat.le_refl _) (Nat.le_refl _)
  generalize hT1 : (T.setVm vm₁).pushCell { cls := cX, slots := kX.instanceTypes.map defaultValue, vm := .none } = T1 at X₁ st1
  have hcat : (Value.ref T.heap.size).category = 1 := rfl
  have hcellA : T1.heap[T.heap.size]? = some (freshCell cX kX) := by rw [← hT1]; exact State.heap_pushCell_size _ _
  have d3' : decode c.code (pc + 3) = .ok (.dup, 1) := by rw [hb]; exact d3
  obtain ⟨U, hsteps, hrun, hend, hW, hsame, ce, hce, hO⟩ := X₁.ctorThrow0 hexec htr (own := own) (cls := cls) (names := names) (ic := ic) hown' hcls hnames h (fun x hx => nomatch hx) hfX hkX hcellA (by rw [hhp, hT]; exact Nat.le_refl _)
    (g := { method := m, pc := pc + 4, locals := ls, stack := .ref T.heap.size :: .ref T.heap.size :: rest, locked := none }) rfl hsize rfl rfl (rest := rest) rfl
    (by rw [hb]; exact d4) (by rw [hb]; exact d7) hout hRframes (by simp only [List.map_cons, List.sum_cons, hcat]; omega) hlocks
  obtain ⟨f1, f2⟩ := vx_frame hsame
  rw [hhp] at f1 f2
  have hWs : s.WarmedH U.vm := State.WarmedH.trans hW0 hW
  have hcl : s.vm.findClass cls = some ce.cls := by
    have h9 := hO.cls
    rw [hvm] at h9
    exact h9
  have hall : s.sameButNew ({ U with vm := s.vm } : State) locs mc ms := by
    subst hA
    obtain ⟨e1, e2⟩ := hsame
    rw [State.setFrames_setFrames] at e1
    have h2 : (T.setVm s.vm).sameButNew ({ U with vm := s.vm } : State) [] (0 + 1) (0 + 6) := ⟨e1, e2⟩
    have h3 := X.same.trans h2
    rw [List.append_nil] at h3
    exact h3.mono hc hs
  refine ⟨U, ?_, .threw T.heap.size, hrun, hend, Or.inr ⟨T.heap.size, rfl, cls, ce, locs, hx U hWs.alike f1 (fun q hq => f2 q hq (fun z hz => nomatch hz)), hce, hO.vm, hcl, hWs, hall, hf⟩⟩
  refine st1 _ ?_
  show Steps p.tables e below (T1.setTop { method := m, pc := pc + 3, locals := ls, stack := .ref T.heap.size :: rest, locked := none }) _
  jvm_step X₁.here [X₁.here.top, hexec, d3', Value.category]
  exact hsteps
/-- 'throw new E("text")': new; dup; ldc; invokespecial; athrow -/
theorem vx_throwS {cc : ByteArray} {pc : Nat} (hexec : p.tables.exec = Jvm.exec) (hb : c.code = cc) (hl : l.stackTraces = false) {own cls text : String} {names : List String} {ik is ic mc ms sa : Nat} {A : Nat → Prop}
    (hown : s.vm.findClass own = some m.cls) (hcls : Bundle.fit cls = true) (hnames : ∀ n ∈ names, Bundle.fit n = true)
    (hk : (Cond.classLink own ik cls).before args s = true) (hini : (Cond.initialized cls).before args s = true) (hstr : vk_R own is text sa s) (hat : ∀ w ∈ vx_atS own ic cls names, w.before args s = true)
    (hgood : ∀ w ∈ Cond.classLink own ik cls :: Cond.initialized cls :: vx_atS own ic cls names, vx_ot w = true)
    (hU : vx_Zq Bundle.tN "UNASSIGNED_STACK" Bundle.steD A s s.heap) (hN : vx_Zq Bundle.tN "SUPPRESSED_SENTINEL" Bundle.listD A s s.heap) (hS : va_S A s.heap H locs) (hsize : ls.size = c.maxLocals)
    (d0 : decode cc pc = .ok (.new ik, 3)) (d3 : decode cc (pc + 3) = .ok (.dup, 1)) (d4 : decode cc (pc + 4) = .ok (.ldc is, 2)) (d6 : decode cc (pc + 6) = .ok (.invokespecial ic, 3)) (d9 : decode cc (pc + 9) = .ok (.athrow, 1))
    (hout : ∀ x ∈ c.exceptionTable.toList, covers x (pc + 9) = false)
    (hRframes : names.length + 3 < R.frames) (hRlocals : (rest.map fun v => v.category).sum + (13 * (names.length + 1) + 43) ≤ R.locals) (hRcells : cells + 1 ≤ R.cells) (hRslots : slots + 6 ≤ R.slots) (hlocks : meth.locks = false)
    (hx : ∀ t : State, s.vm.Alike t.vm → H.size ≤ t.heap.size → (∀ q : Nat, q < H.size → t.heap[q]? = H[q]?) → XC cls s t)
    (hf : ∀ z ∈ locs, free z.base) (hc : cells + 1 ≤ mc) (hs : slots + 6 ≤ ms) :
    W p l e R s m args below meth c H locs cells slots (vx_MQ below Qc XC args s mc ms free) (F0 m pc ls rest) := by
  intro T hT X
  have htr : e.platform.stackTraces = false := (show e.platform.stackTraces = l.stackTraces by rw [X.admits.platform]).trans hl
  have Y := vx_rebase X (R' := { frames := R.frames, locals := R.locals, cells := 1, slots := 6 }) (Nat.le_refl _) (Nat.le_refl _) hRcells hRslots
  obtain ⟨s', hA⟩ : ∃ z, z = (T.setVm s.vm).setFrames (.invoking m args :: below) := ⟨_, rfl⟩
  rw [← hA] at Y
  have hvm : s'.vm = s.vm := by rw [hA]; rfl
  have hhp : s'.heap = H := by rw [hA]; exact hT
  have hW0 : s.WarmedH s'.vm := by rw [hvm]; exact State.WarmedH.refl s
  have hat' : ∀ w ∈ vx_atS own ic cls names, w.before args s' = true := fun w hw => vx_ot_at hW0 hvm.symm (hgood w (List.mem_cons_of_mem _ (List.mem_cons_of_mem _ hw))) (hat w hw)
  have hk' : (Cond.classLink own ik cls).before args s' = true := vx_ot_at hW0 hvm.symm (hgood _ List.mem_cons_self) hk
  have hini' : (Cond.initialized cls).before args s' = true := vx_ot_at hW0 hvm.symm (hgood _ (List.mem_cons_of_mem _ List.mem_cons_self)) hini
  have hU' : vx_Zq Bundle.tN "UNASSIGNED_STACK" Bundle.steD A s' s'.heap := by rw [hhp]; exact vx_Zq.moved hW0.alike (hU.kept hS.2.1)
  have hN' : vx_Zq Bundle.tN "SUPPRESSED_SENTINEL" Bundle.listD A s' s'.heap := by rw [hhp]; exact vx_Zq.moved hW0.alike (hN.kept hS.2.1)
  have h : ∀ w ∈ Bundle.ownAtoms own ic cls names, w.before args s' = true := vx_own hat' (vx_isRefq hU'.1) (vx_isRefq hN'.1) hU'.2.word hN'.2.word
  have hown' : s'.vm.findClass own = some m.cls := by rw [hvm]; exact hown
  have hins : (Cond.instantiable cls 6).before args s' = true := h _ (by simp [Bundle.ownAtoms])
  obtain ⟨vm₁, cX, kX, hfX, hkX, -, -, X₁, st1⟩ := Y.newCold hexec (own := own) (C := cls) (index := ik) (n := 6) hown' hk' hins hini'
    (g := F0 m pc ls rest) rfl (by rw [hb]; exact d0) (Nat.le_refl _) (Nat.le_refl _)
  generalize hT1 : (T.setVm vm₁).pushCell { cls := cX, slots := kX.instanceTypes.map defaultValue, vm := .none } = T1 at X₁ st1
  have hcat : (Value.ref T.heap.size).category = 1 := rfl
  have hcellA : T1.heap[T.heap.size]? = some (freshCell cX kX) := by rw [← hT1]; exact State.heap_pushCell_size _ _
  have d3' : decode c.code (pc + 3) = .ok (.dup, 1) := by rw [hb]; exact d3
  have d4' : decode c.code (pc + 4) = .ok (.ldc is, 2) := by rw [hb]; exact d4
  have hstr' : vk_R own is text sa s' := vk_R.warm hW0 hstr
  obtain ⟨U, hsteps, hrun, hend, hW, hsame, ce, hce, hO⟩ := X₁.ctorThrowS hexec htr (own := own) (cls := cls) (names := names) (ic := ic) hown' hcls hnames h (fun x hx => nomatch hx) hfX hkX hcellA (by rw [hhp, hT]; exact Nat.le_refl _) (msg := .ref sa) rfl
    (g := { method := m, pc := pc + 6, locals := ls, stack := .ref sa :: .ref T.heap.size :: .ref T.heap.size :: rest, locked := none }) rfl hsize rfl rfl (rest := rest) rfl
    (by rw [hb]; exact d6) (by rw [hb]; exact d9) hout hRframes (by simp only [List.map_cons, List.sum_cons, hcat]; omega) hlocks
  obtain ⟨f1, f2⟩ := vx_frame hsame
  rw [hhp] at f1 f2
  have hWs : s.WarmedH U.vm := State.WarmedH.trans hW0 hW
  have hcl : s.vm.findClass cls = some ce.cls := by
    have h9 := hO.cls
    rw [hvm] at h9
    exact h9
  have hall : s.sameButNew ({ U with vm := s.vm } : State) locs mc ms := by
    subst hA
    obtain ⟨e1, e2⟩ := hsame
    rw [State.setFrames_setFrames] at e1
    have h2 : (T.setVm s.vm).sameButNew ({ U with vm := s.vm } : State) [] (0 + 1) (0 + 6) := ⟨e1, e2⟩
    have h3 := X.same.trans h2
    rw [List.append_nil] at h3
    exact h3.mono hc hs
  refine ⟨U, ?_, .threw T.heap.size, hrun, hend, Or.inr ⟨T.heap.size, rfl, cls, ce, locs, hx U hWs.alike f1 (fun q hq => f2 q hq (fun z hz => nomatch hz)), hce, hO.vm, hcl, hWs, hall, hf⟩⟩
  refine st1 _ ?_
  show Steps p.tables e below (T1.setTop { method := m, pc := pc + 3, locals := ls, stack := .ref T.heap.size :: rest, locked := none }) _
  jvm_step X₁.here [X₁.here.top, hexec, d3', Value.category]
  exact X₁.ldcString hexec (own := own) (text := text) (index := is) (a := sa) hown' hstr'.1 hstr'.2
    (g := { method := m, pc := pc + 4, locals := ls, stack := .ref T.heap.size :: .ref T.heap.size :: rest, locked := none }) rfl d4' _ hsteps
/-- 'throw new E("text")', the text by a wide index -/
theorem vx_throwSW {cc : ByteArray} {pc : Nat} (hexec : p.tables.exec = Jvm.exec) (hb : c.code = cc) (hl : l.stackTraces = false) {own cls text : String} {names : List String} {ik is ic mc ms sa : Nat} {A : Nat → Prop}
    (hown : s.vm.findClass own = some m.cls) (hcls : Bundle.fit cls = true) (hnames : ∀ n ∈ names, Bundle.fit n = true)
    (hk : (Cond.classLink own ik cls).before args s = true) (hini : (Cond.initialized cls).before args s = true) (hstr : vk_R own is text sa s) (hat : ∀ w ∈ vx_atS own ic cls names, w.before args s = true)
    (hgood : ∀ w ∈ Cond.classLink own ik cls :: Cond.initialized cls :: vx_atS own ic cls names, vx_ot w = true)
    (hU : vx_Zq Bundle.tN "UNASSIGNED_STACK" Bundle.steD A s s.heap) (hN : vx_Zq Bundle.tN "SUPPRESSED_SENTINEL" Bundle.listD A s s.heap) (hS : va_S A s.heap H locs) (hsize : ls.size = c.maxLocals)
    (d0 : decode cc pc = .ok (.new ik, 3)) (d3 : decode cc (pc + 3) = .ok (.dup, 1)) (d4 : decode cc (pc + 4) = .ok (.ldc_w is, 3)) (d7 : decode cc (pc + 7) = .ok (.invokespecial ic, 3)) (d10 : decode cc (pc + 10) = .ok (.athrow, 1))
    (hout : ∀ x ∈ c.exceptionTable.toList, covers x (pc + 10) = false)
    (hRframes : names.length + 3 < R.frames) (hRlocals : (rest.map fun v => v.category).sum + (13 * (names.length + 1) + 43) ≤ R.locals) (hRcells : cells + 1 ≤ R.cells) (hRslots : slots + 6 ≤ R.slots) (hlocks : meth.locks = false)
    (hx : ∀ t : State, s.vm.Alike t.vm → H.size ≤ t.heap.size → (∀ q : Nat, q < H.size → t.heap[q]? = H[q]?) → XC cls s t)
    (hf : ∀ z ∈ locs, free z.base) (hc : cells + 1 ≤ mc) (hs : slots + 6 ≤ ms) :
    W p l e R s m args below meth c H locs cells slots (vx_MQ below Qc XC args s mc ms free) (F0 m pc ls rest) := by
  intro T hT X
  have htr : e.platform.stackTraces = false := (show e.platform.stackTraces = l.stackTraces by rw [X.admits.platform]).trans hl
  have Y := vx_rebase X (R' := { frames := R.frames, locals := R.locals, cells := 1, slots := 6 }) (Nat.le_refl _) (Nat.le_refl _) hRcells hRslots
  obtain ⟨s', hA⟩ : ∃ z, z = (T.setVm s.vm).setFrames (.invoking m args :: below) := ⟨_, rfl⟩
  rw [← hA] at Y
  have hvm : s'.vm = s.vm := by rw [hA]; rfl
  have hhp : s'.heap = H := by rw [hA]; exact hT
  have hW0 : s.WarmedH s'.vm := by rw [hvm]; exact State.WarmedH.refl s
  have hat' : ∀ w ∈ vx_atS own ic cls names, w.before args s' = true := fun w hw => vx_ot_at hW0 hvm.symm (hgood w (List.mem_cons_of_mem _ (List.mem_cons_of_mem _ hw))) (hat w hw)
  have hk' : (Cond.classLink own ik cls).before args s' = true := vx_ot_at hW0 hvm.symm (hgood _ List.mem_cons_self) hk
  have hini' : (Cond.initialized cls).before args s' = true := vx_ot_at hW0 hvm.symm (hgood _ (List.mem_cons_of_mem _ List.mem_cons_self)) hini
  have hU' : vx_Zq Bundle.tN "UNASSIGNED_STACK" Bundle.steD A s' s'.heap := by rw [hhp]; exact vx_Zq.moved hW0.alike (hU.kept hS.2.1)
  have hN' : vx_Zq Bundle.tN "SUPPRESSED_SENTINEL" Bundle.listD A s' s'.heap := by rw [hhp]; exact vx_Zq.moved hW0.alike (hN.kept hS.2.1)
  have h : ∀ w ∈ Bundle.ownAtoms own ic cls names, w.before args s' = true := vx_own hat' (vx_isRefq hU'.1) (vx_isRefq hN'.1) hU'.2.word hN'.2.word
  have hown' : s'.vm.findClass own = some m.cls := by rw [hvm]; exact hown
  have hins : (Cond.instantiable cls 6).before args s' = true := h _ (by simp [Bundle.ownAtoms])
  obtain ⟨vm₁, cX, kX, hfX, hkX, -, -, X₁, st1⟩ := Y.newCold hexec (own := own) (C := cls) (index := ik) (n := 6) hown' hk' hins hini'
    (g := F0 m pc ls rest) rfl (by rw [hb]; exact d0) (Nat.le_refl _) (Nat.le_refl _)
  generalize hT1 : (T.setVm vm₁).pushCell { cls := cX, slots := kX.instanceTypes.map defaultValue, vm := .none } = T1 at X₁ st1
  have hcat : (Value.ref T.heap.size).category = 1 := rfl
  have hcellA : T1.heap[T.heap.size]? = some (freshCell cX kX) := by rw [← hT1]; exact State.heap_pushCell_size _ _
  have d3' : decode c.code (pc + 3) = .ok (.dup, 1) := by rw [hb]; exact d3
  have d4' : decode c.code (pc + 4) = .ok (.ldc_w is, 3) := by rw [hb]; exact d4
  have hstr' : vk_R own is text sa s' := vk_R.warm hW0 hstr
  obtain ⟨U, hsteps, hrun, hend, hW, hsame, ce, hce, hO⟩ := X₁.ctorThrowS hexec htr (own := own) (cls := cls) (names := names) (ic := ic) hown' hcls hnames h (fun x hx => nomatch hx) hfX hkX hcellA (by rw [hhp, hT]; exact Nat.le_refl _) (msg := .ref sa) rfl
    (g := { method := m, pc := pc + 7, locals := ls, stack := .ref sa :: .ref T.heap.size :: .ref T.heap.size :: rest, locked := none }) rfl hsize rfl rfl (rest := rest) rfl
    (by rw [hb]; exact d7) (by rw [hb]; exact d10) hout hRframes (by simp only [List.map_cons, List.sum_cons, hcat]; omega) hlocks
  obtain ⟨f1, f2⟩ := vx_frame hsame
  rw [hhp] at f1 f2
  have hWs : s.WarmedH U.vm := State.WarmedH.trans hW0 hW
  have hcl : s.vm.findClass cls = some ce.cls := by
    have h9 := hO.cls
    rw [hvm] at h9
    exact h9
  have hall : s.sameButNew ({ U with vm := s.vm } : State) locs mc ms := by
    subst hA
    obtain ⟨e1, e2⟩ := hsame
    rw [State.setFrames_setFrames] at e1
    have h2 : (T.setVm s.vm).sameButNew ({ U with vm := s.vm } : State) [] (0 + 1) (0 + 6) := ⟨e1, e2⟩
    have h3 := X.same.trans h2
    rw [List.append_nil] at h3
    exact h3.mono hc hs
  refine ⟨U, ?_, .threw T.heap.size, hrun, hend, Or.inr ⟨T.heap.size, rfl, cls, ce, locs, hx U hWs.alike f1 (fun q hq => f2 q hq (fun z hz => nomatch hz)), hce, hO.vm, hcl, hWs, hall, hf⟩⟩
  refine st1 _ ?_
  show Steps p.tables e below (T1.setTop { method := m, pc := pc + 3, locals := ls, stack := .ref T.heap.size :: rest, locked := none }) _
  jvm_step X₁.here [X₁.here.top, hexec, d3', Value.category]
  exact X₁.ldcStringW hexec (own := own) (text := text) (index := is) (a := sa) hown' hstr'.1 hstr'.2
    (g := { method := m, pc := pc + 4, locals := ls, stack := .ref T.heap.size :: .ref T.heap.size :: rest, locked := none }) rfl d4' _ hsteps
end Ends
section Bodies
variable {l : Launch}
theorem vx_ofW {y : MethodName} {ws ws' : List Cond} {rm : Room} {Pc : Array Value → State → Prop} {Qc : Array Value → State → Outcome → State → Prop} {XC : String → State → State → Prop} {mc ms : Nat} {free : Addr → Prop} {cc : ByteArray} {maxL : Nat} {ret : Option FieldType}
    (hy : plainName y.cls = true) (hw : ws = Cond.code y cc maxL ret :: ws')
    (body : ∀ p e s m args below meth c s₁, BodyLoose p l y (headSpec ws rm) cc maxL ret e s m args below meth c s₁ → c.maxLocals = maxL → (∀ x ∈ c.exceptionTable.toList, False) → Pc args s →
      W p l e (headSpec ws rm).room s m args below meth c s.heap [] 0 0 (vx_MQ below Qc XC args s mc ms free) (entryFrame m args maxL)) : vx_Met l y ws rm Pc Qc XC mc ms free := by
  refine MetFree.of_bodyS (code := cc) (maxLocals := maxL) (ret := ret) hy ?_ ?_
  · intro args s m h hn
    obtain ⟨meth, c, h1, h2, h3, h4, h5, h6, -, -⟩ := Cond.code_spec hn (atoms_spec (ws := ws) h _ (by rw [hw]; exact List.mem_cons_self))
    exact ⟨meth, c, h1, h2, h3, h4, h5, h6⟩
  · intro p e s m args below meth c s₁ B hml hP _
    have hh0 : s₁.heap = s.heap := by rw [B.state]; rfl
    have ht : ∀ x ∈ c.exceptionTable.toList, False := by
      obtain ⟨meth9, c9, h1, h2, -, -, -, -, h7, -⟩ := Cond.code_spec B.named (atoms_spec (ws := ws) B.pre _ (by rw [hw]; exact List.mem_cons_self))
      cases Option.some.inj (h1.symm.trans B.method)
      cases Option.some.inj (h2.symm.trans (Stand.of_body B).code)
      intro x hx
      rw [Array.isEmpty_iff.mp h7] at hx
      cases hx
    obtain ⟨t, a1, o, b1, b2, b3⟩ := body p e s m args below meth c s₁ B hml ht hP s₁ hh0 (Stand.of_body B)
    exact ⟨t, o, a1, b1, b2, b3⟩
/-- the table of a body with handlers -/
theorem vx_table {p : Program} {x y : MethodName} {S : Spec} {cc bytes : ByteArray} {maxL maxL' : Nat} {ret ret' : Option FieldType} {e : Env} {s s₁ : State} {m : MethodId} {args : Array Value} {below : List Frame} {meth : Method} {c : Code} {hh : List (Nat × Nat × Nat × Nat)}
    (B : BodyLoose p l y S cc maxL ret e s m args below meth c s₁) (h : (Cond.codeWith y bytes maxL' ret' hh).before args s = true) : c.exceptionTable.toList = tableOf hh := by
  obtain ⟨m9, meth9, c9, hn9, h1, h2, -, -, h6, -⟩ := Cond.codeWith_spec h
  cases Option.some.inj (hn9.symm.trans B.named)
  cases Option.some.inj (h1.symm.trans B.method)
  cases Option.some.inj (h2.symm.trans (Stand.of_body B).code)
  rw [← h6, table_eq]
end Bodies
end VXA
/-! ===== END ===== -/
/-! ===== BEGIN a static call of a method with an exception table ===== -/
section VXS
variable {p : Program} {l : Launch} {e : Env} {R : Room} {s : State} {m : MethodId} {args : Array Value} {below : List Frame} {meth : Method} {c : Code} {T : State} {H : Heap} {locs : List Loc} {cells slots : Nat}
abbrev vx_CSW (R : Room) (s : State) (args : Array Value) (own : String) (index : Nat) (y : MethodName) (bytes : ByteArray) (maxL : Nat) (ret : Option FieldType) (hh : List (Nat × Nat × Nat × Nat)) (ws : List Cond) (rm : Room) (mc ms n : Nat) : Prop :=
  (rm.cells = mc ∧ rm.slots = ms ∧ rm.frames + 1 ≤ R.frames ∧ 8 + (maxL + 11) + rm.locals ≤ R.locals ∧ (∀ w ∈ ws, ∀ (a' : Array Value) (U : State), s.WarmedH U.vm → w.before a' U = true) ∧ Cond.codeWith y bytes maxL ret hh ∈ ws) ∧
  (Cond.codeWith y bytes maxL ret hh).before args s = true ∧ (Cond.initialized y.cls).before args s = true ∧ (y.cls ≠ "java/lang/invoke/MethodHandle" ∧ y.cls ≠ "java/lang/invoke/VarHandle") ∧
  (∀ sig, parseMethodDescriptor y.desc = some sig → n = sig.parameters.length) ∧ (Cond.methodLink own index y).before args s = true ∧ (Cond.static y).before args s = true
theorem vx_cwSW {own : String} {index maxL mc ms : Nat} {y : MethodName} {bytes : ByteArray} {ret : Option FieldType} {hh : List (Nat × Nat × Nat × Nat)} {Ts ws ws' : List Cond} {rm : Room} (n : Nat) (ht : ∀ w ∈ Ts, w.before args s = true) (hT : GoodIn Ts (va_wsS own index y ws)) (hw : ws = Cond.codeWith y bytes maxL ret hh :: ws') (hrc : rm.cells = mc) (hrs : rm.slots = ms)
    (hd : y.cls ≠ "java/lang/invoke/MethodHandle" ∧ y.cls ≠ "java/lang/invoke/VarHandle" ∧ (parseMethodDescriptor y.desc).map (fun d => d.parameters.length) = some n) (hR : rm.frames + 1 ≤ R.frames ∧ 8 + (maxL + 11) + rm.locals ≤ R.locals) :
    vx_CSW R s args own index y bytes maxL ret hh ws rm mc ms n := by
  have ok : ∀ w ∈ va_wsS own index y ws, w.before args s = true := fun w h => ht w (hT w h).1
  have hG : GoodIn Ts ws := fun w h => hT w (by unfold va_wsS; exact List.mem_append_right _ h)
  have hc : Cond.codeWith y bytes maxL ret hh ∈ ws := by rw [hw]; exact List.mem_cons_self
  refine ⟨⟨hrc, hrs, hR.1, hR.2, pay_in ht hG, hc⟩, ht _ (hG _ hc).1, ok _ (by simp [va_wsS]), ⟨hd.1, hd.2.1⟩, fun sig h => ?_, ok _ (by simp [va_wsS]), ok _ (by simp [va_wsS])⟩
  have h2 := hd.2.2
  rw [h] at h2
  exact (Option.some.inj h2).symm
theorem vx_callSW (X : Stand p l e R s m args below meth c T locs cells slots) (hexec : p.tables.exec = Jvm.exec) {own : String} {index : Nat} {y : MethodName} {bytes : ByteArray} {maxL : Nat} {ret : Option FieldType} {hh : List (Nat × Nat × Nat × Nat)}
    (hown : s.vm.findClass own = some m.cls) (hlink : (Cond.methodLink own index y).before args s = true) (hstat : (Cond.static y).before args s = true) (hinit : (Cond.initialized y.cls).before args s = true)
    (hcode : (Cond.codeWith y bytes maxL ret hh).before args s = true) (hy : y.cls ≠ "java/lang/invoke/MethodHandle" ∧ y.cls ≠ "java/lang/invoke/VarHandle")
    {W9 : Nat} {Pre : Pt → Array Value → Prop} {Post : Pt → Array Value → Option Value → Pt → Prop} (hK : Back l R p e below s args y 3 W9 Pre Post)
    {g : JFrame} (hg : g.method = m) (hsize : g.locals.size = c.maxLocals) {argsL rest : List Value} (hlen : ∀ sig, parseMethodDescriptor y.desc = some sig → argsL.length = sig.parameters.length)
    (hstack : g.stack = argsL.reverse ++ rest) (hW : 2 * g.monitorRoom + (rest.map fun v => v.category).sum ≤ W9) (hdg : decode c.code g.pc = .ok (.invokestatic index, 3))
    (hpre : ∀ vm₁, s.WarmedH vm₁ → Pre ⟨T.setVm vm₁, locs, cells, slots⟩ argsL.toArray) :
    ∃ (v : Option Value) (vm₁ : Vm) (B : Pt), s.WarmedH vm₁ ∧ Stand p l e R s m args below meth c B.U B.locs B.cells B.slots ∧ Post ⟨T.setVm vm₁, locs, cells, slots⟩ argsL.toArray v B ∧
      ∀ target, Steps p.tables e below (B.U.setTop { g with pc := g.pc + 3, stack := v.toList ++ rest }) target → Steps p.tables e below (T.setTop g) target := by
  obtain ⟨mk, methM, cM, hnamed, hmethM, -, -, -, -, -, -, hsigM⟩ := Cond.codeWith_spec hcode
  have hstatic : methM.isStatic = true := Cond.static_spec hnamed hmethM hstat
  obtain ⟨kP, hkP, -⟩ := className_of_methodNamed hnamed
  have hinitP : kP.init = .initialized := Cond.initialized_spec (findClass_of_methodNamed hnamed) hkP hinit
  obtain ⟨vm₁, X₁, hstep₁⟩ := X.invokestatic hexec hown hlink hnamed hmethM hstatic hkP hinitP hy (g := g) hg (argsL := argsL) (rest := rest) (hlen _ hsigM) hstack hdg
  obtain ⟨v, B, X', hpost, hsteps⟩ := hK m meth c ⟨T.setVm vm₁, locs, cells, slots⟩ { g with stack := rest } (.invokestatic index) mk argsL.toArray X₁ hg hsize hdg hW (X₁.named hnamed) (hpre vm₁ X₁.warmed)
  exact ⟨v, vm₁, B, X₁.warmed, X', hpost, fun target h => hstep₁ _ fun acts => by rw [doInvoke_state]; exact hsteps.trans h⟩
theorem vx_runSW {y : MethodName} {bytes cc : ByteArray} {maxL nL mc ms n index : Nat} {ret : Option FieldType} {hh : List (Nat × Nat × Nat × Nat)} {ws : List Cond} {rm : Room} {Pc : Array Value → State → Prop} {Qc : Array Value → State → Outcome → State → Prop} {free : Addr → Prop} {Ts : List Cond} {own : String} {As rest : List Value} {g : JFrame}
    (S : CallFix p m c cc nL s args Ts own) (hM : Met l y ws rm Pc Qc mc ms free) (cw : vx_CSW R s args own index y bytes maxL ret hh ws rm mc ms n) (hp : PreS s H Pc As)
    (hg : g.method = m) (hn : As.length = n) (hsize : g.locals.size = nL) (hstack : g.stack = As.reverse ++ rest) (hW : 2 * g.monitorRoom + (rest.map fun v => v.category).sum ≤ 8) (hdg : decode cc g.pc = .ok (.invokestatic index, 3)) (hf : cells + mc ≤ R.cells ∧ slots + ms ≤ R.slots) :
    va_Run p l e R s m args below meth c H locs cells slots mc ms g rest (Qc As.toArray) (free) := by
  obtain ⟨⟨hrc, hrs, hfr, hlo, hws, hcw⟩, hcode, hini, hy, hlen, hl, hstt⟩ := cw
  have hK : Back l R p e below s args y 3 8 (PreOf R mc ms Pc) (PostOf Qc mc ms free) := va_backW (hh := hh) (bytes := bytes) (maxL := maxL) (ret := ret) hM hp.1 hrc hrs hfr hlo hws hcw (fun a' U hW => word_at hW (Or.inl (by first | rfl | simp [Cond.onTables, Cond.keeps, Cond.steady])) hini)
  obtain ⟨hx, hb, hml, ho, -⟩ := S
  intro T hT X
  obtain ⟨v, vm₁, ⟨U', l2, c2, s2⟩, hW₁, X', ⟨g', mk, t, L, e1, e2, hq, h1, hL, h2, h3⟩, st⟩ := vx_callSW X hx (hh := hh) (bytes := bytes) (maxL := maxL) (ret := ret) ho hl hstt hini hcode hy hK hg (hsize.trans hml.symm) (argsL := As) (rest := rest) (fun sig h => hn.trans (hlen sig h)) hstack hW (by rw [hb]; exact hdg)
    (fun vm₁ hW₁ => ⟨hf.1, hf.2, hp.2 (T.setVm vm₁) hT hW₁⟩)
  dsimp only [Pt.U, Pt.locs, Pt.cells, Pt.slots] at X' e1 e2 h1 h2 h3 st
  subst h1; subst h2; subst h3
  exact ⟨v, (T.setVm vm₁).calling g' mk As.toArray, t, U', L, hT, X', hL, e1, e2, hq, st⟩
/-- not caught here, past rows that name other classes: it goes on to the caller -/
theorem vx_outP {p : Program} {l : Launch} {e : Env} {R : Room} {s : State} {m : MethodId} {args : Array Value} {below : List Frame} {meth : Method} {c : Code} {H : Heap} {locs : List Loc} {cells slots : Nat} {free : Addr → Prop} {ls : Array Slot} {rest : List Value} {Qc : Array Value → State → Outcome → State → Prop} {XC : String → State → State → Prop}
    {pc : Nat} {own E : String} {ce : Cell} {q : Addr} {mc ms : Nat} (hown : s.vm.findClass own = some m.cls) (hlocks : meth.locks = false)
    (hpass : ∀ z ∈ c.exceptionTable.toList, covers z pc = false ∨ (z.catchType ≠ 0 ∧ ∃ nm : String, (Cond.classLink own z.catchType nm).before args s = true ∧ va_Nc E nm s)) (hcell : H[q]? = some ce) (hv : ce.vm = .none) (hcl : s.vm.findClass E = some ce.cls)
    (hx : ∀ t : State, t.heap = H → s.vm.Alike t.vm → XC E s t) (hf : ∀ z ∈ locs, free z.base) (hc : cells ≤ mc) (hs : slots ≤ ms) :
    vx_W p l e R s m args below meth c H locs cells slots (vx_MQ below Qc XC args s mc ms free) (F0 m pc ls rest) q := by
  intro T hT X
  have hpl : e.platform.magicAccessors = ({} : Platform).magicAccessors := by rw [X.admits.platform]
  obtain ⟨vm', hW', X', st⟩ := X.outThrough hlocks q (g := F0 m pc ls rest) rfl rfl rfl (cell := ce) (by rw [hT]; exact hcell) (by rw [hv]; rfl)
    (by obtain ⟨k9, h9, -⟩ := Vm.findClass_spec hcl; exact ⟨k9, h9⟩) (fun z hz => by
      rcases hpass z hz with h | ⟨hz0, nm, hl1, hn1⟩
      · exact Or.inl h
      · obtain ⟨c6, hc6, hcl6⟩ := Cond.classLink_spec hown hl1 e.platform hpl
        obtain ⟨a8, b8, h1, h2, h3⟩ := hn1
        cases Option.some.inj (h1.symm.trans hcl)
        cases Option.some.inj (h2.symm.trans hc6)
        exact Or.inr ⟨hz0, _, hcl6, h3⟩)
  obtain ⟨g₀, hfr⟩ := X'.frames_eq
  have hcell9 : ((T.setVm vm').setFrames (.throwing q :: below)).heap[q]? = some ce := by
    show T.heap[q]? = some ce
    rw [hT]; exact hcell
  have hend : Ended ((T.setVm vm').setFrames (.throwing q :: below)) below (.threw q) := State.frames_setFrames _ (State.cur_lt_of_frames hfr)
  refine ⟨(T.setVm vm').setFrames (.throwing q :: below), ?_, .threw q, X'.here.running, hend, Or.inr ⟨q, rfl, E, ce, locs, hx _ hT (X'.ends _).1.alike, hcell9, hv, hcl, (X'.ends _).1, (X'.ends _).2.mono hc hs, hf⟩⟩
  rw [X.pushThrowing_eq]
  exact st
/-- a thing of a world lies in the heap -/
theorem vx_lt {D : va_G} {cl : List vw_C} {ws : va_W} {H1 : Heap} (h : va_P D cl ws H1) {k : Nat} {q : Nat × va_E} (hk : ws[k]? = some q) : q.1 < H1.size := (h k q hk).lt
end VXS
/-! ===== END ===== -/
/-! ===== BEGIN methods with a table of their own: called by a name, returning or throwing ===== -/
section VXH
/-! vx_backW, vx_callVX, vx_callSX, vx_callVW, vx_runVW, vx_runVX, vx_runSX, vx_ofWH follow the same proofs as their sisters above (Free/Laws.lean, Shelf42/LK1.lean); vx_outP calls Shelf42/NT130.lean (outThrough). -/
section
variable {l : Launch} {R : Room} {p : Program} {e : Env} {below : List Frame} {s : State} {sargs : Array Value} {y : MethodName} {len W9 : Nat}
theorem vx_backW {ws : List Cond} {rm : Room} {Pc : Array Value → State → Prop} {Qc : Array Value → State → Outcome → State → Prop} {XC : String → State → State → Prop} {mc ms : Nat} {free : Addr → Prop} {bytes : ByteArray} {maxL : Nat} {ret : Option FieldType} {hh : List (Nat × Nat × Nat × Nat)}
    (hM : vx_Met l y ws rm Pc Qc XC mc ms free) (hblind : FrameBlind Pc) (hrc : rm.cells = mc) (hrs : rm.slots = ms)
    (hframes : rm.frames + 1 ≤ R.frames) (hlocals : W9 + (maxL + 11) + rm.locals ≤ R.locals)
    (hws : ∀ w ∈ ws, ∀ a' U, s.WarmedH U.vm → w.before a' U = true) (hcode : Cond.codeWith y bytes maxL ret hh ∈ ws) (hinit : ∀ a' U, s.WarmedH U.vm → (Cond.initialized y.cls).before a' U = true) :
    vx_Back l R p e below s sargs y len W9 (PreOf R mc ms Pc) (PostOf Qc mc ms free) (vx_Post XC mc ms free) := by
  intro m meth c A g ig mk a X hg hsize hdg hW hn hp
  have h1 : (headSpec ws rm).pre.before a A.U = true := atoms_intro fun w hw => hws w hw _ _ X.warmed
  have h2 : (Cond.codeWith y bytes maxL ret hh).before a A.U = true := hws _ hcode _ _ X.warmed
  have h3 : (Cond.initialized y.cls).before a A.U = true := hinit _ _ X.warmed
  have h4 : A.cells + (headSpec ws rm).room.cells ≤ R.cells := by rw [show (headSpec ws rm).room.cells = mc from hrc]; exact hp.1
  have h5 : A.slots + (headSpec ws rm).room.slots ≤ R.slots := by rw [show (headSpec ws rm).room.slots = ms from hrs]; exact hp.2.1
  have hPc : Pc a (A.U.calling g mk a) := hblind _ _ _ _ hp.2.2
  obtain ⟨U, Ls, c0, s0⟩ := A
  dsimp only [Pt.U, Pt.locs, Pt.cells, Pt.slots] at h1 h2 h3 h4 h5 X hn hPc ⊢
  obtain ⟨m9, methY, cY, hn9, hmY, hcY, -, hlY, -⟩ := Cond.codeWith_spec h2
  cases Option.some.inj (hn9.symm.trans hn)
  obtain ⟨kY, hkY, -⟩ := className_of_methodNamed hn
  have hinitY : kY.init = .initialized := Cond.initialized_spec (findClass_of_methodNamed hn) hkY h3
  have h : At U g.method c below := by rw [hg]; exact X.here
  have hlocals9 : W9 + (maxL + 11) + (headSpec ws rm).room.locals ≤ R.locals := hlocals
  have happ : (headSpec ws rm).appliesLoose y e.platform (U.calling g mk a) = true :=
    Spec.appliesLoose_calling (g := g) h hdg hn hkY hinitY
      (X.room_calling (g := g) (R' := (headSpec ws rm).room) hsize hmY hcY hframes (by rw [hlY]; omega) h4 h5) h1
  obtain ⟨mid, hmid⟩ := h.above
  have hfr : (U.setTop g).frames = (.java g :: mid) ++ below := by rw [State.frames_setTop' g h.top, hmid]; rfl
  obtain ⟨o, s₂, hsteps, -, hend, hq⟩ := Steps.callFree hM p X.admits X.cas X.clock (acts := []) hfr happ hPc trivial
  have hq' : vx_Q Qc XC mc ms free a (U.calling g mk a) o s₂ := hq
  rw [State.frames_setTop' g h.top] at hend
  obtain ⟨g₀, hg0⟩ := Option.isSome_iff_exists.mp h.top
  obtain ⟨r, hr⟩ := State.topJava?_eq_some.mp hg0
  have hr' : (({ U with heap := s₂.heap, slotsUsed := s₂.slotsUsed } : State).setVm s₂.vm).frames = .java g₀ :: r := hr
  rcases hq' with ⟨hqc, L, hfe, hL⟩ | ⟨q, rfl, E, ce, L, hx, hce, hcv, hcl, hW₂, hsm, hL⟩
  · obtain ⟨⟨v, rfl⟩, hW₂, e2, q2, q3, q4, q5, q6⟩ := id hfe
    have e3 : s₂ = ({ (U.calling g mk a).setFrames s₂.frames with heap := s₂.heap, slotsUsed := s₂.slotsUsed } : State).setVm s₂.vm := by
      have : s₂ = ({ s₂ with vm := (U.calling g mk a).vm } : State).setVm s₂.vm := rfl
      rw [e2] at this
      exact this
    obtain ⟨c₂, i₂, len₂, hc₂, hd₂, hf₂⟩ := hend
    have hW' : U.WarmedH s₂.vm := hW₂
    have hcc : c₂ = c := by
      have h1 : s₂.code? g.method = U.code? g.method := by
        rw [State.code?_eq, State.code?_eq, hW'.alike.method?]
      exact Option.some.inj (hc₂.symm.trans (h1.trans h.code))
    subst hcc
    have hlen : len₂ = len := by rw [hdg] at hd₂; cases hd₂; rfl
    subst hlen
    have hs₂ : s₂ = (({ U with heap := s₂.heap, slotsUsed := s₂.slotsUsed } : State).setVm s₂.vm).setTop { g with pc := g.pc + len₂, stack := v.toList ++ g.stack } := by
      refine e3.trans ?_
      rw [hf₂, State.calling_eq h.top, State.setFrames_setFrames, State.setTop_of_frames _ hr', hr]
      rfl
    have hsame : U.sameButNew ({ U with heap := s₂.heap, slotsUsed := s₂.slotsUsed } : State) L mc ms := by
      refine ⟨?_, q2, q3, q4, q5, q6⟩
      obtain ⟨t, ht, -⟩ := State.frames_cons hr
      show ({ U with heap := s₂.heap, slotsUsed := s₂.slotsUsed } : State) = { U.setFrames U.frames with heap := s₂.heap, slotsUsed := s₂.slotsUsed }
      rw [State.setFrames_self ht]
    subst hg
    refine Or.inl ⟨v, ⟨(({ U with heap := s₂.heap, slotsUsed := s₂.slotsUsed } : State).setVm s₂.vm), Ls ++ L, c0 + mc, s0 + ms⟩,
      ⟨X.admits, X.cas, X.clock, X.frames, X.room, X.hears, X.method, X.code, (X.here.setHeapUsed s₂.heap s₂.slotsUsed).setVm hW'.alike, X.tail, State.WarmedH.trans X.warmed hW', X.limits, X.bytes, X.same.trans (hsame.setVm s.vm)⟩,
      ⟨g, mk, s₂, L, rfl, rfl, hqc, rfl, hL, rfl, rfl⟩, ?_⟩
    show Steps p.tables e below _ ((({ U with heap := s₂.heap, slotsUsed := s₂.slotsUsed } : State).setVm s₂.vm).setTop { g with pc := g.pc + len₂, stack := v.toList ++ g.stack })
    rw [← hs₂]
    exact hsteps
  · obtain ⟨e2, q2, q3, q4, q5, q6⟩ := id hsm
    have e3 : s₂ = ({ (U.calling g mk a).setFrames s₂.frames with heap := s₂.heap, slotsUsed := s₂.slotsUsed } : State).setVm s₂.vm := by
      have : s₂ = ({ s₂ with vm := (U.calling g mk a).vm } : State).setVm s₂.vm := rfl
      rw [e2] at this
      exact this
    have hf₂ : s₂.frames = .throwing q :: .java g :: U.frames.tail := hend
    have hW' : U.WarmedH s₂.vm := hW₂
    have hs₂ : s₂ = ((({ U with heap := s₂.heap, slotsUsed := s₂.slotsUsed } : State).setVm s₂.vm).setTop g).pushFrame (.throwing q) := by
      refine e3.trans ?_
      rw [hf₂, State.calling_eq h.top, State.setFrames_setFrames, State.pushFrame, State.frames_setTop _ hr', State.setTop_of_frames _ hr', State.setFrames_setFrames, hr]
      rfl
    have hsame : U.sameButNew ({ U with heap := s₂.heap, slotsUsed := s₂.slotsUsed } : State) L mc ms := by
      refine ⟨?_, q2, q3, q4, q5, q6⟩
      obtain ⟨t, ht, -⟩ := State.frames_cons hr
      show ({ U with heap := s₂.heap, slotsUsed := s₂.slotsUsed } : State) = { U.setFrames U.frames with heap := s₂.heap, slotsUsed := s₂.slotsUsed }
      rw [State.setFrames_self ht]
    subst hg
    refine Or.inr ⟨q, ⟨(({ U with heap := s₂.heap, slotsUsed := s₂.slotsUsed } : State).setVm s₂.vm), Ls ++ L, c0 + mc, s0 + ms⟩,
      ⟨X.admits, X.cas, X.clock, X.frames, X.room, X.hears, X.method, X.code, (X.here.setHeapUsed s₂.heap s₂.slotsUsed).setVm hW'.alike, X.tail, State.WarmedH.trans X.warmed hW', X.limits, X.bytes, X.same.trans (hsame.setVm s.vm)⟩,
      ⟨g, mk, s₂, L, E, ce, rfl, rfl, hx, hce, hcv, hcl, rfl, hL, rfl, rfl⟩, ?_⟩
    show Steps p.tables e below _ (((({ U with heap := s₂.heap, slotsUsed := s₂.slotsUsed } : State).setVm s₂.vm).setTop g).pushFrame (.throwing q))
    rw [← hs₂]
    exact hsteps
end
variable {p : Program} {l : Launch} {e : Env} {R : Room} {s : State} {m : MethodId} {args : Array Value} {below : List Frame} {meth : Method} {c : Code} {T : State} {H : Heap} {locs : List Loc} {cells slots : Nat}
theorem vx_callVX (X : Stand p l e R s m args below meth c T locs cells slots) (hexec : p.tables.exec = Jvm.exec) {own C : String} {index : Nat} {y : MethodName} {bytes : ByteArray} {maxL : Nat} {ret : Option FieldType} {hh : List (Nat × Nat × Nat × Nat)}
    (hown : s.vm.findClass own = some m.cls) (hlink : (Cond.methodLink own index y).before args s = true) (hinst : (Cond.instanceMethod y).before args s = true) (hsel : (Cond.selects C y y).before args s = true)
    (hcode : (Cond.codeWith y bytes maxL ret hh).before args s = true) (hy : y.cls ≠ "java/lang/invoke/MethodHandle" ∧ y.cls ≠ "java/lang/invoke/VarHandle")
    {W9 : Nat} {Pre : Pt → Array Value → Prop} {Post : Pt → Array Value → Option Value → Pt → Prop} {PostX : Pt → Array Value → Addr → Pt → Prop} (hK : vx_Back l R p e below s args y 3 W9 Pre Post PostX)
    {b : Addr} {cellB : Cell} (hcell : T.heap[b]? = some cellB) (hobj : cellB.vm.isStatics = false) (hcls : s.vm.findClass C = some cellB.cls)
    {g : JFrame} (hg : g.method = m) (hsize : g.locals.size = c.maxLocals) {argsL rest : List Value} (hlen : ∀ sig, parseMethodDescriptor y.desc = some sig → argsL.length = sig.parameters.length)
    (hstack : g.stack = argsL.reverse ++ .ref b :: rest) (hW : 2 * g.monitorRoom + (rest.map fun v => v.category).sum ≤ W9) (hdg : decode c.code g.pc = .ok (.invokevirtual index, 3))
    (hpre : ∀ vm₁, s.WarmedH vm₁ → Pre ⟨T.setVm vm₁, locs, cells, slots⟩ (Value.ref b :: argsL).toArray) :
    (∃ (v : Option Value) (vm₁ : Vm) (B : Pt), s.WarmedH vm₁ ∧ Stand p l e R s m args below meth c B.U B.locs B.cells B.slots ∧ Post ⟨T.setVm vm₁, locs, cells, slots⟩ (Value.ref b :: argsL).toArray v B ∧
      ∀ target, Steps p.tables e below (B.U.setTop { g with pc := g.pc + 3, stack := v.toList ++ rest }) target → Steps p.tables e below (T.setTop g) target) ∨
    (∃ (q : Addr) (vm₁ : Vm) (B : Pt), s.WarmedH vm₁ ∧ Stand p l e R s m args below meth c B.U B.locs B.cells B.slots ∧ PostX ⟨T.setVm vm₁, locs, cells, slots⟩ (Value.ref b :: argsL).toArray q B ∧
      Steps p.tables e below (T.setTop g) ((B.U.setTop { g with stack := rest }).pushFrame (.throwing q))) := by
  obtain ⟨mk, methM, hnamed, hmethM, hstM, habM⟩ := Cond.instanceMethod_spec hinst
  obtain ⟨m8, methM', cM, hn8, hmethM', -, -, -, -, -, -, hsigM⟩ := Cond.codeWith_spec hcode
  cases Option.some.inj (hn8.symm.trans hnamed)
  cases hmethM.symm.trans hmethM'
  obtain ⟨c2, r2, m2, q1, q2, q3, q4, kP, hkP, hkPi⟩ := Cond.selects_spec hsel
  cases hcls.symm.trans q1
  cases (State.methodFound?_of_named hnamed hy).symm.trans q2
  cases hnamed.symm.trans q3
  have hselP : selectMethod e.platform s.vm cellB.cls mk = .method mk := by rw [Launch.admits_selectMethod X.admits]; exact q4
  obtain ⟨vm₁, X₁, hstep₁⟩ := X.invokevirtual hexec hown hlink hnamed hmethM hstM hkP hkPi hy (a := b) (cell := cellB) hcell
    (fun z h => by rw [h] at hobj; cases hobj) hselP hmethM habM hkP hkPi (g := g) hg (argsL := argsL) (rest := rest) (hlen _ hsigM) hstack hdg
  rcases hK m meth c ⟨T.setVm vm₁, locs, cells, slots⟩ { g with stack := rest } (.invokevirtual index) mk (Value.ref b :: argsL).toArray X₁ hg hsize hdg hW (X₁.named hnamed) (hpre vm₁ X₁.warmed) with ⟨v, B, X', hpost, hsteps⟩ | ⟨q, B, X', hpost, hsteps⟩
  · exact Or.inl ⟨v, vm₁, B, X₁.warmed, X', hpost, fun target h => hstep₁ _ fun acts => by rw [doInvoke_state]; exact hsteps.trans h⟩
  · exact Or.inr ⟨q, vm₁, B, X₁.warmed, X', hpost, hstep₁ _ fun acts => by rw [doInvoke_state]; exact hsteps⟩
theorem vx_callSX (X : Stand p l e R s m args below meth c T locs cells slots) (hexec : p.tables.exec = Jvm.exec) {own : String} {index : Nat} {y : MethodName} {bytes : ByteArray} {maxL : Nat} {ret : Option FieldType} {hh : List (Nat × Nat × Nat × Nat)}
    (hown : s.vm.findClass own = some m.cls) (hlink : (Cond.methodLink own index y).before args s = true) (hstat : (Cond.static y).before args s = true) (hinit : (Cond.initialized y.cls).before args s = true)
    (hcode : (Cond.codeWith y bytes maxL ret hh).before args s = true) (hy : y.cls ≠ "java/lang/invoke/MethodHandle" ∧ y.cls ≠ "java/lang/invoke/VarHandle")
    {W9 : Nat} {Pre : Pt → Array Value → Prop} {Post : Pt → Array Value → Option Value → Pt → Prop} {PostX : Pt → Array Value → Addr → Pt → Prop} (hK : vx_Back l R p e below s args y 3 W9 Pre Post PostX)
    {g : JFrame} (hg : g.method = m) (hsize : g.locals.size = c.maxLocals) {argsL rest : List Value} (hlen : ∀ sig, parseMethodDescriptor y.desc = some sig → argsL.length = sig.parameters.length)
    (hstack : g.stack = argsL.reverse ++ rest) (hW : 2 * g.monitorRoom + (rest.map fun v => v.category).sum ≤ W9) (hdg : decode c.code g.pc = .ok (.invokestatic index, 3))
    (hpre : ∀ vm₁, s.WarmedH vm₁ → Pre ⟨T.setVm vm₁, locs, cells, slots⟩ argsL.toArray) :
    (∃ (v : Option Value) (vm₁ : Vm) (B : Pt), s.WarmedH vm₁ ∧ Stand p l e R s m args below meth c B.U B.locs B.cells B.slots ∧ Post ⟨T.setVm vm₁, locs, cells, slots⟩ argsL.toArray v B ∧
      ∀ target, Steps p.tables e below (B.U.setTop { g with pc := g.pc + 3, stack := v.toList ++ rest }) target → Steps p.tables e below (T.setTop g) target) ∨
    (∃ (q : Addr) (vm₁ : Vm) (B : Pt), s.WarmedH vm₁ ∧ Stand p l e R s m args below meth c B.U B.locs B.cells B.slots ∧ PostX ⟨T.setVm vm₁, locs, cells, slots⟩ argsL.toArray q B ∧
      Steps p.tables e below (T.setTop g) ((B.U.setTop { g with stack := rest }).pushFrame (.throwing q))) := by
  obtain ⟨mk, methM, cM, hnamed, hmethM, -, -, -, -, -, -, hsigM⟩ := Cond.codeWith_spec hcode
  have hstatic : methM.isStatic = true := Cond.static_spec hnamed hmethM hstat
  obtain ⟨kP, hkP, -⟩ := className_of_methodNamed hnamed
  have hinitP : kP.init = .initialized := Cond.initialized_spec (findClass_of_methodNamed hnamed) hkP hinit
  obtain ⟨vm₁, X₁, hstep₁⟩ := X.invokestatic hexec hown hlink hnamed hmethM hstatic hkP hinitP hy (g := g) hg (argsL := argsL) (rest := rest) (hlen _ hsigM) hstack hdg
  rcases hK m meth c ⟨T.setVm vm₁, locs, cells, slots⟩ { g with stack := rest } (.invokestatic index) mk argsL.toArray X₁ hg hsize hdg hW (X₁.named hnamed) (hpre vm₁ X₁.warmed) with ⟨v, B, X', hpost, hsteps⟩ | ⟨q, B, X', hpost, hsteps⟩
  · exact Or.inl ⟨v, vm₁, B, X₁.warmed, X', hpost, fun target h => hstep₁ _ fun acts => by rw [doInvoke_state]; exact hsteps.trans h⟩
  · exact Or.inr ⟨q, vm₁, B, X₁.warmed, X', hpost, hstep₁ _ fun acts => by rw [doInvoke_state]; exact hsteps⟩
theorem vx_callVW (X : Stand p l e R s m args below meth c T locs cells slots) (hexec : p.tables.exec = Jvm.exec) {own C : String} {index : Nat} {y : MethodName} {bytes : ByteArray} {maxL : Nat} {ret : Option FieldType} {hh : List (Nat × Nat × Nat × Nat)}
    (hown : s.vm.findClass own = some m.cls) (hlink : (Cond.methodLink own index y).before args s = true) (hinst : (Cond.instanceMethod y).before args s = true) (hsel : (Cond.selects C y y).before args s = true)
    (hcode : (Cond.codeWith y bytes maxL ret hh).before args s = true) (hy : y.cls ≠ "java/lang/invoke/MethodHandle" ∧ y.cls ≠ "java/lang/invoke/VarHandle")
    {W9 : Nat} {Pre : Pt → Array Value → Prop} {Post : Pt → Array Value → Option Value → Pt → Prop} (hK : Back l R p e below s args y 3 W9 Pre Post)
    {b : Addr} {cellB : Cell} (hcell : T.heap[b]? = some cellB) (hobj : cellB.vm.isStatics = false) (hcls : s.vm.findClass C = some cellB.cls)
    {g : JFrame} (hg : g.method = m) (hsize : g.locals.size = c.maxLocals) {argsL rest : List Value} (hlen : ∀ sig, parseMethodDescriptor y.desc = some sig → argsL.length = sig.parameters.length)
    (hstack : g.stack = argsL.reverse ++ .ref b :: rest) (hW : 2 * g.monitorRoom + (rest.map fun v => v.category).sum ≤ W9) (hdg : decode c.code g.pc = .ok (.invokevirtual index, 3))
    (hpre : ∀ vm₁, s.WarmedH vm₁ → Pre ⟨T.setVm vm₁, locs, cells, slots⟩ (Value.ref b :: argsL).toArray) :
    ∃ (v : Option Value) (vm₁ : Vm) (B : Pt), s.WarmedH vm₁ ∧ Stand p l e R s m args below meth c B.U B.locs B.cells B.slots ∧ Post ⟨T.setVm vm₁, locs, cells, slots⟩ (Value.ref b :: argsL).toArray v B ∧
      ∀ target, Steps p.tables e below (B.U.setTop { g with pc := g.pc + 3, stack := v.toList ++ rest }) target → Steps p.tables e below (T.setTop g) target := by
  obtain ⟨mk, methM, hnamed, hmethM, hstM, habM⟩ := Cond.instanceMethod_spec hinst
  obtain ⟨m8, methM', cM, hn8, hmethM', -, -, -, -, -, -, hsigM⟩ := Cond.codeWith_spec hcode
  cases Option.some.inj (hn8.symm.trans hnamed)
  cases hmethM.symm.trans hmethM'
  obtain ⟨c2, r2, m2, q1, q2, q3, q4, kP, hkP, hkPi⟩ := Cond.selects_spec hsel
  cases hcls.symm.trans q1
  cases (State.methodFound?_of_named hnamed hy).symm.trans q2
  cases hnamed.symm.trans q3
  have hselP : selectMethod e.platform s.vm cellB.cls mk = .method mk := by rw [Launch.admits_selectMethod X.admits]; exact q4
  obtain ⟨vm₁, X₁, hstep₁⟩ := X.invokevirtual hexec hown hlink hnamed hmethM hstM hkP hkPi hy (a := b) (cell := cellB) hcell
    (fun z h => by rw [h] at hobj; cases hobj) hselP hmethM habM hkP hkPi (g := g) hg (argsL := argsL) (rest := rest) (hlen _ hsigM) hstack hdg
  obtain ⟨v, B, X', hpost, hsteps⟩ := hK m meth c ⟨T.setVm vm₁, locs, cells, slots⟩ { g with stack := rest } (.invokevirtual index) mk (Value.ref b :: argsL).toArray X₁ hg hsize hdg hW (X₁.named hnamed) (hpre vm₁ X₁.warmed)
  exact ⟨v, vm₁, B, X₁.warmed, X', hpost, fun target h => hstep₁ _ fun acts => by rw [doInvoke_state]; exact hsteps.trans h⟩
abbrev vx_CVW (R : Room) (s : State) (args : Array Value) (own C : String) (index : Nat) (y : MethodName) (bytes : ByteArray) (maxL : Nat) (ret : Option FieldType) (hh : List (Nat × Nat × Nat × Nat)) (ws : List Cond) (rm : Room) (mc ms n : Nat) : Prop :=
  (rm.cells = mc ∧ rm.slots = ms ∧ rm.frames + 1 ≤ R.frames ∧ 8 + (maxL + 11) + rm.locals ≤ R.locals ∧ (∀ w ∈ ws, ∀ (a' : Array Value) (U : State), s.WarmedH U.vm → w.before a' U = true) ∧ Cond.codeWith y bytes maxL ret hh ∈ ws) ∧
  (Cond.codeWith y bytes maxL ret hh).before args s = true ∧ (Cond.initialized y.cls).before args s = true ∧ (y.cls ≠ "java/lang/invoke/MethodHandle" ∧ y.cls ≠ "java/lang/invoke/VarHandle") ∧
  (∀ sig, parseMethodDescriptor y.desc = some sig → n = sig.parameters.length) ∧ (Cond.methodLink own index y).before args s = true ∧ (Cond.instanceMethod y).before args s = true ∧ (Cond.selects C y y).before args s = true
theorem vx_cwVW {own C : String} {index maxL mc ms : Nat} {y : MethodName} {bytes : ByteArray} {ret : Option FieldType} {hh : List (Nat × Nat × Nat × Nat)} {Ts ws ws' : List Cond} {rm : Room} (n : Nat) (ht : ∀ w ∈ Ts, w.before args s = true) (hT : GoodIn Ts (wsV own index C y ws)) (hw : ws = Cond.codeWith y bytes maxL ret hh :: ws') (hrc : rm.cells = mc) (hrs : rm.slots = ms)
    (hd : y.cls = C ∧ y.cls ≠ "java/lang/invoke/MethodHandle" ∧ y.cls ≠ "java/lang/invoke/VarHandle" ∧ (parseMethodDescriptor y.desc).map (fun d => d.parameters.length) = some n) (hR : rm.frames + 1 ≤ R.frames ∧ 8 + (maxL + 11) + rm.locals ≤ R.locals) :
    vx_CVW R s args own C index y bytes maxL ret hh ws rm mc ms n := by
  obtain ⟨hC, hd⟩ := hd
  subst hC
  have ok : ∀ w ∈ wsV own index y.cls y ws, w.before args s = true := fun w h => ht w (hT w h).1
  have hG : GoodIn Ts ws := fun w h => hT w (by unfold wsV; exact List.mem_append_right _ h)
  have hc : Cond.codeWith y bytes maxL ret hh ∈ ws := by rw [hw]; exact List.mem_cons_self
  refine ⟨⟨hrc, hrs, hR.1, hR.2, pay_in ht hG, hc⟩, ht _ (hG _ hc).1, ok _ (by simp [wsV]), ⟨hd.1, hd.2.1⟩, fun sig h => ?_, ok _ (by simp [wsV]), ok _ (by simp [wsV]), ok _ (by simp [wsV])⟩
  have h2 := hd.2.2
  rw [h] at h2
  exact (Option.some.inj h2).symm
theorem vx_runVW {y : MethodName} {bytes cc : ByteArray} {maxL nL mc ms n index : Nat} {ret : Option FieldType} {hh : List (Nat × Nat × Nat × Nat)} {ws : List Cond} {rm : Room} {Pc : Array Value → State → Prop} {Qc : Array Value → State → Outcome → State → Prop} {free : Addr → Prop} {Ts : List Cond} {own C : String} {b : Addr} {As rest : List Value} {g : JFrame}
    (S : CallFix p m c cc nL s args Ts own) (hM : Met l y ws rm Pc Qc mc ms free) (cw : vx_CVW R s args own C index y bytes maxL ret hh ws rm mc ms n) (hp : PreV s H C b Pc As)
    (hg : g.method = m) (hn : As.length = n) (hsize : g.locals.size = nL) (hstack : g.stack = As.reverse ++ .ref b :: rest) (hW : 2 * g.monitorRoom + (rest.map fun v => v.category).sum ≤ 8) (hdg : decode cc g.pc = .ok (.invokevirtual index, 3)) (hf : cells + mc ≤ R.cells ∧ slots + ms ≤ R.slots) :
    va_Run p l e R s m args below meth c H locs cells slots mc ms g rest (Qc (Value.ref b :: As).toArray) free := by
  obtain ⟨⟨hrc, hrs, hfr, hlo, hws, hcw⟩, hcode, hini, hy, hlen, hl, hin, hse⟩ := cw
  have hK : Back l R p e below s args y 3 8 (PreOf R mc ms Pc) (PostOf Qc mc ms free) := va_backW (hh := hh) (bytes := bytes) (maxL := maxL) (ret := ret) hM hp.1 hrc hrs hfr hlo hws hcw (fun a' U hW => word_at hW (Or.inl (by first | rfl | simp [Cond.onTables, Cond.keeps, Cond.steady])) hini)
  obtain ⟨hx, hb, hml, ho, -⟩ := S
  obtain ⟨-, ⟨cellB, hcB, hoB, hclB⟩, hPc⟩ := hp
  intro T hT X
  obtain ⟨v, vm₁, ⟨U', l2, c2, s2⟩, hW₁, X', ⟨g', mk, t, L, e1, e2, hq, h1, hL, h2, h3⟩, st⟩ := vx_callVW X hx (C := C) (hh := hh) (bytes := bytes) (maxL := maxL) (ret := ret) ho hl hin hse hcode hy hK (by rw [hT]; exact hcB) hoB hclB hg (hsize.trans hml.symm) (argsL := As) (rest := rest) (fun sig h => hn.trans (hlen sig h)) hstack hW (by rw [hb]; exact hdg)
    (fun vm₁ hW₁ => ⟨hf.1, hf.2, hPc (T.setVm vm₁) hT hW₁⟩)
  dsimp only [Pt.U, Pt.locs, Pt.cells, Pt.slots] at X' e1 e2 h1 h2 h3 st
  subst h1; subst h2; subst h3
  exact ⟨v, (T.setVm vm₁).calling g' mk (Value.ref b :: As).toArray, t, U', L, hT, X', hL, e1, e2, hq, st⟩
section
variable {y : MethodName} {bytes cc : ByteArray} {maxL nL mc ms n index : Nat} {ret : Option FieldType} {ws : List Cond} {rm : Room} {Pc : Array Value → State → Prop} {Qc : Array Value → State → Outcome → State → Prop} {XC : String → State → State → Prop} {free : Addr → Prop} {Ts : List Cond} {own C : String} {b : Addr} {As rest : List Value} {g : JFrame}
theorem vx_runVX {hh : List (Nat × Nat × Nat × Nat)} (S : CallFix p m c cc nL s args Ts own) (hM : vx_Met l y ws rm Pc Qc XC mc ms free) (cw : vx_CVW R s args own C index y bytes maxL ret hh ws rm mc ms n) (hp : PreV s H C b Pc As)
    (hg : g.method = m) (hn : As.length = n) (hsize : g.locals.size = nL) (hstack : g.stack = As.reverse ++ .ref b :: rest) (hW : 2 * g.monitorRoom + (rest.map fun v => v.category).sum ≤ 8) (hdg : decode cc g.pc = .ok (.invokevirtual index, 3)) (hf : cells + mc ≤ R.cells ∧ slots + ms ≤ R.slots) :
    vx_Run p l e R s m args below meth c H locs cells slots mc ms g rest (Qc (Value.ref b :: As).toArray) XC free := by
  obtain ⟨⟨hrc, hrs, hfr, hlo, hws, hcw⟩, hcode, hini, hy, hlen, hl, hin, hse⟩ := cw
  have hK : vx_Back l R p e below s args y 3 8 (PreOf R mc ms Pc) (PostOf Qc mc ms free) (vx_Post XC mc ms free) := vx_backW (hh := hh) (bytes := bytes) (maxL := maxL) (ret := ret) hM hp.1 hrc hrs hfr hlo hws hcw (fun a' U hW => word_at hW (Or.inl (by first | rfl | simp [Cond.onTables, Cond.keeps, Cond.steady])) hini)
  obtain ⟨hx, hb, hml, ho, -⟩ := S
  obtain ⟨-, ⟨cellB, hcB, hoB, hclB⟩, hPc⟩ := hp
  intro T hT X
  rcases vx_callVX X hx (C := C) (hh := hh) (bytes := bytes) (maxL := maxL) (ret := ret) ho hl hin hse hcode hy hK (by rw [hT]; exact hcB) hoB hclB hg (hsize.trans hml.symm) (argsL := As) (rest := rest) (fun sig h => hn.trans (hlen sig h)) hstack hW (by rw [hb]; exact hdg)
    (fun vm₁ hW₁ => ⟨hf.1, hf.2, hPc (T.setVm vm₁) hT hW₁⟩) with ⟨v, vm₁, ⟨U', l2, c2, s2⟩, hW₁, X', ⟨g', mk, t, L, e1, e2, hq, h1, hL, h2, h3⟩, st⟩ | ⟨q, vm₁, ⟨U', l2, c2, s2⟩, hW₁, X', ⟨g', mk, t, L, E, ce, e1, e2, hq, hce, hcv, hcl, h1, hL, h2, h3⟩, st⟩
  · dsimp only [Pt.U, Pt.locs, Pt.cells, Pt.slots] at X' e1 e2 h1 h2 h3 st
    subst h1; subst h2; subst h3
    exact Or.inl ⟨v, (T.setVm vm₁).calling g' mk (Value.ref b :: As).toArray, t, U', L, hT, X', hL, e1, e2, hq, st⟩
  · dsimp only [Pt.U, Pt.locs, Pt.cells, Pt.slots] at X' e1 e2 h1 h2 h3 st hcl
    subst h1; subst h2; subst h3
    exact Or.inr ⟨q, (T.setVm vm₁).calling g' mk (Value.ref b :: As).toArray, t, U', L, E, ce, hT, X', hL, e1, e2, hq, hce, hcv, vx_cls hW₁ hcl, st⟩
theorem vx_runSX {hh : List (Nat × Nat × Nat × Nat)} (S : CallFix p m c cc nL s args Ts own) (hM : vx_Met l y ws rm Pc Qc XC mc ms free) (cw : vx_CSW R s args own index y bytes maxL ret hh ws rm mc ms n) (hp : PreS s H Pc As)
    (hg : g.method = m) (hn : As.length = n) (hsize : g.locals.size = nL) (hstack : g.stack = As.reverse ++ rest) (hW : 2 * g.monitorRoom + (rest.map fun v => v.category).sum ≤ 8) (hdg : decode cc g.pc = .ok (.invokestatic index, 3)) (hf : cells + mc ≤ R.cells ∧ slots + ms ≤ R.slots) :
    vx_Run p l e R s m args below meth c H locs cells slots mc ms g rest (Qc As.toArray) XC free := by
  obtain ⟨⟨hrc, hrs, hfr, hlo, hws, hcw⟩, hcode, hini, hy, hlen, hl, hstt⟩ := cw
  have hK : vx_Back l R p e below s args y 3 8 (PreOf R mc ms Pc) (PostOf Qc mc ms free) (vx_Post XC mc ms free) := vx_backW (hh := hh) (bytes := bytes) (maxL := maxL) (ret := ret) hM hp.1 hrc hrs hfr hlo hws hcw (fun a' U hW => word_at hW (Or.inl (by first | rfl | simp [Cond.onTables, Cond.keeps, Cond.steady])) hini)
  obtain ⟨hx, hb, hml, ho, -⟩ := S
  intro T hT X
  rcases vx_callSX X hx (hh := hh) (bytes := bytes) (maxL := maxL) (ret := ret) ho hl hstt hini hcode hy hK hg (hsize.trans hml.symm) (argsL := As) (rest := rest) (fun sig h => hn.trans (hlen sig h)) hstack hW (by rw [hb]; exact hdg)
    (fun vm₁ hW₁ => ⟨hf.1, hf.2, hp.2 (T.setVm vm₁) hT hW₁⟩) with ⟨v, vm₁, ⟨U', l2, c2, s2⟩, hW₁, X', ⟨g', mk, t, L, e1, e2, hq, h1, hL, h2, h3⟩, st⟩ | ⟨q, vm₁, ⟨U', l2, c2, s2⟩, hW₁, X', ⟨g', mk, t, L, E, ce, e1, e2, hq, hce, hcv, hcl, h1, hL, h2, h3⟩, st⟩
  · dsimp only [Pt.U, Pt.locs, Pt.cells, Pt.slots] at X' e1 e2 h1 h2 h3 st
    subst h1; subst h2; subst h3
    exact Or.inl ⟨v, (T.setVm vm₁).calling g' mk As.toArray, t, U', L, hT, X', hL, e1, e2, hq, st⟩
  · dsimp only [Pt.U, Pt.locs, Pt.cells, Pt.slots] at X' e1 e2 h1 h2 h3 st hcl
    subst h1; subst h2; subst h3
    exact Or.inr ⟨q, (T.setVm vm₁).calling g' mk As.toArray, t, U', L, E, ce, hT, X', hL, e1, e2, hq, hce, hcv, vx_cls hW₁ hcl, st⟩
end
end VXH
theorem vx_ofWH {l : Launch} {y : MethodName} {ws ws' : List Cond} {rm : Room} {Pc : Array Value → State → Prop} {Qc : Array Value → State → Outcome → State → Prop} {XC : String → State → State → Prop} {mc ms : Nat} {free : Addr → Prop} {cc : ByteArray} {maxL : Nat} {ret : Option FieldType} {hh : List (Nat × Nat × Nat × Nat)}
    (hy : plainName y.cls = true) (hw : ws = Cond.codeWith y cc maxL ret hh :: ws')
    (body : ∀ p e s m args below meth c s₁, BodyLoose p l y (headSpec ws rm) cc maxL ret e s m args below meth c s₁ → c.maxLocals = maxL → Pc args s →
      W p l e (headSpec ws rm).room s m args below meth c s.heap [] 0 0 (vx_MQ below Qc XC args s mc ms free) (entryFrame m args maxL)) : vx_Met l y ws rm Pc Qc XC mc ms free := by
  refine MetFree.of_bodyS (code := cc) (maxLocals := maxL) (ret := ret) hy ?_ ?_
  · intro args s m h hn
    obtain ⟨m9, meth, c, hn9, h1, h2, h3, h4, -, h5, h6, -⟩ := Cond.codeWith_spec (atoms_spec (ws := ws) h _ (by rw [hw]; exact List.mem_cons_self))
    cases hn.symm.trans hn9
    exact ⟨meth, c, h1, h2, h3, h4, h5, h6⟩
  · intro p e s m args below meth c s₁ B hml hP _
    have hh0 : s₁.heap = s.heap := by rw [B.state]; rfl
    obtain ⟨t, a1, o, b1, b2, b3⟩ := body p e s m args below meth c s₁ B hml hP s₁ hh0 (Stand.of_body B)
    exact ⟨t, o, a1, b1, b2, b3⟩
/-! ===== END ===== -/
end
section
/-! ===== BEGIN printed: names, fields, word lists, decode rows ===== -/
def RX0 : String := "Proratehouse$Bill"
def TX0 : u_T := fun k => match k with
  | 0 => ("Proratehouse$Bill", "payer", "I", true)
  | 1 => ("Proratehouse$Bill", "payee", "I", true)
  | 2 => ("Proratehouse$Bill", "amount", "I", true)
  | 3 => ("Proratehouse$Bill", "status", "I", false)
  | 4 => ("Proratehouse$Bill", "rejections", "I", false)
  | _ => ("Proratehouse$Bill", "settledBy", "I", false)
def tyX0 : Nat → FieldType := fun k => match k with
  | 0 => .int
  | 1 => .int
  | 2 => .int
  | 3 => .int
  | 4 => .int
  | _ => .int
abbrev wsX00 : List Cond := u_ws RX0 TX0 6
theorem nmX0 : ∀ a, a < 6 → ∀ b, b < 6 → a ≠ b → (TX0 a).2.1 ≠ (TX0 b).2.1 := by decide +kernel
theorem tyX0_ok : ∀ k, k < 6 → parseFieldDescriptor (TX0 k).2.2.1 = some (tyX0 k) := by decide +kernel
abbrev cX0_init : ByteArray := prog_2_method_1_code
def yX0_init : MethodName := ⟨RX0, "<init>", "(III)V"⟩
abbrev cX0_isOf : ByteArray := prog_2_method_2_code
def yX0_isOf : MethodName := ⟨RX0, "isOf", "(I)Z"⟩
abbrev cX0_isToBeSettled : ByteArray := prog_2_method_3_code
def yX0_isToBeSettled : MethodName := ⟨RX0, "isToBeSettled", "()Z"⟩
abbrev cX0_isAsLeftBy : ByteArray := prog_2_method_4_code
def yX0_isAsLeftBy : MethodName := ⟨RX0, "isAsLeftBy", "(I)Z"⟩
abbrev cX0_amountBack : ByteArray := prog_2_method_5_code
def yX0_amountBack : MethodName := ⟨RX0, "amountBack", "()I"⟩
abbrev cX0_settle : ByteArray := prog_2_method_6_code
def yX0_settle : MethodName := ⟨RX0, "settle", "(I)I"⟩
abbrev cX0_undo : ByteArray := prog_2_method_7_code
def yX0_undo : MethodName := ⟨RX0, "undo", "()I"⟩
abbrev cX0_gotByPayee : ByteArray := prog_2_method_8_code
def yX0_gotByPayee : MethodName := ⟨RX0, "gotByPayee", "()I"⟩
def RX1 : String := "Proratehouse$Clearing"
def TX1 : u_T := fun k => match k with
  | 0 => ("Proratehouse$Clearing", "bills", "[LProratehouse$Bill;", true)
  | 1 => ("Proratehouse$Clearing", "nets", "[J", true)
  | 2 => ("Proratehouse$Clearing", "count", "I", false)
  | 3 => ("Proratehouse$Clearing", "number", "I", false)
  | _ => ("Proratehouse$Clearing", "inDefault", "I", false)
def tyX1 : Nat → FieldType := fun k => match k with
  | 0 => .array (.object "Proratehouse$Bill")
  | 1 => .array .long
  | 2 => .int
  | 3 => .int
  | _ => .int
abbrev wsX10 : List Cond := u_ws RX1 TX1 5
theorem nmX1 : ∀ a, a < 5 → ∀ b, b < 5 → a ≠ b → (TX1 a).2.1 ≠ (TX1 b).2.1 := by decide +kernel
theorem tyX1_ok : ∀ k, k < 5 → parseFieldDescriptor (TX1 k).2.2.1 = some (tyX1 k) := by decide +kernel
abbrev cX1_init : ByteArray := prog_3_method_1_code
def yX1_init : MethodName := ⟨RX1, "<init>", "()V"⟩
abbrev cX1_addBill : ByteArray := prog_3_method_2_code
def yX1_addBill : MethodName := ⟨RX1, "addBill", "(III)I"⟩
abbrev cX1_billAt : ByteArray := prog_3_method_3_code
def yX1_billAt : MethodName := ⟨RX1, "billAt", "(I)LProratehouse$Bill;"⟩
abbrev cX1_isInDefault : ByteArray := prog_3_method_4_code
def yX1_isInDefault : MethodName := ⟨RX1, "isInDefault", "(I)Z"⟩
abbrev cX1_putDefault : ByteArray := prog_3_method_5_code
def yX1_putDefault : MethodName := ⟨RX1, "putDefault", "(IZ)V"⟩
abbrev cX1_settle : ByteArray := prog_3_method_6_code
def yX1_settle : MethodName := ⟨RX1, "settle", "()V"⟩
abbrev cX1_undo : ByteArray := prog_3_method_7_code
def yX1_undo : MethodName := ⟨RX1, "undo", "(I)I"⟩
abbrev cX1_forgetNets : ByteArray := prog_3_method_8_code
def yX1_forgetNets : MethodName := ⟨RX1, "forgetNets", "()V"⟩
abbrev cX1_addToNets : ByteArray := prog_3_method_9_code
def yX1_addToNets : MethodName := ⟨RX1, "addToNets", "(LProratehouse$Bill;I)V"⟩
abbrev cX1_netOf : ByteArray := prog_3_method_10_code
def yX1_netOf : MethodName := ⟨RX1, "netOf", "(I)J"⟩
abbrev cX1_sumOfNetsAboveZero : ByteArray := prog_3_method_11_code
def yX1_sumOfNetsAboveZero : MethodName := ⟨RX1, "sumOfNetsAboveZero", "()J"⟩
abbrev cX1_gotBy : ByteArray := prog_3_method_12_code
def yX1_gotBy : MethodName := ⟨RX1, "gotBy", "(I)J"⟩
def RX2 : String := "Proratehouse$Coupon"
def TX2 : u_T := fun k => match k with
  | 0 => ("Proratehouse$Coupon", "from", "I", true)
  | 1 => ("Proratehouse$Coupon", "to", "I", true)
  | 2 => ("Proratehouse$Coupon", "day", "I", true)
  | 3 => ("Proratehouse$Coupon", "tax", "I", true)
  | 4 => ("Proratehouse$Coupon", "carrier", "I", false)
  | 5 => ("Proratehouse$Coupon", "weight", "I", false)
  | 6 => ("Proratehouse$Coupon", "share", "I", false)
  | 7 => ("Proratehouse$Coupon", "status", "I", false)
  | _ => ("Proratehouse$Coupon", "bill", "I", false)
def tyX2 : Nat → FieldType := fun k => match k with
  | 0 => .int
  | 1 => .int
  | 2 => .int
  | 3 => .int
  | 4 => .int
  | 5 => .int
  | 6 => .int
  | 7 => .int
  | _ => .int
abbrev wsX20 : List Cond := u_ws RX2 TX2 9
theorem nmX2 : ∀ a, a < 9 → ∀ b, b < 9 → a ≠ b → (TX2 a).2.1 ≠ (TX2 b).2.1 := by decide +kernel
theorem tyX2_ok : ∀ k, k < 9 → parseFieldDescriptor (TX2 k).2.2.1 = some (tyX2 k) := by decide +kernel
abbrev cX2_init : ByteArray := prog_4_method_1_code
def yX2_init : MethodName := ⟨RX2, "<init>", "(LProratehouse$Leg;I)V"⟩
def RX3 : String := "Proratehouse$Fare"
def TX3 : u_T := fun k => match k with
  | 0 => ("Proratehouse$Fare", "from", "I", true)
  | 1 => ("Proratehouse$Fare", "to", "I", true)
  | 2 => ("Proratehouse$Fare", "cents", "I", true)
  | 3 => ("Proratehouse$Fare", "first", "I", true)
  | 4 => ("Proratehouse$Fare", "last", "I", true)
  | 5 => ("Proratehouse$Fare", "stops", "I", true)
  | _ => ("Proratehouse$Fare", "isWithdrawn", "Z", false)
def tyX3 : Nat → FieldType := fun k => match k with
  | 0 => .int
  | 1 => .int
  | 2 => .int
  | 3 => .int
  | 4 => .int
  | 5 => .int
  | _ => .boolean
abbrev wsX30 : List Cond := u_ws RX3 TX3 7
theorem nmX3 : ∀ a, a < 7 → ∀ b, b < 7 → a ≠ b → (TX3 a).2.1 ≠ (TX3 b).2.1 := by decide +kernel
theorem tyX3_ok : ∀ k, k < 7 → parseFieldDescriptor (TX3 k).2.2.1 = some (tyX3 k) := by decide +kernel
abbrev cX3_init : ByteArray := prog_5_method_1_code
def yX3_init : MethodName := ⟨RX3, "<init>", "(IIIIII)V"⟩
abbrev cX3_isFor : ByteArray := prog_5_method_2_code
def yX3_isFor : MethodName := ⟨RX3, "isFor", "(III)Z"⟩
def RX4 : String := "Proratehouse$Journey"
def TX4 : u_T := fun k => match k with
  | 0 => ("Proratehouse$Journey", "legs", "[LProratehouse$Leg;", true)
  | _ => ("Proratehouse$Journey", "count", "I", false)
def tyX4 : Nat → FieldType := fun k => match k with
  | 0 => .array (.object "Proratehouse$Leg")
  | _ => .int
abbrev wsX40 : List Cond := u_ws RX4 TX4 2
theorem nmX4 : ∀ a, a < 2 → ∀ b, b < 2 → a ≠ b → (TX4 a).2.1 ≠ (TX4 b).2.1 := by decide +kernel
theorem tyX4_ok : ∀ k, k < 2 → parseFieldDescriptor (TX4 k).2.2.1 = some (tyX4 k) := by decide +kernel
abbrev cX4_init : ByteArray := prog_6_method_1_code
def yX4_init : MethodName := ⟨RX4, "<init>", "()V"⟩
abbrev cX4_legAt : ByteArray := prog_6_method_2_code
def yX4_legAt : MethodName := ⟨RX4, "legAt", "(I)LProratehouse$Leg;"⟩
abbrev cX4_goesOn : ByteArray := prog_6_method_3_code
def yX4_goesOn : MethodName := ⟨RX4, "goesOn", "(II)Z"⟩
abbrev cX4_add : ByteArray := prog_6_method_4_code
def yX4_add : MethodName := ⟨RX4, "add", "(IIII)I"⟩
abbrev cX4_beginAnew : ByteArray := prog_6_method_5_code
def yX4_beginAnew : MethodName := ⟨RX4, "beginAnew", "()I"⟩
abbrev cX4_hasLegBefore : ByteArray := prog_6_method_6_code
def yX4_hasLegBefore : MethodName := ⟨RX4, "hasLegBefore", "(I)Z"⟩
abbrev cX4_isPoint : ByteArray := prog_6_method_7_code
def yX4_isPoint : MethodName := ⟨RX4, "isPoint", "(I)Z"⟩
abbrev cX4_placeAt : ByteArray := prog_6_method_8_code
def yX4_placeAt : MethodName := ⟨RX4, "placeAt", "(I)I"⟩
abbrev cX4_isStop : ByteArray := prog_6_method_9_code
def yX4_isStop : MethodName := ⟨RX4, "isStop", "(I)Z"⟩
abbrev cX4_priceOfPart : ByteArray := prog_6_method_10_code
def yX4_priceOfPart : MethodName := ⟨RX4, "priceOfPart", "(LProratehouse$Tariff;II)I"⟩
abbrev cX4_stopsBetween : ByteArray := prog_6_method_11_code
def yX4_stopsBetween : MethodName := ⟨RX4, "stopsBetween", "(II)I"⟩
abbrev cX4_milesOfLegs : ByteArray := prog_6_method_12_code
def yX4_milesOfLegs : MethodName := ⟨RX4, "milesOfLegs", "(LProratehouse$Pairs;II)I"⟩
abbrev cX4_highestBetween : ByteArray := prog_6_method_13_code
def yX4_highestBetween : MethodName := ⟨RX4, "highestBetween", "(LProratehouse$Tariff;II)I"⟩
def RX5 : String := "Proratehouse$Leg"
def TX5 : u_T := fun k => match k with
  | 0 => ("Proratehouse$Leg", "from", "I", false)
  | 1 => ("Proratehouse$Leg", "to", "I", false)
  | 2 => ("Proratehouse$Leg", "carrier", "I", false)
  | _ => ("Proratehouse$Leg", "day", "I", false)
def tyX5 : Nat → FieldType := fun k => match k with
  | 0 => .int
  | 1 => .int
  | 2 => .int
  | _ => .int
abbrev wsX50 : List Cond := u_ws RX5 TX5 4
theorem nmX5 : ∀ a, a < 4 → ∀ b, b < 4 → a ≠ b → (TX5 a).2.1 ≠ (TX5 b).2.1 := by decide +kernel
theorem tyX5_ok : ∀ k, k < 4 → parseFieldDescriptor (TX5 k).2.2.1 = some (tyX5 k) := by decide +kernel
abbrev cX5_init : ByteArray := prog_7_method_1_code
def yX5_init : MethodName := ⟨RX5, "<init>", "()V"⟩
def RX6 : String := "Proratehouse$Pairs"
def TX6 : u_T := fun k => match k with
  | _ => ("Proratehouse$Pairs", "numbers", "[I", true)
def tyX6 : Nat → FieldType := fun k => match k with
  | _ => .array .int
abbrev wsX60 : List Cond := u_ws RX6 TX6 1
theorem nmX6 : ∀ a, a < 1 → ∀ b, b < 1 → a ≠ b → (TX6 a).2.1 ≠ (TX6 b).2.1 := by decide +kernel
theorem tyX6_ok : ∀ k, k < 1 → parseFieldDescriptor (TX6 k).2.2.1 = some (tyX6 k) := by decide +kernel
abbrev cX6_init : ByteArray := prog_8_method_1_code
def yX6_init : MethodName := ⟨RX6, "<init>", "()V"⟩
abbrev cX6_get : ByteArray := prog_8_method_2_code
def yX6_get : MethodName := ⟨RX6, "get", "(II)I"⟩
abbrev cX6_put : ByteArray := prog_8_method_3_code
def yX6_put : MethodName := ⟨RX6, "put", "(III)I"⟩
def RX7 : String := "Proratehouse$Proration"
def TX7 : u_T := fun k => match k with
  | 0 => ("Proratehouse$Proration", "weights", "LProratehouse$Pairs;", true)
  | _ => ("Proratehouse$Proration", "provisos", "[I", true)
def tyX7 : Nat → FieldType := fun k => match k with
  | 0 => .object "Proratehouse$Pairs"
  | _ => .array .int
abbrev wsX70 : List Cond := u_ws RX7 TX7 2
theorem nmX7 : ∀ a, a < 2 → ∀ b, b < 2 → a ≠ b → (TX7 a).2.1 ≠ (TX7 b).2.1 := by decide +kernel
theorem tyX7_ok : ∀ k, k < 2 → parseFieldDescriptor (TX7 k).2.2.1 = some (tyX7 k) := by decide +kernel
abbrev cX7_init : ByteArray := prog_9_method_1_code
def yX7_init : MethodName := ⟨RX7, "<init>", "()V"⟩
abbrev cX7_putProviso : ByteArray := prog_9_method_2_code
def yX7_putProviso : MethodName := ⟨RX7, "putProviso", "(IIII)I"⟩
abbrev cX7_provisoOf : ByteArray := prog_9_method_3_code
def yX7_provisoOf : MethodName := ⟨RX7, "provisoOf", "(III)I"⟩
abbrev cX7_weightOf : ByteArray := prog_9_method_4_code
def yX7_weightOf : MethodName := ⟨RX7, "weightOf", "(LProratehouse$Coupon;LProratehouse$Pairs;)I"⟩
abbrev cX7_share : ByteArray := prog_9_method_5_code
def yX7_share : MethodName := ⟨RX7, "share", "(LProratehouse$Ticket;IIILProratehouse$Pairs;)I"⟩
abbrev cX7_shareByWeights : ByteArray := prog_9_method_6_code
def yX7_shareByWeights : MethodName := ⟨RX7, "shareByWeights", "(LProratehouse$Ticket;IIII)V"⟩
def RX8 : String := "Proratehouse$Tariff"
def TX8 : u_T := fun k => match k with
  | 0 => ("Proratehouse$Tariff", "miles", "LProratehouse$Pairs;", true)
  | 1 => ("Proratehouse$Tariff", "fares", "[LProratehouse$Fare;", true)
  | 2 => ("Proratehouse$Tariff", "departTaxes", "[I", true)
  | 3 => ("Proratehouse$Tariff", "changeTaxes", "[I", true)
  | 4 => ("Proratehouse$Tariff", "fareCount", "I", false)
  | 5 => ("Proratehouse$Tariff", "unit", "I", false)
  | _ => ("Proratehouse$Tariff", "today", "I", false)
def tyX8 : Nat → FieldType := fun k => match k with
  | 0 => .object "Proratehouse$Pairs"
  | 1 => .array (.object "Proratehouse$Fare")
  | 2 => .array .int
  | 3 => .array .int
  | 4 => .int
  | 5 => .int
  | _ => .int
abbrev wsX80 : List Cond := u_ws RX8 TX8 7
theorem nmX8 : ∀ a, a < 7 → ∀ b, b < 7 → a ≠ b → (TX8 a).2.1 ≠ (TX8 b).2.1 := by decide +kernel
theorem tyX8_ok : ∀ k, k < 7 → parseFieldDescriptor (TX8 k).2.2.1 = some (tyX8 k) := by decide +kernel
abbrev cX8_init : ByteArray := prog_10_method_1_code
def yX8_init : MethodName := ⟨RX8, "<init>", "()V"⟩
abbrev cX8_file : ByteArray := prog_10_method_2_code
def yX8_file : MethodName := ⟨RX8, "file", "(LProratehouse$Fare;)I"⟩
abbrev cX8_fareAt : ByteArray := prog_10_method_3_code
def yX8_fareAt : MethodName := ⟨RX8, "fareAt", "(I)LProratehouse$Fare;"⟩
abbrev cX8_putTaxes : ByteArray := prog_10_method_4_code
def yX8_putTaxes : MethodName := ⟨RX8, "putTaxes", "(III)V"⟩
abbrev cX8_taxAt : ByteArray := prog_10_method_5_code
def yX8_taxAt : MethodName := ⟨RX8, "taxAt", "(IZ)I"⟩
abbrev cX8_lowestFare : ByteArray := prog_10_method_6_code
def yX8_lowestFare : MethodName := ⟨RX8, "lowestFare", "(III)I"⟩
abbrev cX8_surcharge : ByteArray := prog_10_method_7_code
def yX8_surcharge : MethodName := ⟨RX8, "surcharge", "(III)I"⟩
abbrev cX8_roundedUp : ByteArray := prog_10_method_8_code
def yX8_roundedUp : MethodName := ⟨RX8, "roundedUp", "(II)I"⟩
def RX9 : String := "Proratehouse$Ticket"
def TX9 : u_T := fun k => match k with
  | 0 => ("Proratehouse$Ticket", "issuer", "I", true)
  | 1 => ("Proratehouse$Ticket", "price", "I", true)
  | 2 => ("Proratehouse$Ticket", "cutPoints", "I", true)
  | 3 => ("Proratehouse$Ticket", "coupons", "[LProratehouse$Coupon;", true)
  | 4 => ("Proratehouse$Ticket", "count", "I", false)
  | 5 => ("Proratehouse$Ticket", "taxes", "I", false)
  | 6 => ("Proratehouse$Ticket", "unshared", "I", false)
  | _ => ("Proratehouse$Ticket", "received", "J", false)
def tyX9 : Nat → FieldType := fun k => match k with
  | 0 => .int
  | 1 => .int
  | 2 => .int
  | 3 => .array (.object "Proratehouse$Coupon")
  | 4 => .int
  | 5 => .int
  | 6 => .int
  | _ => .long
abbrev wsX90 : List Cond := u_ws RX9 TX9 8
theorem nmX9 : ∀ a, a < 8 → ∀ b, b < 8 → a ≠ b → (TX9 a).2.1 ≠ (TX9 b).2.1 := by decide +kernel
theorem tyX9_ok : ∀ k, k < 8 → parseFieldDescriptor (TX9 k).2.2.1 = some (tyX9 k) := by decide +kernel
abbrev cX9_init : ByteArray := prog_11_method_1_code
def yX9_init : MethodName := ⟨RX9, "<init>", "(III)V"⟩
abbrev cX9_add : ByteArray := prog_11_method_2_code
def yX9_add : MethodName := ⟨RX9, "add", "(LProratehouse$Coupon;)V"⟩
abbrev cX9_couponAt : ByteArray := prog_11_method_3_code
def yX9_couponAt : MethodName := ⟨RX9, "couponAt", "(I)LProratehouse$Coupon;"⟩
abbrev cX9_openAt : ByteArray := prog_11_method_4_code
def yX9_openAt : MethodName := ⟨RX9, "openAt", "(I)LProratehouse$Coupon;"⟩
abbrev cX9_hasOpenOnes : ByteArray := prog_11_method_5_code
def yX9_hasOpenOnes : MethodName := ⟨RX9, "hasOpenOnes", "()Z"⟩
abbrev cX9_openShares : ByteArray := prog_11_method_6_code
def yX9_openShares : MethodName := ⟨RX9, "openShares", "()I"⟩
abbrev cX9_openTaxes : ByteArray := prog_11_method_7_code
def yX9_openTaxes : MethodName := ⟨RX9, "openTaxes", "()I"⟩
abbrev cX9_flownTaxes : ByteArray := prog_11_method_8_code
def yX9_flownTaxes : MethodName := ⟨RX9, "flownTaxes", "()I"⟩
abbrev cX9_turnOpenOnes : ByteArray := prog_11_method_9_code
def yX9_turnOpenOnes : MethodName := ⟨RX9, "turnOpenOnes", "(II)V"⟩
def RX10 : String := "Proratehouse$Ways"
def TX10 : u_T := fun k => match k with
  | 0 => ("Proratehouse$Ways", "sumsTo", "[I", true)
  | 1 => ("Proratehouse$Ways", "cutsTo", "[I", true)
  | 2 => ("Proratehouse$Ways", "partPrices", "[I", true)
  | 3 => ("Proratehouse$Ways", "leastSum", "I", false)
  | _ => ("Proratehouse$Ways", "leastCuts", "I", false)
def tyX10 : Nat → FieldType := fun k => match k with
  | 0 => .array .int
  | 1 => .array .int
  | 2 => .array .int
  | 3 => .int
  | _ => .int
abbrev wsX100 : List Cond := u_ws RX10 TX10 5
theorem nmX10 : ∀ a, a < 5 → ∀ b, b < 5 → a ≠ b → (TX10 a).2.1 ≠ (TX10 b).2.1 := by decide +kernel
theorem tyX10_ok : ∀ k, k < 5 → parseFieldDescriptor (TX10 k).2.2.1 = some (tyX10 k) := by decide +kernel
abbrev cX10_init : ByteArray := prog_12_method_1_code
def yX10_init : MethodName := ⟨RX10, "<init>", "()V"⟩
abbrev cX10_findLeast : ByteArray := prog_12_method_2_code
def yX10_findLeast : MethodName := ⟨RX10, "findLeast", "(LProratehouse$Journey;LProratehouse$Tariff;)V"⟩
abbrev cX10_goOn : ByteArray := prog_12_method_3_code
def yX10_goOn : MethodName := ⟨RX10, "goOn", "(III)V"⟩
abbrev cX10_leastOfAllSets : ByteArray := prog_12_method_4_code
def yX10_leastOfAllSets : MethodName := ⟨RX10, "leastOfAllSets", "(LProratehouse$Journey;LProratehouse$Tariff;)I"⟩
abbrev cX10_sumOfSet : ByteArray := prog_12_method_5_code
def yX10_sumOfSet : MethodName := ⟨RX10, "sumOfSet", "(II)I"⟩
def RX11 : String := "Proratehouse"
def TX11 : u_T := fun k => match k with
  | 0 => ("Proratehouse", "tariff", "LProratehouse$Tariff;", true)
  | 1 => ("Proratehouse", "proration", "LProratehouse$Proration;", true)
  | 2 => ("Proratehouse", "journey", "LProratehouse$Journey;", true)
  | 3 => ("Proratehouse", "ways", "LProratehouse$Ways;", true)
  | 4 => ("Proratehouse", "clearing", "LProratehouse$Clearing;", true)
  | 5 => ("Proratehouse", "tickets", "[LProratehouse$Ticket;", true)
  | 6 => ("Proratehouse", "carrierCash", "[J", true)
  | 7 => ("Proratehouse", "stateCash", "[J", true)
  | 8 => ("Proratehouse", "ticketCount", "I", false)
  | 9 => ("Proratehouse", "penaltyHundredths", "I", false)
  | _ => ("Proratehouse", "buyersPaid", "J", false)
def tyX11 : Nat → FieldType := fun k => match k with
  | 0 => .object "Proratehouse$Tariff"
  | 1 => .object "Proratehouse$Proration"
  | 2 => .object "Proratehouse$Journey"
  | 3 => .object "Proratehouse$Ways"
  | 4 => .object "Proratehouse$Clearing"
  | 5 => .array (.object "Proratehouse$Ticket")
  | 6 => .array .long
  | 7 => .array .long
  | 8 => .int
  | 9 => .int
  | _ => .long
abbrev wsX110 : List Cond := u_ws RX11 TX11 11
theorem nmX11 : ∀ a, a < 11 → ∀ b, b < 11 → a ≠ b → (TX11 a).2.1 ≠ (TX11 b).2.1 := by decide +kernel
theorem tyX11_ok : ∀ k, k < 11 → parseFieldDescriptor (TX11 k).2.2.1 = some (tyX11 k) := by decide +kernel
abbrev cX11_init : ByteArray := prog_1_method_1_code
def yX11_init : MethodName := ⟨RX11, "<init>", "()V"⟩
abbrev cX11_miles : ByteArray := prog_1_method_2_code
def yX11_miles : MethodName := ⟨RX11, "miles", "(III)I"⟩
abbrev cX11_fare : ByteArray := prog_1_method_3_code
def yX11_fare : MethodName := ⟨RX11, "fare", "(IIIIII)I"⟩
abbrev cX11_withdraw : ByteArray := prog_1_method_4_code
def yX11_withdraw : MethodName := ⟨RX11, "withdraw", "(I)V"⟩
abbrev cX11_unit : ByteArray := prog_1_method_5_code
def yX11_unit : MethodName := ⟨RX11, "unit", "(I)I"⟩
abbrev cX11_tax : ByteArray := prog_1_method_6_code
def yX11_tax : MethodName := ⟨RX11, "tax", "(III)V"⟩
abbrev cX11_weight : ByteArray := prog_1_method_7_code
def yX11_weight : MethodName := ⟨RX11, "weight", "(III)I"⟩
abbrev cX11_proviso : ByteArray := prog_1_method_8_code
def yX11_proviso : MethodName := ⟨RX11, "proviso", "(IIII)I"⟩
abbrev cX11_penalty : ByteArray := prog_1_method_9_code
def yX11_penalty : MethodName := ⟨RX11, "penalty", "(I)I"⟩
abbrev cX11_leg : ByteArray := prog_1_method_10_code
def yX11_leg : MethodName := ⟨RX11, "leg", "(IIII)I"⟩
abbrev cX11_wipe : ByteArray := prog_1_method_11_code
def yX11_wipe : MethodName := ⟨RX11, "wipe", "()I"⟩
abbrev cX11_part : ByteArray := prog_1_method_12_code
def yX11_part : MethodName := ⟨RX11, "part", "(II)I"⟩
abbrev cX11_price : ByteArray := prog_1_method_13_code
def yX11_price : MethodName := ⟨RX11, "price", "()I"⟩
abbrev cX11_priceAnew : ByteArray := prog_1_method_14_code
def yX11_priceAnew : MethodName := ⟨RX11, "priceAnew", "()I"⟩
abbrev cX11_cuts : ByteArray := prog_1_method_15_code
def yX11_cuts : MethodName := ⟨RX11, "cuts", "()I"⟩
abbrev cX11_issue : ByteArray := prog_1_method_16_code
def yX11_issue : MethodName := ⟨RX11, "issue", "(I)I"⟩
abbrev cX11_fly : ByteArray := prog_1_method_17_code
def yX11_fly : MethodName := ⟨RX11, "fly", "(II)I"⟩
abbrev cX11_endorse : ByteArray := prog_1_method_18_code
def yX11_endorse : MethodName := ⟨RX11, "endorse", "(III)I"⟩
abbrev cX11_refund : ByteArray := prog_1_method_19_code
def yX11_refund : MethodName := ⟨RX11, "refund", "(I)I"⟩
abbrev cX11_reissue : ByteArray := prog_1_method_20_code
def yX11_reissue : MethodName := ⟨RX11, "reissue", "(I)I"⟩
abbrev cX11_pass : ByteArray := prog_1_method_21_code
def yX11_pass : MethodName := ⟨RX11, "pass", "(I)I"⟩
abbrev cX11_clear : ByteArray := prog_1_method_22_code
def yX11_clear : MethodName := ⟨RX11, "clear", "()J"⟩
abbrev cX11_reject : ByteArray := prog_1_method_23_code
def yX11_reject : MethodName := ⟨RX11, "reject", "(I)I"⟩
abbrev cX11_rebill : ByteArray := prog_1_method_24_code
def yX11_rebill : MethodName := ⟨RX11, "rebill", "(I)V"⟩
abbrev cX11_fails : ByteArray := prog_1_method_25_code
def yX11_fails : MethodName := ⟨RX11, "fails", "(IZ)I"⟩
abbrev cX11_ofTicket : ByteArray := prog_1_method_26_code
def yX11_ofTicket : MethodName := ⟨RX11, "ofTicket", "(II)I"⟩
abbrev cX11_ofCoupon : ByteArray := prog_1_method_27_code
def yX11_ofCoupon : MethodName := ⟨RX11, "ofCoupon", "(III)I"⟩
abbrev cX11_ofBill : ByteArray := prog_1_method_28_code
def yX11_ofBill : MethodName := ⟨RX11, "ofBill", "(II)I"⟩
abbrev cX11_cash : ByteArray := prog_1_method_29_code
def yX11_cash : MethodName := ⟨RX11, "cash", "(I)J"⟩
abbrev cX11_cashAnew : ByteArray := prog_1_method_30_code
def yX11_cashAnew : MethodName := ⟨RX11, "cashAnew", "(I)J"⟩
abbrev cX11_state : ByteArray := prog_1_method_31_code
def yX11_state : MethodName := ⟨RX11, "state", "(I)J"⟩
abbrev cX11_paid : ByteArray := prog_1_method_32_code
def yX11_paid : MethodName := ⟨RX11, "paid", "()J"⟩
abbrev cX11_of : ByteArray := prog_1_method_33_code
def yX11_of : MethodName := ⟨RX11, "of", "(I)I"⟩
abbrev cX11_isWithin : ByteArray := prog_1_method_34_code
def yX11_isWithin : MethodName := ⟨RX11, "isWithin", "(III)Z"⟩
abbrev cX11_isPlace : ByteArray := prog_1_method_35_code
def yX11_isPlace : MethodName := ⟨RX11, "isPlace", "(I)Z"⟩
abbrev cX11_isCarrier : ByteArray := prog_1_method_36_code
def yX11_isCarrier : MethodName := ⟨RX11, "isCarrier", "(I)Z"⟩
abbrev cX11_ticketAt : ByteArray := prog_1_method_37_code
def yX11_ticketAt : MethodName := ⟨RX11, "ticketAt", "(I)LProratehouse$Ticket;"⟩
abbrev cX11_canBeIssued : ByteArray := prog_1_method_38_code
def yX11_canBeIssued : MethodName := ⟨RX11, "canBeIssued", "()Z"⟩
abbrev cX11_issued : ByteArray := prog_1_method_39_code
def yX11_issued : MethodName := ⟨RX11, "issued", "(I)LProratehouse$Ticket;"⟩
abbrev cX11_shareOut : ByteArray := prog_1_method_40_code
def yX11_shareOut : MethodName := ⟨RX11, "shareOut", "(LProratehouse$Ticket;)V"⟩
abbrev cX11_receive : ByteArray := prog_1_method_41_code
def yX11_receive : MethodName := ⟨RX11, "receive", "(LProratehouse$Ticket;I)V"⟩
abbrev cX11_addCash : ByteArray := prog_1_method_42_code
def yX11_addCash : MethodName := ⟨RX11, "addCash", "(IJ)V"⟩
abbrev cX11_moveNets : ByteArray := prog_1_method_43_code
def yX11_moveNets : MethodName := ⟨RX11, "moveNets", "()V"⟩
def RX12 : String := "ProratehouseModel"
def TX12 : u_T := fun k => match k with
  | 0 => ("ProratehouseModel", "today", "I", false)
  | 1 => ("ProratehouseModel", "miles", "[I", true)
  | 2 => ("ProratehouseModel", "weight", "[I", true)
  | 3 => ("ProratehouseModel", "proviso", "[I", true)
  | 4 => ("ProratehouseModel", "departs", "[I", true)
  | 5 => ("ProratehouseModel", "changes", "[I", true)
  | 6 => ("ProratehouseModel", "fares", "I", false)
  | 7 => ("ProratehouseModel", "fareFrom", "[I", true)
  | 8 => ("ProratehouseModel", "fareTo", "[I", true)
  | 9 => ("ProratehouseModel", "cents", "[I", true)
  | 10 => ("ProratehouseModel", "first", "[I", true)
  | 11 => ("ProratehouseModel", "last", "[I", true)
  | 12 => ("ProratehouseModel", "stops", "[I", true)
  | 13 => ("ProratehouseModel", "isGone", "[Z", true)
  | 14 => ("ProratehouseModel", "unit", "I", false)
  | 15 => ("ProratehouseModel", "penalty", "I", false)
  | 16 => ("ProratehouseModel", "legs", "I", false)
  | 17 => ("ProratehouseModel", "from", "[I", true)
  | 18 => ("ProratehouseModel", "to", "[I", true)
  | 19 => ("ProratehouseModel", "by", "[I", true)
  | 20 => ("ProratehouseModel", "day", "[I", true)
  | 21 => ("ProratehouseModel", "best", "I", false)
  | 22 => ("ProratehouseModel", "bestCuts", "I", false)
  | 23 => ("ProratehouseModel", "tickets", "I", false)
  | 24 => ("ProratehouseModel", "price", "[I", true)
  | 25 => ("ProratehouseModel", "issuer", "[I", true)
  | 26 => ("ProratehouseModel", "many", "[I", true)
  | 27 => ("ProratehouseModel", "cuts", "[I", true)
  | 28 => ("ProratehouseModel", "stays", "[I", true)
  | 29 => ("ProratehouseModel", "state", "[I", true)
  | 30 => ("ProratehouseModel", "share", "[I", true)
  | 31 => ("ProratehouseModel", "tax", "[I", true)
  | 32 => ("ProratehouseModel", "carrier", "[I", true)
  | 33 => ("ProratehouseModel", "couponDay", "[I", true)
  | 34 => ("ProratehouseModel", "begins", "[I", true)
  | 35 => ("ProratehouseModel", "billOf", "[I", true)
  | 36 => ("ProratehouseModel", "bills", "I", false)
  | 37 => ("ProratehouseModel", "billState", "[I", true)
  | 38 => ("ProratehouseModel", "amount", "[I", true)
  | 39 => ("ProratehouseModel", "payer", "[I", true)
  | 40 => ("ProratehouseModel", "payee", "[I", true)
  | 41 => ("ProratehouseModel", "rejected", "[I", true)
  | 42 => ("ProratehouseModel", "settled", "[I", true)
  | 43 => ("ProratehouseModel", "clearings", "I", false)
  | 44 => ("ProratehouseModel", "isIn", "[Z", true)
  | 45 => ("ProratehouseModel", "net", "[J", true)
  | 46 => ("ProratehouseModel", "cash", "[J", true)
  | 47 => ("ProratehouseModel", "got", "[J", true)
  | 48 => ("ProratehouseModel", "paid", "J", false)
  | _ => ("ProratehouseModel", "thrown", "I", false)
def tyX12 : Nat → FieldType := fun k => match k with
  | 0 => .int
  | 1 => .array .int
  | 2 => .array .int
  | 3 => .array .int
  | 4 => .array .int
  | 5 => .array .int
  | 6 => .int
  | 7 => .array .int
  | 8 => .array .int
  | 9 => .array .int
  | 10 => .array .int
  | 11 => .array .int
  | 12 => .array .int
  | 13 => .array .boolean
  | 14 => .int
  | 15 => .int
  | 16 => .int
  | 17 => .array .int
  | 18 => .array .int
  | 19 => .array .int
  | 20 => .array .int
  | 21 => .int
  | 22 => .int
  | 23 => .int
  | 24 => .array .int
  | 25 => .array .int
  | 26 => .array .int
  | 27 => .array .int
  | 28 => .array .int
  | 29 => .array .int
  | 30 => .array .int
  | 31 => .array .int
  | 32 => .array .int
  | 33 => .array .int
  | 34 => .array .int
  | 35 => .array .int
  | 36 => .int
  | 37 => .array .int
  | 38 => .array .int
  | 39 => .array .int
  | 40 => .array .int
  | 41 => .array .int
  | 42 => .array .int
  | 43 => .int
  | 44 => .array .boolean
  | 45 => .array .long
  | 46 => .array .long
  | 47 => .array .long
  | 48 => .long
  | _ => .int
abbrev wsX120 : List Cond := u_ws RX12 TX12 50
theorem nmX12 : ∀ a, a < 50 → ∀ b, b < 50 → a ≠ b → (TX12 a).2.1 ≠ (TX12 b).2.1 := by decide +kernel
theorem tyX12_ok : ∀ k, k < 50 → parseFieldDescriptor (TX12 k).2.2.1 = some (tyX12 k) := by decide +kernel
abbrev cX12_init : ByteArray := prog_14_method_1_code
def yX12_init : MethodName := ⟨RX12, "<init>", "()V"⟩
abbrev cX12_thrown : ByteArray := prog_14_method_2_code
def yX12_thrown : MethodName := ⟨RX12, "thrown", "()I"⟩
abbrev cX12_in : ByteArray := prog_14_method_3_code
def yX12_in : MethodName := ⟨RX12, "in", "(III)Z"⟩
abbrev cX12_goes : ByteArray := prog_14_method_4_code
def yX12_goes : MethodName := ⟨RX12, "goes", "(ZZZ)Z"⟩
abbrev cX12_isPlace : ByteArray := prog_14_method_5_code
def yX12_isPlace : MethodName := ⟨RX12, "isPlace", "(I)Z"⟩
abbrev cX12_isCarrier : ByteArray := prog_14_method_6_code
def yX12_isCarrier : MethodName := ⟨RX12, "isCarrier", "(I)Z"⟩
abbrev cX12_miles : ByteArray := prog_14_method_7_code
def yX12_miles : MethodName := ⟨RX12, "miles", "(III)I"⟩
abbrev cX12_fare : ByteArray := prog_14_method_8_code
def yX12_fare : MethodName := ⟨RX12, "fare", "(IIIIII)I"⟩
abbrev cX12_withdraw : ByteArray := prog_14_method_9_code
def yX12_withdraw : MethodName := ⟨RX12, "withdraw", "(I)V"⟩
abbrev cX12_unit : ByteArray := prog_14_method_10_code
def yX12_unit : MethodName := ⟨RX12, "unit", "(I)I"⟩
abbrev cX12_tax : ByteArray := prog_14_method_11_code
def yX12_tax : MethodName := ⟨RX12, "tax", "(III)V"⟩
abbrev cX12_weight : ByteArray := prog_14_method_12_code
def yX12_weight : MethodName := ⟨RX12, "weight", "(III)I"⟩
abbrev cX12_proviso : ByteArray := prog_14_method_13_code
def yX12_proviso : MethodName := ⟨RX12, "proviso", "(IIII)I"⟩
abbrev cX12_penalty : ByteArray := prog_14_method_14_code
def yX12_penalty : MethodName := ⟨RX12, "penalty", "(I)I"⟩
abbrev cX12_leg : ByteArray := prog_14_method_15_code
def yX12_leg : MethodName := ⟨RX12, "leg", "(IIII)I"⟩
abbrev cX12_wipe : ByteArray := prog_14_method_16_code
def yX12_wipe : MethodName := ⟨RX12, "wipe", "()I"⟩
abbrev cX12_placeOf : ByteArray := prog_14_method_17_code
def yX12_placeOf : MethodName := ⟨RX12, "placeOf", "(I)I"⟩
abbrev cX12_isStop : ByteArray := prog_14_method_18_code
def yX12_isStop : MethodName := ⟨RX12, "isStop", "(I)Z"⟩
abbrev cX12_lowest : ByteArray := prog_14_method_19_code
def yX12_lowest : MethodName := ⟨RX12, "lowest", "(III)I"⟩
abbrev cX12_stopsIn : ByteArray := prog_14_method_20_code
def yX12_stopsIn : MethodName := ⟨RX12, "stopsIn", "(II)I"⟩
abbrev cX12_milesOf : ByteArray := prog_14_method_21_code
def yX12_milesOf : MethodName := ⟨RX12, "milesOf", "(I)I"⟩
abbrev cX12_partOf : ByteArray := prog_14_method_22_code
def yX12_partOf : MethodName := ⟨RX12, "partOf", "(II)I"⟩
abbrev cX12_part : ByteArray := prog_14_method_23_code
def yX12_part : MethodName := ⟨RX12, "part", "(II)I"⟩
abbrev cX12_sumOf : ByteArray := prog_14_method_24_code
def yX12_sumOf : MethodName := ⟨RX12, "sumOf", "(I)I"⟩
abbrev cX12_finds : ByteArray := prog_14_method_25_code
def yX12_finds : MethodName := ⟨RX12, "finds", "()I"⟩
abbrev cX12_price : ByteArray := prog_14_method_26_code
def yX12_price : MethodName := ⟨RX12, "price", "()I"⟩
abbrev cX12_priceAnew : ByteArray := prog_14_method_27_code
def yX12_priceAnew : MethodName := ⟨RX12, "priceAnew", "()I"⟩
abbrev cX12_cuts : ByteArray := prog_14_method_28_code
def yX12_cuts : MethodName := ⟨RX12, "cuts", "()I"⟩
abbrev cX12_weightOf : ByteArray := prog_14_method_29_code
def yX12_weightOf : MethodName := ⟨RX12, "weightOf", "(I)I"⟩
abbrev cX12_provisoOf : ByteArray := prog_14_method_30_code
def yX12_provisoOf : MethodName := ⟨RX12, "provisoOf", "(I)I"⟩
abbrev cX12_shares : ByteArray := prog_14_method_31_code
def yX12_shares : MethodName := ⟨RX12, "shares", "(III)I"⟩
abbrev cX12_makes : ByteArray := prog_14_method_32_code
def yX12_makes : MethodName := ⟨RX12, "makes", "(II)V"⟩
abbrev cX12_taxes : ByteArray := prog_14_method_33_code
def yX12_taxes : MethodName := ⟨RX12, "taxes", "(I)I"⟩
abbrev cX12_buys : ByteArray := prog_14_method_34_code
def yX12_buys : MethodName := ⟨RX12, "buys", "(II)V"⟩
abbrev cX12_canIssue : ByteArray := prog_14_method_35_code
def yX12_canIssue : MethodName := ⟨RX12, "canIssue", "()Z"⟩
abbrev cX12_issue : ByteArray := prog_14_method_36_code
def yX12_issue : MethodName := ⟨RX12, "issue", "(I)I"⟩
abbrev cX12_isTicket : ByteArray := prog_14_method_37_code
def yX12_isTicket : MethodName := ⟨RX12, "isTicket", "(I)Z"⟩
abbrev cX12_isCoupon : ByteArray := prog_14_method_38_code
def yX12_isCoupon : MethodName := ⟨RX12, "isCoupon", "(II)Z"⟩
abbrev cX12_fly : ByteArray := prog_14_method_39_code
def yX12_fly : MethodName := ⟨RX12, "fly", "(II)I"⟩
abbrev cX12_endorse : ByteArray := prog_14_method_40_code
def yX12_endorse : MethodName := ⟨RX12, "endorse", "(III)I"⟩
abbrev cX12_hasOpen : ByteArray := prog_14_method_41_code
def yX12_hasOpen : MethodName := ⟨RX12, "hasOpen", "(I)Z"⟩
abbrev cX12_openOnes : ByteArray := prog_14_method_42_code
def yX12_openOnes : MethodName := ⟨RX12, "openOnes", "(IZ)I"⟩
abbrev cX12_turns : ByteArray := prog_14_method_43_code
def yX12_turns : MethodName := ⟨RX12, "turns", "(II)V"⟩
abbrev cX12_refund : ByteArray := prog_14_method_44_code
def yX12_refund : MethodName := ⟨RX12, "refund", "(I)I"⟩
abbrev cX12_reissue : ByteArray := prog_14_method_45_code
def yX12_reissue : MethodName := ⟨RX12, "reissue", "(I)I"⟩
abbrev cX12_pass : ByteArray := prog_14_method_46_code
def yX12_pass : MethodName := ⟨RX12, "pass", "(I)I"⟩
abbrev cX12_moves : ByteArray := prog_14_method_47_code
def yX12_moves : MethodName := ⟨RX12, "moves", "(III)V"⟩
abbrev cX12_backOf : ByteArray := prog_14_method_48_code
def yX12_backOf : MethodName := ⟨RX12, "backOf", "(I)I"⟩
abbrev cX12_settles : ByteArray := prog_14_method_49_code
def yX12_settles : MethodName := ⟨RX12, "settles", "(I)V"⟩
abbrev cX12_clear : ByteArray := prog_14_method_50_code
def yX12_clear : MethodName := ⟨RX12, "clear", "()J"⟩
abbrev cX12_isBill : ByteArray := prog_14_method_51_code
def yX12_isBill : MethodName := ⟨RX12, "isBill", "(I)Z"⟩
abbrev cX12_reject : ByteArray := prog_14_method_52_code
def yX12_reject : MethodName := ⟨RX12, "reject", "(I)I"⟩
abbrev cX12_rebill : ByteArray := prog_14_method_53_code
def yX12_rebill : MethodName := ⟨RX12, "rebill", "(I)V"⟩
abbrev cX12_undoes : ByteArray := prog_14_method_54_code
def yX12_undoes : MethodName := ⟨RX12, "undoes", "(I)V"⟩
abbrev cX12_fails : ByteArray := prog_14_method_55_code
def yX12_fails : MethodName := ⟨RX12, "fails", "(IZ)I"⟩
abbrev cX12_ofTicket : ByteArray := prog_14_method_56_code
def yX12_ofTicket : MethodName := ⟨RX12, "ofTicket", "(II)I"⟩
abbrev cX12_ofCoupon : ByteArray := prog_14_method_57_code
def yX12_ofCoupon : MethodName := ⟨RX12, "ofCoupon", "(III)I"⟩
abbrev cX12_ofBill : ByteArray := prog_14_method_58_code
def yX12_ofBill : MethodName := ⟨RX12, "ofBill", "(II)I"⟩
abbrev cX12_cash : ByteArray := prog_14_method_59_code
def yX12_cash : MethodName := ⟨RX12, "cash", "(I)J"⟩
abbrev cX12_cashAnew : ByteArray := prog_14_method_60_code
def yX12_cashAnew : MethodName := ⟨RX12, "cashAnew", "(I)J"⟩
abbrev cX12_state : ByteArray := prog_14_method_61_code
def yX12_state : MethodName := ⟨RX12, "state", "(I)J"⟩
abbrev cX12_paid : ByteArray := prog_14_method_62_code
def yX12_paid : MethodName := ⟨RX12, "paid", "()J"⟩
abbrev cX12_defaults : ByteArray := prog_14_method_63_code
def yX12_defaults : MethodName := ⟨RX12, "defaults", "()I"⟩
abbrev cX12_of : ByteArray := prog_14_method_64_code
def yX12_of : MethodName := ⟨RX12, "of", "(I)I"⟩
def RJ9 : String := "java/lang/Math"
def TJ9 : u_T := fun k => match k with
  | _ => ("", "", "", false)
def tyJ9 : Nat → FieldType := fun k => match k with
  | _ => .int
abbrev wsJ90 : List Cond := u_ws RJ9 TJ9 0
theorem nmJ9 : ∀ a, a < 0 → ∀ b, b < 0 → a ≠ b → (TJ9 a).2.1 ≠ (TJ9 b).2.1 := by decide +kernel
theorem tyJ9_ok : ∀ k, k < 0 → parseFieldDescriptor (TJ9 k).2.2.1 = some (tyJ9 k) := by decide +kernel
abbrev cJ9_max_7cf53 : ByteArray := prog_19_method_65_code
def yJ9_max_7cf53 : MethodName := ⟨RJ9, "max", "(II)I"⟩
abbrev cJ9_max_f86c9 : ByteArray := prog_19_method_66_code
def yJ9_max_f86c9 : MethodName := ⟨RJ9, "max", "(JJ)J"⟩
abbrev cJ9_min_7cf53 : ByteArray := prog_19_method_69_code
def yJ9_min_7cf53 : MethodName := ⟨RJ9, "min", "(II)I"⟩
def RJ0 : String := "java/lang/String"
def TJ0 : u_T := fun k => match k with
  | _ => ("", "", "", false)
def tyJ0 : Nat → FieldType := fun k => match k with
  | _ => .int
abbrev wsJ00 : List Cond := u_ws RJ0 TJ0 0
theorem nmJ0 : ∀ a, a < 0 → ∀ b, b < 0 → a ≠ b → (TJ0 a).2.1 ≠ (TJ0 b).2.1 := by decide +kernel
theorem tyJ0_ok : ∀ k, k < 0 → parseFieldDescriptor (TJ0 k).2.2.1 = some (tyJ0 k) := by decide +kernel
def RL : String := "ProratehouseLaw"
abbrev cL_miles : ByteArray := method_3_code
def yL_miles : MethodName := ⟨RL, "miles", "(LProratehouse;III[J)I"⟩
abbrev cL_fare : ByteArray := method_4_code
def yL_fare : MethodName := ⟨RL, "fare", "(LProratehouse;IIIIII[J)I"⟩
abbrev cL_withdraw : ByteArray := method_5_code
def yL_withdraw : MethodName := ⟨RL, "withdraw", "(LProratehouse;I)I"⟩
abbrev cL_unit : ByteArray := method_6_code
def yL_unit : MethodName := ⟨RL, "unit", "(LProratehouse;I[J)I"⟩
abbrev cL_tax : ByteArray := method_7_code
def yL_tax : MethodName := ⟨RL, "tax", "(LProratehouse;III)I"⟩
abbrev cL_weight : ByteArray := method_8_code
def yL_weight : MethodName := ⟨RL, "weight", "(LProratehouse;III[J)I"⟩
abbrev cL_proviso : ByteArray := method_9_code
def yL_proviso : MethodName := ⟨RL, "proviso", "(LProratehouse;IIII[J)I"⟩
abbrev cL_penalty : ByteArray := method_10_code
def yL_penalty : MethodName := ⟨RL, "penalty", "(LProratehouse;I[J)I"⟩
abbrev cL_leg : ByteArray := method_11_code
def yL_leg : MethodName := ⟨RL, "leg", "(LProratehouse;IIII[J)I"⟩
abbrev cL_part : ByteArray := method_12_code
def yL_part : MethodName := ⟨RL, "part", "(LProratehouse;II[J)I"⟩
abbrev cL_issue : ByteArray := method_13_code
def yL_issue : MethodName := ⟨RL, "issue", "(LProratehouse;I[J)I"⟩
abbrev cL_fly : ByteArray := method_14_code
def yL_fly : MethodName := ⟨RL, "fly", "(LProratehouse;II[J)I"⟩
abbrev cL_endorse : ByteArray := method_15_code
def yL_endorse : MethodName := ⟨RL, "endorse", "(LProratehouse;III[J)I"⟩
abbrev cL_refund : ByteArray := method_16_code
def yL_refund : MethodName := ⟨RL, "refund", "(LProratehouse;I[J)I"⟩
abbrev cL_reissue : ByteArray := method_17_code
def yL_reissue : MethodName := ⟨RL, "reissue", "(LProratehouse;I[J)I"⟩
abbrev cL_pass : ByteArray := method_18_code
def yL_pass : MethodName := ⟨RL, "pass", "(LProratehouse;I[J)I"⟩
abbrev cL_reject : ByteArray := method_19_code
def yL_reject : MethodName := ⟨RL, "reject", "(LProratehouse;I[J)I"⟩
abbrev cL_rebill : ByteArray := method_20_code
def yL_rebill : MethodName := ⟨RL, "rebill", "(LProratehouse;I)I"⟩
abbrev cL_fails : ByteArray := method_21_code
def yL_fails : MethodName := ⟨RL, "fails", "(LProratehouse;IZ[J)I"⟩
abbrev cL_ofTicket : ByteArray := method_22_code
def yL_ofTicket : MethodName := ⟨RL, "ofTicket", "(LProratehouse;II[J)I"⟩
abbrev cL_ofCoupon : ByteArray := method_23_code
def yL_ofCoupon : MethodName := ⟨RL, "ofCoupon", "(LProratehouse;III[J)I"⟩
abbrev cL_ofBill : ByteArray := method_24_code
def yL_ofBill : MethodName := ⟨RL, "ofBill", "(LProratehouse;II[J)I"⟩
abbrev cL_cash : ByteArray := method_25_code
def yL_cash : MethodName := ⟨RL, "cash", "(LProratehouse;I[J)I"⟩
abbrev cL_cashAnew : ByteArray := method_26_code
def yL_cashAnew : MethodName := ⟨RL, "cashAnew", "(LProratehouse;I[J)I"⟩
abbrev cL_state : ByteArray := method_27_code
def yL_state : MethodName := ⟨RL, "state", "(LProratehouse;I[J)I"⟩
abbrev cL_of : ByteArray := method_28_code
def yL_of : MethodName := ⟨RL, "of", "(LProratehouse;I[J)I"⟩
abbrev cL_law : ByteArray := code
def yL_law : MethodName := ⟨RL, "law", "([I)Z"⟩
abbrev vwCl : List vw_C := [(RX0, TX0, 6), (RX1, TX1, 5), (RX2, TX2, 9), (RX3, TX3, 7), (RX4, TX4, 2), (RX5, TX5, 4), (RX6, TX6, 1), (RX7, TX7, 2), (RX8, TX8, 7), (RX9, TX9, 8), (RX10, TX10, 5), (RX11, TX11, 11), (RX12, TX12, 50)]
end
section
theorem dX0_init_0 : decode cX0_init 0 = .ok (.aload_n 0, 1) := by decide +kernel
theorem dX0_init_1 : decode cX0_init 1 = .ok (.invokespecial 3, 3) := by decide +kernel
theorem dX0_init_4 : decode cX0_init 4 = .ok (.aload_n 0, 1) := by decide +kernel
theorem dX0_init_5 : decode cX0_init 5 = .ok (.iconst 0, 1) := by decide +kernel
theorem dX0_init_6 : decode cX0_init 6 = .ok (.putfield 9, 3) := by decide +kernel
theorem dX0_init_9 : decode cX0_init 9 = .ok (.aload_n 0, 1) := by decide +kernel
theorem dX0_init_10 : decode cX0_init 10 = .ok (.iload_n 1, 1) := by decide +kernel
theorem dX0_init_11 : decode cX0_init 11 = .ok (.putfield 15, 3) := by decide +kernel
theorem dX0_init_14 : decode cX0_init 14 = .ok (.aload_n 0, 1) := by decide +kernel
theorem dX0_init_15 : decode cX0_init 15 = .ok (.iload_n 2, 1) := by decide +kernel
theorem dX0_init_16 : decode cX0_init 16 = .ok (.putfield 18, 3) := by decide +kernel
theorem dX0_init_19 : decode cX0_init 19 = .ok (.aload_n 0, 1) := by decide +kernel
theorem dX0_init_20 : decode cX0_init 20 = .ok (.iload_n 3, 1) := by decide +kernel
theorem dX0_init_21 : decode cX0_init 21 = .ok (.putfield 21, 3) := by decide +kernel
theorem dX0_init_24 : decode cX0_init 24 = .ok (.return_, 1) := by decide +kernel
theorem dX0_isOf_0 : decode cX0_isOf 0 = .ok (.aload_n 0, 1) := by decide +kernel
theorem dX0_isOf_1 : decode cX0_isOf 1 = .ok (.getfield 15, 3) := by decide +kernel
theorem dX0_isOf_4 : decode cX0_isOf 4 = .ok (.iload_n 1, 1) := by decide +kernel
theorem dX0_isOf_5 : decode cX0_isOf 5 = .ok (.if_icmp .eq 11, 3) := by decide +kernel
theorem dX0_isOf_8 : decode cX0_isOf 8 = .ok (.aload_n 0, 1) := by decide +kernel
theorem dX0_isOf_9 : decode cX0_isOf 9 = .ok (.getfield 18, 3) := by decide +kernel
theorem dX0_isOf_12 : decode cX0_isOf 12 = .ok (.iload_n 1, 1) := by decide +kernel
theorem dX0_isOf_13 : decode cX0_isOf 13 = .ok (.if_icmp .ne 7, 3) := by decide +kernel
theorem dX0_isOf_16 : decode cX0_isOf 16 = .ok (.iconst 1, 1) := by decide +kernel
theorem dX0_isOf_17 : decode cX0_isOf 17 = .ok (.goto 4, 3) := by decide +kernel
theorem dX0_isOf_20 : decode cX0_isOf 20 = .ok (.iconst 0, 1) := by decide +kernel
theorem dX0_isOf_21 : decode cX0_isOf 21 = .ok (.ireturn, 1) := by decide +kernel
theorem dX0_isToBeSettled_0 : decode cX0_isToBeSettled 0 = .ok (.aload_n 0, 1) := by decide +kernel
theorem dX0_isToBeSettled_1 : decode cX0_isToBeSettled 1 = .ok (.getfield 9, 3) := by decide +kernel
theorem dX0_isToBeSettled_4 : decode cX0_isToBeSettled 4 = .ok (.ifCond .eq 11, 3) := by decide +kernel
theorem dX0_isToBeSettled_7 : decode cX0_isToBeSettled 7 = .ok (.aload_n 0, 1) := by decide +kernel
theorem dX0_isToBeSettled_8 : decode cX0_isToBeSettled 8 = .ok (.getfield 9, 3) := by decide +kernel
theorem dX0_isToBeSettled_11 : decode cX0_isToBeSettled 11 = .ok (.iconst 2, 1) := by decide +kernel
theorem dX0_isToBeSettled_12 : decode cX0_isToBeSettled 12 = .ok (.if_icmp .ne 7, 3) := by decide +kernel
theorem dX0_isToBeSettled_15 : decode cX0_isToBeSettled 15 = .ok (.iconst 1, 1) := by decide +kernel
theorem dX0_isToBeSettled_16 : decode cX0_isToBeSettled 16 = .ok (.goto 4, 3) := by decide +kernel
theorem dX0_isToBeSettled_19 : decode cX0_isToBeSettled 19 = .ok (.iconst 0, 1) := by decide +kernel
theorem dX0_isToBeSettled_20 : decode cX0_isToBeSettled 20 = .ok (.ireturn, 1) := by decide +kernel
theorem dX0_isAsLeftBy_0 : decode cX0_isAsLeftBy 0 = .ok (.aload_n 0, 1) := by decide +kernel
theorem dX0_isAsLeftBy_1 : decode cX0_isAsLeftBy 1 = .ok (.getfield 24, 3) := by decide +kernel
theorem dX0_isAsLeftBy_4 : decode cX0_isAsLeftBy 4 = .ok (.iload_n 1, 1) := by decide +kernel
theorem dX0_isAsLeftBy_5 : decode cX0_isAsLeftBy 5 = .ok (.if_icmp .ne 14, 3) := by decide +kernel
theorem dX0_isAsLeftBy_8 : decode cX0_isAsLeftBy 8 = .ok (.aload_n 0, 1) := by decide +kernel
theorem dX0_isAsLeftBy_9 : decode cX0_isAsLeftBy 9 = .ok (.invokevirtual 27, 3) := by decide +kernel
theorem dX0_isAsLeftBy_12 : decode cX0_isAsLeftBy 12 = .ok (.ifCond .ne 7, 3) := by decide +kernel
theorem dX0_isAsLeftBy_15 : decode cX0_isAsLeftBy 15 = .ok (.iconst 1, 1) := by decide +kernel
theorem dX0_isAsLeftBy_16 : decode cX0_isAsLeftBy 16 = .ok (.goto 4, 3) := by decide +kernel
theorem dX0_isAsLeftBy_19 : decode cX0_isAsLeftBy 19 = .ok (.iconst 0, 1) := by decide +kernel
theorem dX0_isAsLeftBy_20 : decode cX0_isAsLeftBy 20 = .ok (.ireturn, 1) := by decide +kernel
theorem dX0_amountBack_0 : decode cX0_amountBack 0 = .ok (.aload_n 0, 1) := by decide +kernel
theorem dX0_amountBack_1 : decode cX0_amountBack 1 = .ok (.getfield 31, 3) := by decide +kernel
theorem dX0_amountBack_4 : decode cX0_amountBack 4 = .ok (.iconst 3, 1) := by decide +kernel
theorem dX0_amountBack_5 : decode cX0_amountBack 5 = .ok (.if_icmp .lt 12, 3) := by decide +kernel
theorem dX0_amountBack_8 : decode cX0_amountBack 8 = .ok (.aload_n 0, 1) := by decide +kernel
theorem dX0_amountBack_9 : decode cX0_amountBack 9 = .ok (.getfield 21, 3) := by decide +kernel
theorem dX0_amountBack_12 : decode cX0_amountBack 12 = .ok (.iconst 2, 1) := by decide +kernel
theorem dX0_amountBack_13 : decode cX0_amountBack 13 = .ok (.idiv, 1) := by decide +kernel
theorem dX0_amountBack_14 : decode cX0_amountBack 14 = .ok (.goto 7, 3) := by decide +kernel
theorem dX0_amountBack_17 : decode cX0_amountBack 17 = .ok (.aload_n 0, 1) := by decide +kernel
theorem dX0_amountBack_18 : decode cX0_amountBack 18 = .ok (.getfield 21, 3) := by decide +kernel
theorem dX0_amountBack_21 : decode cX0_amountBack 21 = .ok (.ireturn, 1) := by decide +kernel
theorem dX0_settle_0 : decode cX0_settle 0 = .ok (.aload_n 0, 1) := by decide +kernel
theorem dX0_settle_1 : decode cX0_settle 1 = .ok (.iload_n 1, 1) := by decide +kernel
theorem dX0_settle_2 : decode cX0_settle 2 = .ok (.putfield 24, 3) := by decide +kernel
theorem dX0_settle_5 : decode cX0_settle 5 = .ok (.aload_n 0, 1) := by decide +kernel
theorem dX0_settle_6 : decode cX0_settle 6 = .ok (.getfield 9, 3) := by decide +kernel
theorem dX0_settle_9 : decode cX0_settle 9 = .ok (.ifCond .ne 13, 3) := by decide +kernel
theorem dX0_settle_12 : decode cX0_settle 12 = .ok (.aload_n 0, 1) := by decide +kernel
theorem dX0_settle_13 : decode cX0_settle 13 = .ok (.iconst 1, 1) := by decide +kernel
theorem dX0_settle_14 : decode cX0_settle 14 = .ok (.putfield 9, 3) := by decide +kernel
theorem dX0_settle_17 : decode cX0_settle 17 = .ok (.aload_n 0, 1) := by decide +kernel
theorem dX0_settle_18 : decode cX0_settle 18 = .ok (.getfield 21, 3) := by decide +kernel
theorem dX0_settle_21 : decode cX0_settle 21 = .ok (.ireturn, 1) := by decide +kernel
theorem dX0_settle_22 : decode cX0_settle 22 = .ok (.aload_n 0, 1) := by decide +kernel
theorem dX0_settle_23 : decode cX0_settle 23 = .ok (.aload_n 0, 1) := by decide +kernel
theorem dX0_settle_24 : decode cX0_settle 24 = .ok (.getfield 31, 3) := by decide +kernel
theorem dX0_settle_27 : decode cX0_settle 27 = .ok (.iconst 3, 1) := by decide +kernel
theorem dX0_settle_28 : decode cX0_settle 28 = .ok (.if_icmp .lt 7, 3) := by decide +kernel
theorem dX0_settle_31 : decode cX0_settle 31 = .ok (.iconst 4, 1) := by decide +kernel
theorem dX0_settle_32 : decode cX0_settle 32 = .ok (.goto 4, 3) := by decide +kernel
theorem dX0_settle_35 : decode cX0_settle 35 = .ok (.iconst 3, 1) := by decide +kernel
theorem dX0_settle_36 : decode cX0_settle 36 = .ok (.putfield 9, 3) := by decide +kernel
theorem dX0_settle_39 : decode cX0_settle 39 = .ok (.aload_n 0, 1) := by decide +kernel
theorem dX0_settle_40 : decode cX0_settle 40 = .ok (.invokevirtual 34, 3) := by decide +kernel
theorem dX0_settle_43 : decode cX0_settle 43 = .ok (.ineg, 1) := by decide +kernel
theorem dX0_settle_44 : decode cX0_settle 44 = .ok (.ireturn, 1) := by decide +kernel
theorem dX0_undo_0 : decode cX0_undo 0 = .ok (.aload_n 0, 1) := by decide +kernel
theorem dX0_undo_1 : decode cX0_undo 1 = .ok (.iconst 0, 1) := by decide +kernel
theorem dX0_undo_2 : decode cX0_undo 2 = .ok (.putfield 24, 3) := by decide +kernel
theorem dX0_undo_5 : decode cX0_undo 5 = .ok (.aload_n 0, 1) := by decide +kernel
theorem dX0_undo_6 : decode cX0_undo 6 = .ok (.getfield 9, 3) := by decide +kernel
theorem dX0_undo_9 : decode cX0_undo 9 = .ok (.iconst 1, 1) := by decide +kernel
theorem dX0_undo_10 : decode cX0_undo 10 = .ok (.if_icmp .ne 14, 3) := by decide +kernel
theorem dX0_undo_13 : decode cX0_undo 13 = .ok (.aload_n 0, 1) := by decide +kernel
theorem dX0_undo_14 : decode cX0_undo 14 = .ok (.iconst 0, 1) := by decide +kernel
theorem dX0_undo_15 : decode cX0_undo 15 = .ok (.putfield 9, 3) := by decide +kernel
theorem dX0_undo_18 : decode cX0_undo 18 = .ok (.aload_n 0, 1) := by decide +kernel
theorem dX0_undo_19 : decode cX0_undo 19 = .ok (.getfield 21, 3) := by decide +kernel
theorem dX0_undo_22 : decode cX0_undo 22 = .ok (.ineg, 1) := by decide +kernel
theorem dX0_undo_23 : decode cX0_undo 23 = .ok (.ireturn, 1) := by decide +kernel
theorem dX0_undo_24 : decode cX0_undo 24 = .ok (.aload_n 0, 1) := by decide +kernel
theorem dX0_undo_25 : decode cX0_undo 25 = .ok (.iconst 2, 1) := by decide +kernel
theorem dX0_undo_26 : decode cX0_undo 26 = .ok (.putfield 9, 3) := by decide +kernel
theorem dX0_undo_29 : decode cX0_undo 29 = .ok (.aload_n 0, 1) := by decide +kernel
theorem dX0_undo_30 : decode cX0_undo 30 = .ok (.invokevirtual 34, 3) := by decide +kernel
theorem dX0_undo_33 : decode cX0_undo 33 = .ok (.ireturn, 1) := by decide +kernel
theorem dX0_gotByPayee_0 : decode cX0_gotByPayee 0 = .ok (.aload_n 0, 1) := by decide +kernel
theorem dX0_gotByPayee_1 : decode cX0_gotByPayee 1 = .ok (.getfield 9, 3) := by decide +kernel
theorem dX0_gotByPayee_4 : decode cX0_gotByPayee 4 = .ok (.tableswitch 49 1 4 #[32, 32, 49, 37], 32) := by decide +kernel
theorem dX0_gotByPayee_36 : decode cX0_gotByPayee 36 = .ok (.aload_n 0, 1) := by decide +kernel
theorem dX0_gotByPayee_37 : decode cX0_gotByPayee 37 = .ok (.getfield 21, 3) := by decide +kernel
theorem dX0_gotByPayee_40 : decode cX0_gotByPayee 40 = .ok (.ireturn, 1) := by decide +kernel
theorem dX0_gotByPayee_41 : decode cX0_gotByPayee 41 = .ok (.aload_n 0, 1) := by decide +kernel
theorem dX0_gotByPayee_42 : decode cX0_gotByPayee 42 = .ok (.getfield 21, 3) := by decide +kernel
theorem dX0_gotByPayee_45 : decode cX0_gotByPayee 45 = .ok (.aload_n 0, 1) := by decide +kernel
theorem dX0_gotByPayee_46 : decode cX0_gotByPayee 46 = .ok (.getfield 21, 3) := by decide +kernel
theorem dX0_gotByPayee_49 : decode cX0_gotByPayee 49 = .ok (.iconst 2, 1) := by decide +kernel
theorem dX0_gotByPayee_50 : decode cX0_gotByPayee 50 = .ok (.idiv, 1) := by decide +kernel
theorem dX0_gotByPayee_51 : decode cX0_gotByPayee 51 = .ok (.isub, 1) := by decide +kernel
theorem dX0_gotByPayee_52 : decode cX0_gotByPayee 52 = .ok (.ireturn, 1) := by decide +kernel
theorem dX0_gotByPayee_53 : decode cX0_gotByPayee 53 = .ok (.iconst 0, 1) := by decide +kernel
theorem dX0_gotByPayee_54 : decode cX0_gotByPayee 54 = .ok (.ireturn, 1) := by decide +kernel
theorem dX1_init_0 : decode cX1_init 0 = .ok (.aload_n 0, 1) := by decide +kernel
theorem dX1_init_1 : decode cX1_init 1 = .ok (.invokespecial 3, 3) := by decide +kernel
theorem dX1_init_4 : decode cX1_init 4 = .ok (.aload_n 0, 1) := by decide +kernel
theorem dX1_init_5 : decode cX1_init 5 = .ok (.sipush 240, 3) := by decide +kernel
theorem dX1_init_8 : decode cX1_init 8 = .ok (.anewarray 9, 3) := by decide +kernel
theorem dX1_init_11 : decode cX1_init 11 = .ok (.putfield 11, 3) := by decide +kernel
theorem dX1_init_14 : decode cX1_init 14 = .ok (.aload_n 0, 1) := by decide +kernel
theorem dX1_init_15 : decode cX1_init 15 = .ok (.iconst 5, 1) := by decide +kernel
theorem dX1_init_16 : decode cX1_init 16 = .ok (.newarray .long, 2) := by decide +kernel
theorem dX1_init_18 : decode cX1_init 18 = .ok (.putfield 17, 3) := by decide +kernel
theorem dX1_init_21 : decode cX1_init 21 = .ok (.return_, 1) := by decide +kernel
theorem dX1_addBill_0 : decode cX1_addBill 0 = .ok (.aload_n 0, 1) := by decide +kernel
theorem dX1_addBill_1 : decode cX1_addBill 1 = .ok (.getfield 21, 3) := by decide +kernel
theorem dX1_addBill_4 : decode cX1_addBill 4 = .ok (.sipush 240, 3) := by decide +kernel
theorem dX1_addBill_7 : decode cX1_addBill 7 = .ok (.if_icmp .lt 5, 3) := by decide +kernel
theorem dX1_addBill_10 : decode cX1_addBill 10 = .ok (.iconst (-1), 1) := by decide +kernel
theorem dX1_addBill_11 : decode cX1_addBill 11 = .ok (.ireturn, 1) := by decide +kernel
theorem dX1_addBill_12 : decode cX1_addBill 12 = .ok (.aload_n 0, 1) := by decide +kernel
theorem dX1_addBill_13 : decode cX1_addBill 13 = .ok (.getfield 11, 3) := by decide +kernel
theorem dX1_addBill_16 : decode cX1_addBill 16 = .ok (.aload_n 0, 1) := by decide +kernel
theorem dX1_addBill_17 : decode cX1_addBill 17 = .ok (.getfield 21, 3) := by decide +kernel
theorem dX1_addBill_20 : decode cX1_addBill 20 = .ok (.new 9, 3) := by decide +kernel
theorem dX1_addBill_23 : decode cX1_addBill 23 = .ok (.dup, 1) := by decide +kernel
theorem dX1_addBill_24 : decode cX1_addBill 24 = .ok (.iload_n 1, 1) := by decide +kernel
theorem dX1_addBill_25 : decode cX1_addBill 25 = .ok (.iload_n 2, 1) := by decide +kernel
theorem dX1_addBill_26 : decode cX1_addBill 26 = .ok (.iload_n 3, 1) := by decide +kernel
theorem dX1_addBill_27 : decode cX1_addBill 27 = .ok (.invokespecial 25, 3) := by decide +kernel
theorem dX1_addBill_30 : decode cX1_addBill 30 = .ok (.aastore, 1) := by decide +kernel
theorem dX1_addBill_31 : decode cX1_addBill 31 = .ok (.aload_n 0, 1) := by decide +kernel
theorem dX1_addBill_32 : decode cX1_addBill 32 = .ok (.dup, 1) := by decide +kernel
theorem dX1_addBill_33 : decode cX1_addBill 33 = .ok (.getfield 21, 3) := by decide +kernel
theorem dX1_addBill_36 : decode cX1_addBill 36 = .ok (.iconst 1, 1) := by decide +kernel
theorem dX1_addBill_37 : decode cX1_addBill 37 = .ok (.iadd, 1) := by decide +kernel
theorem dX1_addBill_38 : decode cX1_addBill 38 = .ok (.putfield 21, 3) := by decide +kernel
theorem dX1_addBill_41 : decode cX1_addBill 41 = .ok (.aload_n 0, 1) := by decide +kernel
theorem dX1_addBill_42 : decode cX1_addBill 42 = .ok (.getfield 21, 3) := by decide +kernel
theorem dX1_addBill_45 : decode cX1_addBill 45 = .ok (.iconst 1, 1) := by decide +kernel
theorem dX1_addBill_46 : decode cX1_addBill 46 = .ok (.isub, 1) := by decide +kernel
theorem dX1_addBill_47 : decode cX1_addBill 47 = .ok (.ireturn, 1) := by decide +kernel
theorem dX1_billAt_0 : decode cX1_billAt 0 = .ok (.iload_n 1, 1) := by decide +kernel
theorem dX1_billAt_1 : decode cX1_billAt 1 = .ok (.ifCond .lt 27, 3) := by decide +kernel
theorem dX1_billAt_4 : decode cX1_billAt 4 = .ok (.iload_n 1, 1) := by decide +kernel
theorem dX1_billAt_5 : decode cX1_billAt 5 = .ok (.aload_n 0, 1) := by decide +kernel
theorem dX1_billAt_6 : decode cX1_billAt 6 = .ok (.getfield 21, 3) := by decide +kernel
theorem dX1_billAt_9 : decode cX1_billAt 9 = .ok (.if_icmp .ge 19, 3) := by decide +kernel
theorem dX1_billAt_12 : decode cX1_billAt 12 = .ok (.iload_n 1, 1) := by decide +kernel
theorem dX1_billAt_13 : decode cX1_billAt 13 = .ok (.sipush 240, 3) := by decide +kernel
theorem dX1_billAt_16 : decode cX1_billAt 16 = .ok (.if_icmp .ge 12, 3) := by decide +kernel
theorem dX1_billAt_19 : decode cX1_billAt 19 = .ok (.aload_n 0, 1) := by decide +kernel
theorem dX1_billAt_20 : decode cX1_billAt 20 = .ok (.getfield 11, 3) := by decide +kernel
theorem dX1_billAt_23 : decode cX1_billAt 23 = .ok (.iload_n 1, 1) := by decide +kernel
theorem dX1_billAt_24 : decode cX1_billAt 24 = .ok (.aaload, 1) := by decide +kernel
theorem dX1_billAt_25 : decode cX1_billAt 25 = .ok (.goto 4, 3) := by decide +kernel
theorem dX1_billAt_28 : decode cX1_billAt 28 = .ok (.aconst_null, 1) := by decide +kernel
theorem dX1_billAt_29 : decode cX1_billAt 29 = .ok (.areturn, 1) := by decide +kernel
theorem dX1_isInDefault_0 : decode cX1_isInDefault 0 = .ok (.iload_n 1, 1) := by decide +kernel
theorem dX1_isInDefault_1 : decode cX1_isInDefault 1 = .ok (.invokestatic 28, 3) := by decide +kernel
theorem dX1_isInDefault_4 : decode cX1_isInDefault 4 = .ok (.ifCond .eq 19, 3) := by decide +kernel
theorem dX1_isInDefault_7 : decode cX1_isInDefault 7 = .ok (.aload_n 0, 1) := by decide +kernel
theorem dX1_isInDefault_8 : decode cX1_isInDefault 8 = .ok (.getfield 32, 3) := by decide +kernel
theorem dX1_isInDefault_11 : decode cX1_isInDefault 11 = .ok (.iload_n 1, 1) := by decide +kernel
theorem dX1_isInDefault_12 : decode cX1_isInDefault 12 = .ok (.ishr, 1) := by decide +kernel
theorem dX1_isInDefault_13 : decode cX1_isInDefault 13 = .ok (.iconst 1, 1) := by decide +kernel
theorem dX1_isInDefault_14 : decode cX1_isInDefault 14 = .ok (.iand, 1) := by decide +kernel
theorem dX1_isInDefault_15 : decode cX1_isInDefault 15 = .ok (.iconst 1, 1) := by decide +kernel
theorem dX1_isInDefault_16 : decode cX1_isInDefault 16 = .ok (.if_icmp .ne 7, 3) := by decide +kernel
theorem dX1_isInDefault_19 : decode cX1_isInDefault 19 = .ok (.iconst 1, 1) := by decide +kernel
theorem dX1_isInDefault_20 : decode cX1_isInDefault 20 = .ok (.goto 4, 3) := by decide +kernel
theorem dX1_isInDefault_23 : decode cX1_isInDefault 23 = .ok (.iconst 0, 1) := by decide +kernel
theorem dX1_isInDefault_24 : decode cX1_isInDefault 24 = .ok (.ireturn, 1) := by decide +kernel
theorem dX1_putDefault_0 : decode cX1_putDefault 0 = .ok (.iload_n 1, 1) := by decide +kernel
theorem dX1_putDefault_1 : decode cX1_putDefault 1 = .ok (.invokestatic 28, 3) := by decide +kernel
theorem dX1_putDefault_4 : decode cX1_putDefault 4 = .ok (.ifCond .eq 32, 3) := by decide +kernel
theorem dX1_putDefault_7 : decode cX1_putDefault 7 = .ok (.aload_n 0, 1) := by decide +kernel
theorem dX1_putDefault_8 : decode cX1_putDefault 8 = .ok (.iload_n 2, 1) := by decide +kernel
theorem dX1_putDefault_9 : decode cX1_putDefault 9 = .ok (.ifCond .eq 14, 3) := by decide +kernel
theorem dX1_putDefault_12 : decode cX1_putDefault 12 = .ok (.aload_n 0, 1) := by decide +kernel
theorem dX1_putDefault_13 : decode cX1_putDefault 13 = .ok (.getfield 32, 3) := by decide +kernel
theorem dX1_putDefault_16 : decode cX1_putDefault 16 = .ok (.iconst 1, 1) := by decide +kernel
theorem dX1_putDefault_17 : decode cX1_putDefault 17 = .ok (.iload_n 1, 1) := by decide +kernel
theorem dX1_putDefault_18 : decode cX1_putDefault 18 = .ok (.ishl, 1) := by decide +kernel
theorem dX1_putDefault_19 : decode cX1_putDefault 19 = .ok (.ior, 1) := by decide +kernel
theorem dX1_putDefault_20 : decode cX1_putDefault 20 = .ok (.goto 13, 3) := by decide +kernel
theorem dX1_putDefault_23 : decode cX1_putDefault 23 = .ok (.aload_n 0, 1) := by decide +kernel
theorem dX1_putDefault_24 : decode cX1_putDefault 24 = .ok (.getfield 32, 3) := by decide +kernel
theorem dX1_putDefault_27 : decode cX1_putDefault 27 = .ok (.iconst 1, 1) := by decide +kernel
theorem dX1_putDefault_28 : decode cX1_putDefault 28 = .ok (.iload_n 1, 1) := by decide +kernel
theorem dX1_putDefault_29 : decode cX1_putDefault 29 = .ok (.ishl, 1) := by decide +kernel
theorem dX1_putDefault_30 : decode cX1_putDefault 30 = .ok (.iconst (-1), 1) := by decide +kernel
theorem dX1_putDefault_31 : decode cX1_putDefault 31 = .ok (.ixor, 1) := by decide +kernel
theorem dX1_putDefault_32 : decode cX1_putDefault 32 = .ok (.iand, 1) := by decide +kernel
theorem dX1_putDefault_33 : decode cX1_putDefault 33 = .ok (.putfield 32, 3) := by decide +kernel
theorem dX1_putDefault_36 : decode cX1_putDefault 36 = .ok (.return_, 1) := by decide +kernel
theorem dX1_settle_0 : decode cX1_settle 0 = .ok (.aload_n 0, 1) := by decide +kernel
theorem dX1_settle_1 : decode cX1_settle 1 = .ok (.invokevirtual 35, 3) := by decide +kernel
theorem dX1_settle_4 : decode cX1_settle 4 = .ok (.aload_n 0, 1) := by decide +kernel
theorem dX1_settle_5 : decode cX1_settle 5 = .ok (.dup, 1) := by decide +kernel
theorem dX1_settle_6 : decode cX1_settle 6 = .ok (.getfield 38, 3) := by decide +kernel
theorem dX1_settle_9 : decode cX1_settle 9 = .ok (.iconst 1, 1) := by decide +kernel
theorem dX1_settle_10 : decode cX1_settle 10 = .ok (.iadd, 1) := by decide +kernel
theorem dX1_settle_11 : decode cX1_settle 11 = .ok (.putfield 38, 3) := by decide +kernel
theorem dX1_settle_14 : decode cX1_settle 14 = .ok (.iconst 0, 1) := by decide +kernel
theorem dX1_settle_15 : decode cX1_settle 15 = .ok (.istore_n 1, 1) := by decide +kernel
theorem dX1_settle_16 : decode cX1_settle 16 = .ok (.iload_n 1, 1) := by decide +kernel
theorem dX1_settle_17 : decode cX1_settle 17 = .ok (.aload_n 0, 1) := by decide +kernel
theorem dX1_settle_18 : decode cX1_settle 18 = .ok (.getfield 21, 3) := by decide +kernel
theorem dX1_settle_21 : decode cX1_settle 21 = .ok (.if_icmp .ge 61, 3) := by decide +kernel
theorem dX1_settle_24 : decode cX1_settle 24 = .ok (.aload_n 0, 1) := by decide +kernel
theorem dX1_settle_25 : decode cX1_settle 25 = .ok (.iload_n 1, 1) := by decide +kernel
theorem dX1_settle_26 : decode cX1_settle 26 = .ok (.invokevirtual 41, 3) := by decide +kernel
theorem dX1_settle_29 : decode cX1_settle 29 = .ok (.astore_n 2, 1) := by decide +kernel
theorem dX1_settle_30 : decode cX1_settle 30 = .ok (.aload_n 2, 1) := by decide +kernel
theorem dX1_settle_31 : decode cX1_settle 31 = .ok (.ifnull 45, 3) := by decide +kernel
theorem dX1_settle_34 : decode cX1_settle 34 = .ok (.aload_n 2, 1) := by decide +kernel
theorem dX1_settle_35 : decode cX1_settle 35 = .ok (.invokevirtual 45, 3) := by decide +kernel
theorem dX1_settle_38 : decode cX1_settle 38 = .ok (.ifCond .eq 38, 3) := by decide +kernel
theorem dX1_settle_41 : decode cX1_settle 41 = .ok (.aload_n 0, 1) := by decide +kernel
theorem dX1_settle_42 : decode cX1_settle 42 = .ok (.aload_n 2, 1) := by decide +kernel
theorem dX1_settle_43 : decode cX1_settle 43 = .ok (.getfield 49, 3) := by decide +kernel
theorem dX1_settle_46 : decode cX1_settle 46 = .ok (.invokevirtual 52, 3) := by decide +kernel
theorem dX1_settle_49 : decode cX1_settle 49 = .ok (.ifCond .ne 27, 3) := by decide +kernel
theorem dX1_settle_52 : decode cX1_settle 52 = .ok (.aload_n 0, 1) := by decide +kernel
theorem dX1_settle_53 : decode cX1_settle 53 = .ok (.aload_n 2, 1) := by decide +kernel
theorem dX1_settle_54 : decode cX1_settle 54 = .ok (.getfield 55, 3) := by decide +kernel
theorem dX1_settle_57 : decode cX1_settle 57 = .ok (.invokevirtual 52, 3) := by decide +kernel
theorem dX1_settle_60 : decode cX1_settle 60 = .ok (.ifCond .ne 16, 3) := by decide +kernel
theorem dX1_settle_63 : decode cX1_settle 63 = .ok (.aload_n 0, 1) := by decide +kernel
theorem dX1_settle_64 : decode cX1_settle 64 = .ok (.aload_n 2, 1) := by decide +kernel
theorem dX1_settle_65 : decode cX1_settle 65 = .ok (.aload_n 2, 1) := by decide +kernel
theorem dX1_settle_66 : decode cX1_settle 66 = .ok (.aload_n 0, 1) := by decide +kernel
theorem dX1_settle_67 : decode cX1_settle 67 = .ok (.getfield 38, 3) := by decide +kernel
theorem dX1_settle_70 : decode cX1_settle 70 = .ok (.invokevirtual 58, 3) := by decide +kernel
theorem dX1_settle_73 : decode cX1_settle 73 = .ok (.invokevirtual 62, 3) := by decide +kernel
theorem dX1_settle_76 : decode cX1_settle 76 = .ok (.iinc 1 1, 3) := by decide +kernel
theorem dX1_settle_79 : decode cX1_settle 79 = .ok (.goto (-63), 3) := by decide +kernel
theorem dX1_settle_82 : decode cX1_settle 82 = .ok (.return_, 1) := by decide +kernel
theorem dX1_undo_0 : decode cX1_undo 0 = .ok (.aload_n 0, 1) := by decide +kernel
theorem dX1_undo_1 : decode cX1_undo 1 = .ok (.invokevirtual 35, 3) := by decide +kernel
theorem dX1_undo_4 : decode cX1_undo 4 = .ok (.iconst 0, 1) := by decide +kernel
theorem dX1_undo_5 : decode cX1_undo 5 = .ok (.istore_n 2, 1) := by decide +kernel
theorem dX1_undo_6 : decode cX1_undo 6 = .ok (.iconst 0, 1) := by decide +kernel
theorem dX1_undo_7 : decode cX1_undo 7 = .ok (.istore_n 3, 1) := by decide +kernel
theorem dX1_undo_8 : decode cX1_undo 8 = .ok (.iload_n 3, 1) := by decide +kernel
theorem dX1_undo_9 : decode cX1_undo 9 = .ok (.aload_n 0, 1) := by decide +kernel
theorem dX1_undo_10 : decode cX1_undo 10 = .ok (.getfield 21, 3) := by decide +kernel
theorem dX1_undo_13 : decode cX1_undo 13 = .ok (.if_icmp .ge 56, 3) := by decide +kernel
theorem dX1_undo_16 : decode cX1_undo 16 = .ok (.aload_n 0, 1) := by decide +kernel
theorem dX1_undo_17 : decode cX1_undo 17 = .ok (.iload_n 3, 1) := by decide +kernel
theorem dX1_undo_18 : decode cX1_undo 18 = .ok (.invokevirtual 41, 3) := by decide +kernel
theorem dX1_undo_21 : decode cX1_undo 21 = .ok (.astore 4, 2) := by decide +kernel
theorem dX1_undo_23 : decode cX1_undo 23 = .ok (.aload 4, 2) := by decide +kernel
theorem dX1_undo_25 : decode cX1_undo 25 = .ok (.ifnull 38, 3) := by decide +kernel
theorem dX1_undo_28 : decode cX1_undo 28 = .ok (.aload 4, 2) := by decide +kernel
theorem dX1_undo_30 : decode cX1_undo 30 = .ok (.iload_n 1, 1) := by decide +kernel
theorem dX1_undo_31 : decode cX1_undo 31 = .ok (.invokevirtual 66, 3) := by decide +kernel
theorem dX1_undo_34 : decode cX1_undo 34 = .ok (.ifCond .eq 29, 3) := by decide +kernel
theorem dX1_undo_37 : decode cX1_undo 37 = .ok (.aload 4, 2) := by decide +kernel
theorem dX1_undo_39 : decode cX1_undo 39 = .ok (.aload_n 0, 1) := by decide +kernel
theorem dX1_undo_40 : decode cX1_undo 40 = .ok (.getfield 38, 3) := by decide +kernel
theorem dX1_undo_43 : decode cX1_undo 43 = .ok (.invokevirtual 69, 3) := by decide +kernel
theorem dX1_undo_46 : decode cX1_undo 46 = .ok (.ifCond .eq 17, 3) := by decide +kernel
theorem dX1_undo_49 : decode cX1_undo 49 = .ok (.aload_n 0, 1) := by decide +kernel
theorem dX1_undo_50 : decode cX1_undo 50 = .ok (.aload 4, 2) := by decide +kernel
theorem dX1_undo_52 : decode cX1_undo 52 = .ok (.aload 4, 2) := by decide +kernel
theorem dX1_undo_54 : decode cX1_undo 54 = .ok (.invokevirtual 72, 3) := by decide +kernel
theorem dX1_undo_57 : decode cX1_undo 57 = .ok (.invokevirtual 62, 3) := by decide +kernel
theorem dX1_undo_60 : decode cX1_undo 60 = .ok (.iinc 2 1, 3) := by decide +kernel
theorem dX1_undo_63 : decode cX1_undo 63 = .ok (.iinc 3 1, 3) := by decide +kernel
theorem dX1_undo_66 : decode cX1_undo 66 = .ok (.goto (-58), 3) := by decide +kernel
theorem dX1_undo_69 : decode cX1_undo 69 = .ok (.iload_n 2, 1) := by decide +kernel
theorem dX1_undo_70 : decode cX1_undo 70 = .ok (.ireturn, 1) := by decide +kernel
theorem dX1_forgetNets_0 : decode cX1_forgetNets 0 = .ok (.iconst 0, 1) := by decide +kernel
theorem dX1_forgetNets_1 : decode cX1_forgetNets 1 = .ok (.istore_n 1, 1) := by decide +kernel
theorem dX1_forgetNets_2 : decode cX1_forgetNets 2 = .ok (.iload_n 1, 1) := by decide +kernel
theorem dX1_forgetNets_3 : decode cX1_forgetNets 3 = .ok (.iconst 5, 1) := by decide +kernel
theorem dX1_forgetNets_4 : decode cX1_forgetNets 4 = .ok (.if_icmp .ge 16, 3) := by decide +kernel
theorem dX1_forgetNets_7 : decode cX1_forgetNets 7 = .ok (.aload_n 0, 1) := by decide +kernel
theorem dX1_forgetNets_8 : decode cX1_forgetNets 8 = .ok (.getfield 17, 3) := by decide +kernel
theorem dX1_forgetNets_11 : decode cX1_forgetNets 11 = .ok (.iload_n 1, 1) := by decide +kernel
theorem dX1_forgetNets_12 : decode cX1_forgetNets 12 = .ok (.lconst 0, 1) := by decide +kernel
theorem dX1_forgetNets_13 : decode cX1_forgetNets 13 = .ok (.lastore, 1) := by decide +kernel
theorem dX1_forgetNets_14 : decode cX1_forgetNets 14 = .ok (.iinc 1 1, 3) := by decide +kernel
theorem dX1_forgetNets_17 : decode cX1_forgetNets 17 = .ok (.goto (-15), 3) := by decide +kernel
theorem dX1_forgetNets_20 : decode cX1_forgetNets 20 = .ok (.return_, 1) := by decide +kernel
theorem dX1_addToNets_0 : decode cX1_addToNets 0 = .ok (.aload_n 1, 1) := by decide +kernel
theorem dX1_addToNets_1 : decode cX1_addToNets 1 = .ok (.getfield 49, 3) := by decide +kernel
theorem dX1_addToNets_4 : decode cX1_addToNets 4 = .ok (.invokestatic 28, 3) := by decide +kernel
theorem dX1_addToNets_7 : decode cX1_addToNets 7 = .ok (.ifCond .eq 41, 3) := by decide +kernel
theorem dX1_addToNets_10 : decode cX1_addToNets 10 = .ok (.aload_n 1, 1) := by decide +kernel
theorem dX1_addToNets_11 : decode cX1_addToNets 11 = .ok (.getfield 55, 3) := by decide +kernel
theorem dX1_addToNets_14 : decode cX1_addToNets 14 = .ok (.invokestatic 28, 3) := by decide +kernel
theorem dX1_addToNets_17 : decode cX1_addToNets 17 = .ok (.ifCond .eq 31, 3) := by decide +kernel
theorem dX1_addToNets_20 : decode cX1_addToNets 20 = .ok (.aload_n 0, 1) := by decide +kernel
theorem dX1_addToNets_21 : decode cX1_addToNets 21 = .ok (.getfield 17, 3) := by decide +kernel
theorem dX1_addToNets_24 : decode cX1_addToNets 24 = .ok (.aload_n 1, 1) := by decide +kernel
theorem dX1_addToNets_25 : decode cX1_addToNets 25 = .ok (.getfield 49, 3) := by decide +kernel
theorem dX1_addToNets_28 : decode cX1_addToNets 28 = .ok (.dup2, 1) := by decide +kernel
theorem dX1_addToNets_29 : decode cX1_addToNets 29 = .ok (.laload, 1) := by decide +kernel
theorem dX1_addToNets_30 : decode cX1_addToNets 30 = .ok (.iload_n 2, 1) := by decide +kernel
theorem dX1_addToNets_31 : decode cX1_addToNets 31 = .ok (.i2l, 1) := by decide +kernel
theorem dX1_addToNets_32 : decode cX1_addToNets 32 = .ok (.lsub, 1) := by decide +kernel
theorem dX1_addToNets_33 : decode cX1_addToNets 33 = .ok (.lastore, 1) := by decide +kernel
theorem dX1_addToNets_34 : decode cX1_addToNets 34 = .ok (.aload_n 0, 1) := by decide +kernel
theorem dX1_addToNets_35 : decode cX1_addToNets 35 = .ok (.getfield 17, 3) := by decide +kernel
theorem dX1_addToNets_38 : decode cX1_addToNets 38 = .ok (.aload_n 1, 1) := by decide +kernel
theorem dX1_addToNets_39 : decode cX1_addToNets 39 = .ok (.getfield 55, 3) := by decide +kernel
theorem dX1_addToNets_42 : decode cX1_addToNets 42 = .ok (.dup2, 1) := by decide +kernel
theorem dX1_addToNets_43 : decode cX1_addToNets 43 = .ok (.laload, 1) := by decide +kernel
theorem dX1_addToNets_44 : decode cX1_addToNets 44 = .ok (.iload_n 2, 1) := by decide +kernel
theorem dX1_addToNets_45 : decode cX1_addToNets 45 = .ok (.i2l, 1) := by decide +kernel
theorem dX1_addToNets_46 : decode cX1_addToNets 46 = .ok (.ladd, 1) := by decide +kernel
theorem dX1_addToNets_47 : decode cX1_addToNets 47 = .ok (.lastore, 1) := by decide +kernel
theorem dX1_addToNets_48 : decode cX1_addToNets 48 = .ok (.return_, 1) := by decide +kernel
theorem dX1_netOf_0 : decode cX1_netOf 0 = .ok (.iload_n 1, 1) := by decide +kernel
theorem dX1_netOf_1 : decode cX1_netOf 1 = .ok (.invokestatic 28, 3) := by decide +kernel
theorem dX1_netOf_4 : decode cX1_netOf 4 = .ok (.ifCond .eq 12, 3) := by decide +kernel
theorem dX1_netOf_7 : decode cX1_netOf 7 = .ok (.aload_n 0, 1) := by decide +kernel
theorem dX1_netOf_8 : decode cX1_netOf 8 = .ok (.getfield 17, 3) := by decide +kernel
theorem dX1_netOf_11 : decode cX1_netOf 11 = .ok (.iload_n 1, 1) := by decide +kernel
theorem dX1_netOf_12 : decode cX1_netOf 12 = .ok (.laload, 1) := by decide +kernel
theorem dX1_netOf_13 : decode cX1_netOf 13 = .ok (.goto 4, 3) := by decide +kernel
theorem dX1_netOf_16 : decode cX1_netOf 16 = .ok (.lconst 0, 1) := by decide +kernel
theorem dX1_netOf_17 : decode cX1_netOf 17 = .ok (.lreturn, 1) := by decide +kernel
theorem dX1_sumOfNetsAboveZero_0 : decode cX1_sumOfNetsAboveZero 0 = .ok (.lconst 0, 1) := by decide +kernel
theorem dX1_sumOfNetsAboveZero_1 : decode cX1_sumOfNetsAboveZero 1 = .ok (.lstore_n 1, 1) := by decide +kernel
theorem dX1_sumOfNetsAboveZero_2 : decode cX1_sumOfNetsAboveZero 2 = .ok (.iconst 0, 1) := by decide +kernel
theorem dX1_sumOfNetsAboveZero_3 : decode cX1_sumOfNetsAboveZero 3 = .ok (.istore_n 3, 1) := by decide +kernel
theorem dX1_sumOfNetsAboveZero_4 : decode cX1_sumOfNetsAboveZero 4 = .ok (.iload_n 3, 1) := by decide +kernel
theorem dX1_sumOfNetsAboveZero_5 : decode cX1_sumOfNetsAboveZero 5 = .ok (.iconst 5, 1) := by decide +kernel
theorem dX1_sumOfNetsAboveZero_6 : decode cX1_sumOfNetsAboveZero 6 = .ok (.if_icmp .ge 21, 3) := by decide +kernel
theorem dX1_sumOfNetsAboveZero_9 : decode cX1_sumOfNetsAboveZero 9 = .ok (.lload_n 1, 1) := by decide +kernel
theorem dX1_sumOfNetsAboveZero_10 : decode cX1_sumOfNetsAboveZero 10 = .ok (.aload_n 0, 1) := by decide +kernel
theorem dX1_sumOfNetsAboveZero_11 : decode cX1_sumOfNetsAboveZero 11 = .ok (.iload_n 3, 1) := by decide +kernel
theorem dX1_sumOfNetsAboveZero_12 : decode cX1_sumOfNetsAboveZero 12 = .ok (.invokevirtual 76, 3) := by decide +kernel
theorem dX1_sumOfNetsAboveZero_15 : decode cX1_sumOfNetsAboveZero 15 = .ok (.lconst 0, 1) := by decide +kernel
theorem dX1_sumOfNetsAboveZero_16 : decode cX1_sumOfNetsAboveZero 16 = .ok (.invokestatic 80, 3) := by decide +kernel
theorem dX1_sumOfNetsAboveZero_19 : decode cX1_sumOfNetsAboveZero 19 = .ok (.ladd, 1) := by decide +kernel
theorem dX1_sumOfNetsAboveZero_20 : decode cX1_sumOfNetsAboveZero 20 = .ok (.lstore_n 1, 1) := by decide +kernel
theorem dX1_sumOfNetsAboveZero_21 : decode cX1_sumOfNetsAboveZero 21 = .ok (.iinc 3 1, 3) := by decide +kernel
theorem dX1_sumOfNetsAboveZero_24 : decode cX1_sumOfNetsAboveZero 24 = .ok (.goto (-20), 3) := by decide +kernel
theorem dX1_sumOfNetsAboveZero_27 : decode cX1_sumOfNetsAboveZero 27 = .ok (.lload_n 1, 1) := by decide +kernel
theorem dX1_sumOfNetsAboveZero_28 : decode cX1_sumOfNetsAboveZero 28 = .ok (.lreturn, 1) := by decide +kernel
theorem dX1_gotBy_0 : decode cX1_gotBy 0 = .ok (.lconst 0, 1) := by decide +kernel
theorem dX1_gotBy_1 : decode cX1_gotBy 1 = .ok (.lstore_n 2, 1) := by decide +kernel
theorem dX1_gotBy_2 : decode cX1_gotBy 2 = .ok (.iconst 0, 1) := by decide +kernel
theorem dX1_gotBy_3 : decode cX1_gotBy 3 = .ok (.istore 4, 2) := by decide +kernel
theorem dX1_gotBy_5 : decode cX1_gotBy 5 = .ok (.iload 4, 2) := by decide +kernel
theorem dX1_gotBy_7 : decode cX1_gotBy 7 = .ok (.aload_n 0, 1) := by decide +kernel
theorem dX1_gotBy_8 : decode cX1_gotBy 8 = .ok (.getfield 21, 3) := by decide +kernel
theorem dX1_gotBy_11 : decode cX1_gotBy 11 = .ok (.if_icmp .ge 63, 3) := by decide +kernel
theorem dX1_gotBy_14 : decode cX1_gotBy 14 = .ok (.aload_n 0, 1) := by decide +kernel
theorem dX1_gotBy_15 : decode cX1_gotBy 15 = .ok (.iload 4, 2) := by decide +kernel
theorem dX1_gotBy_17 : decode cX1_gotBy 17 = .ok (.invokevirtual 41, 3) := by decide +kernel
theorem dX1_gotBy_20 : decode cX1_gotBy 20 = .ok (.astore 5, 2) := by decide +kernel
theorem dX1_gotBy_22 : decode cX1_gotBy 22 = .ok (.aload 5, 2) := by decide +kernel
theorem dX1_gotBy_24 : decode cX1_gotBy 24 = .ok (.ifnull 21, 3) := by decide +kernel
theorem dX1_gotBy_27 : decode cX1_gotBy 27 = .ok (.aload 5, 2) := by decide +kernel
theorem dX1_gotBy_29 : decode cX1_gotBy 29 = .ok (.getfield 55, 3) := by decide +kernel
theorem dX1_gotBy_32 : decode cX1_gotBy 32 = .ok (.iload_n 1, 1) := by decide +kernel
theorem dX1_gotBy_33 : decode cX1_gotBy 33 = .ok (.if_icmp .ne 12, 3) := by decide +kernel
theorem dX1_gotBy_36 : decode cX1_gotBy 36 = .ok (.lload_n 2, 1) := by decide +kernel
theorem dX1_gotBy_37 : decode cX1_gotBy 37 = .ok (.aload 5, 2) := by decide +kernel
theorem dX1_gotBy_39 : decode cX1_gotBy 39 = .ok (.invokevirtual 86, 3) := by decide +kernel
theorem dX1_gotBy_42 : decode cX1_gotBy 42 = .ok (.i2l, 1) := by decide +kernel
theorem dX1_gotBy_43 : decode cX1_gotBy 43 = .ok (.ladd, 1) := by decide +kernel
theorem dX1_gotBy_44 : decode cX1_gotBy 44 = .ok (.lstore_n 2, 1) := by decide +kernel
theorem dX1_gotBy_45 : decode cX1_gotBy 45 = .ok (.aload 5, 2) := by decide +kernel
theorem dX1_gotBy_47 : decode cX1_gotBy 47 = .ok (.ifnull 21, 3) := by decide +kernel
theorem dX1_gotBy_50 : decode cX1_gotBy 50 = .ok (.aload 5, 2) := by decide +kernel
theorem dX1_gotBy_52 : decode cX1_gotBy 52 = .ok (.getfield 49, 3) := by decide +kernel
theorem dX1_gotBy_55 : decode cX1_gotBy 55 = .ok (.iload_n 1, 1) := by decide +kernel
theorem dX1_gotBy_56 : decode cX1_gotBy 56 = .ok (.if_icmp .ne 12, 3) := by decide +kernel
theorem dX1_gotBy_59 : decode cX1_gotBy 59 = .ok (.lload_n 2, 1) := by decide +kernel
theorem dX1_gotBy_60 : decode cX1_gotBy 60 = .ok (.aload 5, 2) := by decide +kernel
theorem dX1_gotBy_62 : decode cX1_gotBy 62 = .ok (.invokevirtual 86, 3) := by decide +kernel
theorem dX1_gotBy_65 : decode cX1_gotBy 65 = .ok (.i2l, 1) := by decide +kernel
theorem dX1_gotBy_66 : decode cX1_gotBy 66 = .ok (.lsub, 1) := by decide +kernel
theorem dX1_gotBy_67 : decode cX1_gotBy 67 = .ok (.lstore_n 2, 1) := by decide +kernel
theorem dX1_gotBy_68 : decode cX1_gotBy 68 = .ok (.iinc 4 1, 3) := by decide +kernel
theorem dX1_gotBy_71 : decode cX1_gotBy 71 = .ok (.goto (-66), 3) := by decide +kernel
theorem dX1_gotBy_74 : decode cX1_gotBy 74 = .ok (.lload_n 2, 1) := by decide +kernel
theorem dX1_gotBy_75 : decode cX1_gotBy 75 = .ok (.lreturn, 1) := by decide +kernel
theorem dX2_init_0 : decode cX2_init 0 = .ok (.aload_n 0, 1) := by decide +kernel
theorem dX2_init_1 : decode cX2_init 1 = .ok (.invokespecial 3, 3) := by decide +kernel
theorem dX2_init_4 : decode cX2_init 4 = .ok (.aload_n 0, 1) := by decide +kernel
theorem dX2_init_5 : decode cX2_init 5 = .ok (.iconst 0, 1) := by decide +kernel
theorem dX2_init_6 : decode cX2_init 6 = .ok (.putfield 9, 3) := by decide +kernel
theorem dX2_init_9 : decode cX2_init 9 = .ok (.aload_n 0, 1) := by decide +kernel
theorem dX2_init_10 : decode cX2_init 10 = .ok (.iconst (-1), 1) := by decide +kernel
theorem dX2_init_11 : decode cX2_init 11 = .ok (.putfield 15, 3) := by decide +kernel
theorem dX2_init_14 : decode cX2_init 14 = .ok (.aload_n 0, 1) := by decide +kernel
theorem dX2_init_15 : decode cX2_init 15 = .ok (.aload_n 1, 1) := by decide +kernel
theorem dX2_init_16 : decode cX2_init 16 = .ok (.getfield 18, 3) := by decide +kernel
theorem dX2_init_19 : decode cX2_init 19 = .ok (.putfield 23, 3) := by decide +kernel
theorem dX2_init_22 : decode cX2_init 22 = .ok (.aload_n 0, 1) := by decide +kernel
theorem dX2_init_23 : decode cX2_init 23 = .ok (.aload_n 1, 1) := by decide +kernel
theorem dX2_init_24 : decode cX2_init 24 = .ok (.getfield 24, 3) := by decide +kernel
theorem dX2_init_27 : decode cX2_init 27 = .ok (.putfield 27, 3) := by decide +kernel
theorem dX2_init_30 : decode cX2_init 30 = .ok (.aload_n 0, 1) := by decide +kernel
theorem dX2_init_31 : decode cX2_init 31 = .ok (.aload_n 1, 1) := by decide +kernel
theorem dX2_init_32 : decode cX2_init 32 = .ok (.getfield 28, 3) := by decide +kernel
theorem dX2_init_35 : decode cX2_init 35 = .ok (.putfield 31, 3) := by decide +kernel
theorem dX2_init_38 : decode cX2_init 38 = .ok (.aload_n 0, 1) := by decide +kernel
theorem dX2_init_39 : decode cX2_init 39 = .ok (.aload_n 1, 1) := by decide +kernel
theorem dX2_init_40 : decode cX2_init 40 = .ok (.getfield 32, 3) := by decide +kernel
theorem dX2_init_43 : decode cX2_init 43 = .ok (.putfield 35, 3) := by decide +kernel
theorem dX2_init_46 : decode cX2_init 46 = .ok (.aload_n 0, 1) := by decide +kernel
theorem dX2_init_47 : decode cX2_init 47 = .ok (.iload_n 2, 1) := by decide +kernel
theorem dX2_init_48 : decode cX2_init 48 = .ok (.putfield 36, 3) := by decide +kernel
theorem dX2_init_51 : decode cX2_init 51 = .ok (.return_, 1) := by decide +kernel
theorem dX3_init_0 : decode cX3_init 0 = .ok (.aload_n 0, 1) := by decide +kernel
theorem dX3_init_1 : decode cX3_init 1 = .ok (.invokespecial 1, 3) := by decide +kernel
theorem dX3_init_4 : decode cX3_init 4 = .ok (.aload_n 0, 1) := by decide +kernel
theorem dX3_init_5 : decode cX3_init 5 = .ok (.iload_n 1, 1) := by decide +kernel
theorem dX3_init_6 : decode cX3_init 6 = .ok (.putfield 7, 3) := by decide +kernel
theorem dX3_init_9 : decode cX3_init 9 = .ok (.aload_n 0, 1) := by decide +kernel
theorem dX3_init_10 : decode cX3_init 10 = .ok (.iload_n 2, 1) := by decide +kernel
theorem dX3_init_11 : decode cX3_init 11 = .ok (.putfield 13, 3) := by decide +kernel
theorem dX3_init_14 : decode cX3_init 14 = .ok (.aload_n 0, 1) := by decide +kernel
theorem dX3_init_15 : decode cX3_init 15 = .ok (.iload_n 3, 1) := by decide +kernel
theorem dX3_init_16 : decode cX3_init 16 = .ok (.putfield 16, 3) := by decide +kernel
theorem dX3_init_19 : decode cX3_init 19 = .ok (.aload_n 0, 1) := by decide +kernel
theorem dX3_init_20 : decode cX3_init 20 = .ok (.iload 4, 2) := by decide +kernel
theorem dX3_init_22 : decode cX3_init 22 = .ok (.putfield 19, 3) := by decide +kernel
theorem dX3_init_25 : decode cX3_init 25 = .ok (.aload_n 0, 1) := by decide +kernel
theorem dX3_init_26 : decode cX3_init 26 = .ok (.iload 5, 2) := by decide +kernel
theorem dX3_init_28 : decode cX3_init 28 = .ok (.putfield 22, 3) := by decide +kernel
theorem dX3_init_31 : decode cX3_init 31 = .ok (.aload_n 0, 1) := by decide +kernel
theorem dX3_init_32 : decode cX3_init 32 = .ok (.iload 6, 2) := by decide +kernel
theorem dX3_init_34 : decode cX3_init 34 = .ok (.putfield 25, 3) := by decide +kernel
theorem dX3_init_37 : decode cX3_init 37 = .ok (.return_, 1) := by decide +kernel
theorem dX3_isFor_0 : decode cX3_isFor 0 = .ok (.aload_n 0, 1) := by decide +kernel
theorem dX3_isFor_1 : decode cX3_isFor 1 = .ok (.getfield 7, 3) := by decide +kernel
theorem dX3_isFor_4 : decode cX3_isFor 4 = .ok (.iload_n 1, 1) := by decide +kernel
theorem dX3_isFor_5 : decode cX3_isFor 5 = .ok (.if_icmp .ne 38, 3) := by decide +kernel
theorem dX3_isFor_8 : decode cX3_isFor 8 = .ok (.aload_n 0, 1) := by decide +kernel
theorem dX3_isFor_9 : decode cX3_isFor 9 = .ok (.getfield 13, 3) := by decide +kernel
theorem dX3_isFor_12 : decode cX3_isFor 12 = .ok (.iload_n 2, 1) := by decide +kernel
theorem dX3_isFor_13 : decode cX3_isFor 13 = .ok (.if_icmp .ne 30, 3) := by decide +kernel
theorem dX3_isFor_16 : decode cX3_isFor 16 = .ok (.aload_n 0, 1) := by decide +kernel
theorem dX3_isFor_17 : decode cX3_isFor 17 = .ok (.getfield 28, 3) := by decide +kernel
theorem dX3_isFor_20 : decode cX3_isFor 20 = .ok (.ifCond .ne 23, 3) := by decide +kernel
theorem dX3_isFor_23 : decode cX3_isFor 23 = .ok (.aload_n 0, 1) := by decide +kernel
theorem dX3_isFor_24 : decode cX3_isFor 24 = .ok (.getfield 19, 3) := by decide +kernel
theorem dX3_isFor_27 : decode cX3_isFor 27 = .ok (.iload_n 3, 1) := by decide +kernel
theorem dX3_isFor_28 : decode cX3_isFor 28 = .ok (.if_icmp .gt 15, 3) := by decide +kernel
theorem dX3_isFor_31 : decode cX3_isFor 31 = .ok (.iload_n 3, 1) := by decide +kernel
theorem dX3_isFor_32 : decode cX3_isFor 32 = .ok (.aload_n 0, 1) := by decide +kernel
theorem dX3_isFor_33 : decode cX3_isFor 33 = .ok (.getfield 22, 3) := by decide +kernel
theorem dX3_isFor_36 : decode cX3_isFor 36 = .ok (.if_icmp .gt 7, 3) := by decide +kernel
theorem dX3_isFor_39 : decode cX3_isFor 39 = .ok (.iconst 1, 1) := by decide +kernel
theorem dX3_isFor_40 : decode cX3_isFor 40 = .ok (.goto 4, 3) := by decide +kernel
theorem dX3_isFor_43 : decode cX3_isFor 43 = .ok (.iconst 0, 1) := by decide +kernel
theorem dX3_isFor_44 : decode cX3_isFor 44 = .ok (.ireturn, 1) := by decide +kernel
theorem dX4_init_0 : decode cX4_init 0 = .ok (.aload_n 0, 1) := by decide +kernel
theorem dX4_init_1 : decode cX4_init 1 = .ok (.invokespecial 3, 3) := by decide +kernel
theorem dX4_init_4 : decode cX4_init 4 = .ok (.aload_n 0, 1) := by decide +kernel
theorem dX4_init_5 : decode cX4_init 5 = .ok (.bipush 8, 2) := by decide +kernel
theorem dX4_init_7 : decode cX4_init 7 = .ok (.anewarray 9, 3) := by decide +kernel
theorem dX4_init_10 : decode cX4_init 10 = .ok (.putfield 11, 3) := by decide +kernel
theorem dX4_init_13 : decode cX4_init 13 = .ok (.iconst 0, 1) := by decide +kernel
theorem dX4_init_14 : decode cX4_init 14 = .ok (.istore_n 1, 1) := by decide +kernel
theorem dX4_init_15 : decode cX4_init 15 = .ok (.iload_n 1, 1) := by decide +kernel
theorem dX4_init_16 : decode cX4_init 16 = .ok (.bipush 8, 2) := by decide +kernel
theorem dX4_init_18 : decode cX4_init 18 = .ok (.if_icmp .ge 22, 3) := by decide +kernel
theorem dX4_init_21 : decode cX4_init 21 = .ok (.aload_n 0, 1) := by decide +kernel
theorem dX4_init_22 : decode cX4_init 22 = .ok (.getfield 11, 3) := by decide +kernel
theorem dX4_init_25 : decode cX4_init 25 = .ok (.iload_n 1, 1) := by decide +kernel
theorem dX4_init_26 : decode cX4_init 26 = .ok (.new 9, 3) := by decide +kernel
theorem dX4_init_29 : decode cX4_init 29 = .ok (.dup, 1) := by decide +kernel
theorem dX4_init_30 : decode cX4_init 30 = .ok (.invokespecial 17, 3) := by decide +kernel
theorem dX4_init_33 : decode cX4_init 33 = .ok (.aastore, 1) := by decide +kernel
theorem dX4_init_34 : decode cX4_init 34 = .ok (.iinc 1 1, 3) := by decide +kernel
theorem dX4_init_37 : decode cX4_init 37 = .ok (.goto (-22), 3) := by decide +kernel
theorem dX4_init_40 : decode cX4_init 40 = .ok (.return_, 1) := by decide +kernel
theorem dX4_legAt_0 : decode cX4_legAt 0 = .ok (.iload_n 1, 1) := by decide +kernel
theorem dX4_legAt_1 : decode cX4_legAt 1 = .ok (.ifCond .lt 26, 3) := by decide +kernel
theorem dX4_legAt_4 : decode cX4_legAt 4 = .ok (.iload_n 1, 1) := by decide +kernel
theorem dX4_legAt_5 : decode cX4_legAt 5 = .ok (.aload_n 0, 1) := by decide +kernel
theorem dX4_legAt_6 : decode cX4_legAt 6 = .ok (.getfield 18, 3) := by decide +kernel
theorem dX4_legAt_9 : decode cX4_legAt 9 = .ok (.if_icmp .ge 18, 3) := by decide +kernel
theorem dX4_legAt_12 : decode cX4_legAt 12 = .ok (.iload_n 1, 1) := by decide +kernel
theorem dX4_legAt_13 : decode cX4_legAt 13 = .ok (.bipush 8, 2) := by decide +kernel
theorem dX4_legAt_15 : decode cX4_legAt 15 = .ok (.if_icmp .ge 12, 3) := by decide +kernel
theorem dX4_legAt_18 : decode cX4_legAt 18 = .ok (.aload_n 0, 1) := by decide +kernel
theorem dX4_legAt_19 : decode cX4_legAt 19 = .ok (.getfield 11, 3) := by decide +kernel
theorem dX4_legAt_22 : decode cX4_legAt 22 = .ok (.iload_n 1, 1) := by decide +kernel
theorem dX4_legAt_23 : decode cX4_legAt 23 = .ok (.aaload, 1) := by decide +kernel
theorem dX4_legAt_24 : decode cX4_legAt 24 = .ok (.goto 4, 3) := by decide +kernel
theorem dX4_legAt_27 : decode cX4_legAt 27 = .ok (.aconst_null, 1) := by decide +kernel
theorem dX4_legAt_28 : decode cX4_legAt 28 = .ok (.areturn, 1) := by decide +kernel
theorem dX4_goesOn_0 : decode cX4_goesOn 0 = .ok (.aload_n 0, 1) := by decide +kernel
theorem dX4_goesOn_1 : decode cX4_goesOn 1 = .ok (.aload_n 0, 1) := by decide +kernel
theorem dX4_goesOn_2 : decode cX4_goesOn 2 = .ok (.getfield 18, 3) := by decide +kernel
theorem dX4_goesOn_5 : decode cX4_goesOn 5 = .ok (.iconst 1, 1) := by decide +kernel
theorem dX4_goesOn_6 : decode cX4_goesOn 6 = .ok (.isub, 1) := by decide +kernel
theorem dX4_goesOn_7 : decode cX4_goesOn 7 = .ok (.invokevirtual 22, 3) := by decide +kernel
theorem dX4_goesOn_10 : decode cX4_goesOn 10 = .ok (.astore_n 3, 1) := by decide +kernel
theorem dX4_goesOn_11 : decode cX4_goesOn 11 = .ok (.aload_n 0, 1) := by decide +kernel
theorem dX4_goesOn_12 : decode cX4_goesOn 12 = .ok (.getfield 18, 3) := by decide +kernel
theorem dX4_goesOn_15 : decode cX4_goesOn 15 = .ok (.bipush 8, 2) := by decide +kernel
theorem dX4_goesOn_17 : decode cX4_goesOn 17 = .ok (.if_icmp .ge 27, 3) := by decide +kernel
theorem dX4_goesOn_20 : decode cX4_goesOn 20 = .ok (.aload_n 3, 1) := by decide +kernel
theorem dX4_goesOn_21 : decode cX4_goesOn 21 = .ok (.ifnull 19, 3) := by decide +kernel
theorem dX4_goesOn_24 : decode cX4_goesOn 24 = .ok (.aload_n 3, 1) := by decide +kernel
theorem dX4_goesOn_25 : decode cX4_goesOn 25 = .ok (.getfield 26, 3) := by decide +kernel
theorem dX4_goesOn_28 : decode cX4_goesOn 28 = .ok (.iload_n 1, 1) := by decide +kernel
theorem dX4_goesOn_29 : decode cX4_goesOn 29 = .ok (.if_icmp .ne 15, 3) := by decide +kernel
theorem dX4_goesOn_32 : decode cX4_goesOn 32 = .ok (.aload_n 3, 1) := by decide +kernel
theorem dX4_goesOn_33 : decode cX4_goesOn 33 = .ok (.getfield 29, 3) := by decide +kernel
theorem dX4_goesOn_36 : decode cX4_goesOn 36 = .ok (.iload_n 2, 1) := by decide +kernel
theorem dX4_goesOn_37 : decode cX4_goesOn 37 = .ok (.if_icmp .gt 7, 3) := by decide +kernel
theorem dX4_goesOn_40 : decode cX4_goesOn 40 = .ok (.iconst 1, 1) := by decide +kernel
theorem dX4_goesOn_41 : decode cX4_goesOn 41 = .ok (.goto 4, 3) := by decide +kernel
theorem dX4_goesOn_44 : decode cX4_goesOn 44 = .ok (.iconst 0, 1) := by decide +kernel
theorem dX4_goesOn_45 : decode cX4_goesOn 45 = .ok (.ireturn, 1) := by decide +kernel
theorem dX4_add_0 : decode cX4_add 0 = .ok (.aload_n 0, 1) := by decide +kernel
theorem dX4_add_1 : decode cX4_add 1 = .ok (.getfield 18, 3) := by decide +kernel
theorem dX4_add_4 : decode cX4_add 4 = .ok (.bipush 8, 2) := by decide +kernel
theorem dX4_add_6 : decode cX4_add 6 = .ok (.if_icmp .ge 15, 3) := by decide +kernel
theorem dX4_add_9 : decode cX4_add 9 = .ok (.aload_n 0, 1) := by decide +kernel
theorem dX4_add_10 : decode cX4_add 10 = .ok (.getfield 11, 3) := by decide +kernel
theorem dX4_add_13 : decode cX4_add 13 = .ok (.aload_n 0, 1) := by decide +kernel
theorem dX4_add_14 : decode cX4_add 14 = .ok (.getfield 18, 3) := by decide +kernel
theorem dX4_add_17 : decode cX4_add 17 = .ok (.aaload, 1) := by decide +kernel
theorem dX4_add_18 : decode cX4_add 18 = .ok (.goto 4, 3) := by decide +kernel
theorem dX4_add_21 : decode cX4_add 21 = .ok (.aconst_null, 1) := by decide +kernel
theorem dX4_add_22 : decode cX4_add 22 = .ok (.astore 5, 2) := by decide +kernel
theorem dX4_add_24 : decode cX4_add 24 = .ok (.aload 5, 2) := by decide +kernel
theorem dX4_add_26 : decode cX4_add 26 = .ok (.ifnull 38, 3) := by decide +kernel
theorem dX4_add_29 : decode cX4_add 29 = .ok (.aload 5, 2) := by decide +kernel
theorem dX4_add_31 : decode cX4_add 31 = .ok (.iload_n 1, 1) := by decide +kernel
theorem dX4_add_32 : decode cX4_add 32 = .ok (.putfield 32, 3) := by decide +kernel
theorem dX4_add_35 : decode cX4_add 35 = .ok (.aload 5, 2) := by decide +kernel
theorem dX4_add_37 : decode cX4_add 37 = .ok (.iload_n 2, 1) := by decide +kernel
theorem dX4_add_38 : decode cX4_add 38 = .ok (.putfield 26, 3) := by decide +kernel
theorem dX4_add_41 : decode cX4_add 41 = .ok (.aload 5, 2) := by decide +kernel
theorem dX4_add_43 : decode cX4_add 43 = .ok (.iload_n 3, 1) := by decide +kernel
theorem dX4_add_44 : decode cX4_add 44 = .ok (.putfield 35, 3) := by decide +kernel
theorem dX4_add_47 : decode cX4_add 47 = .ok (.aload 5, 2) := by decide +kernel
theorem dX4_add_49 : decode cX4_add 49 = .ok (.iload 4, 2) := by decide +kernel
theorem dX4_add_51 : decode cX4_add 51 = .ok (.putfield 29, 3) := by decide +kernel
theorem dX4_add_54 : decode cX4_add 54 = .ok (.aload_n 0, 1) := by decide +kernel
theorem dX4_add_55 : decode cX4_add 55 = .ok (.dup, 1) := by decide +kernel
theorem dX4_add_56 : decode cX4_add 56 = .ok (.getfield 18, 3) := by decide +kernel
theorem dX4_add_59 : decode cX4_add 59 = .ok (.iconst 1, 1) := by decide +kernel
theorem dX4_add_60 : decode cX4_add 60 = .ok (.iadd, 1) := by decide +kernel
theorem dX4_add_61 : decode cX4_add 61 = .ok (.putfield 18, 3) := by decide +kernel
theorem dX4_add_64 : decode cX4_add 64 = .ok (.aload_n 0, 1) := by decide +kernel
theorem dX4_add_65 : decode cX4_add 65 = .ok (.getfield 18, 3) := by decide +kernel
theorem dX4_add_68 : decode cX4_add 68 = .ok (.ireturn, 1) := by decide +kernel
theorem dX4_beginAnew_0 : decode cX4_beginAnew 0 = .ok (.aload_n 0, 1) := by decide +kernel
theorem dX4_beginAnew_1 : decode cX4_beginAnew 1 = .ok (.getfield 18, 3) := by decide +kernel
theorem dX4_beginAnew_4 : decode cX4_beginAnew 4 = .ok (.istore_n 1, 1) := by decide +kernel
theorem dX4_beginAnew_5 : decode cX4_beginAnew 5 = .ok (.aload_n 0, 1) := by decide +kernel
theorem dX4_beginAnew_6 : decode cX4_beginAnew 6 = .ok (.iconst 0, 1) := by decide +kernel
theorem dX4_beginAnew_7 : decode cX4_beginAnew 7 = .ok (.putfield 18, 3) := by decide +kernel
theorem dX4_beginAnew_10 : decode cX4_beginAnew 10 = .ok (.iload_n 1, 1) := by decide +kernel
theorem dX4_beginAnew_11 : decode cX4_beginAnew 11 = .ok (.ireturn, 1) := by decide +kernel
theorem dX4_hasLegBefore_0 : decode cX4_hasLegBefore 0 = .ok (.aload_n 0, 1) := by decide +kernel
theorem dX4_hasLegBefore_1 : decode cX4_hasLegBefore 1 = .ok (.iconst 0, 1) := by decide +kernel
theorem dX4_hasLegBefore_2 : decode cX4_hasLegBefore 2 = .ok (.invokevirtual 22, 3) := by decide +kernel
theorem dX4_hasLegBefore_5 : decode cX4_hasLegBefore 5 = .ok (.astore_n 2, 1) := by decide +kernel
theorem dX4_hasLegBefore_6 : decode cX4_hasLegBefore 6 = .ok (.aload_n 2, 1) := by decide +kernel
theorem dX4_hasLegBefore_7 : decode cX4_hasLegBefore 7 = .ok (.ifnull 15, 3) := by decide +kernel
theorem dX4_hasLegBefore_10 : decode cX4_hasLegBefore 10 = .ok (.aload_n 2, 1) := by decide +kernel
theorem dX4_hasLegBefore_11 : decode cX4_hasLegBefore 11 = .ok (.getfield 29, 3) := by decide +kernel
theorem dX4_hasLegBefore_14 : decode cX4_hasLegBefore 14 = .ok (.iload_n 1, 1) := by decide +kernel
theorem dX4_hasLegBefore_15 : decode cX4_hasLegBefore 15 = .ok (.if_icmp .ge 7, 3) := by decide +kernel
theorem dX4_hasLegBefore_18 : decode cX4_hasLegBefore 18 = .ok (.iconst 1, 1) := by decide +kernel
theorem dX4_hasLegBefore_19 : decode cX4_hasLegBefore 19 = .ok (.goto 4, 3) := by decide +kernel
theorem dX4_hasLegBefore_22 : decode cX4_hasLegBefore 22 = .ok (.iconst 0, 1) := by decide +kernel
theorem dX4_hasLegBefore_23 : decode cX4_hasLegBefore 23 = .ok (.ireturn, 1) := by decide +kernel
theorem dX4_isPoint_0 : decode cX4_isPoint 0 = .ok (.aload_n 0, 1) := by decide +kernel
theorem dX4_isPoint_1 : decode cX4_isPoint 1 = .ok (.getfield 18, 3) := by decide +kernel
theorem dX4_isPoint_4 : decode cX4_isPoint 4 = .ok (.ifCond .le 19, 3) := by decide +kernel
theorem dX4_isPoint_7 : decode cX4_isPoint 7 = .ok (.iload_n 1, 1) := by decide +kernel
theorem dX4_isPoint_8 : decode cX4_isPoint 8 = .ok (.iconst 0, 1) := by decide +kernel
theorem dX4_isPoint_9 : decode cX4_isPoint 9 = .ok (.aload_n 0, 1) := by decide +kernel
theorem dX4_isPoint_10 : decode cX4_isPoint 10 = .ok (.getfield 18, 3) := by decide +kernel
theorem dX4_isPoint_13 : decode cX4_isPoint 13 = .ok (.invokestatic 38, 3) := by decide +kernel
theorem dX4_isPoint_16 : decode cX4_isPoint 16 = .ok (.ifCond .eq 7, 3) := by decide +kernel
theorem dX4_isPoint_19 : decode cX4_isPoint 19 = .ok (.iconst 1, 1) := by decide +kernel
theorem dX4_isPoint_20 : decode cX4_isPoint 20 = .ok (.goto 4, 3) := by decide +kernel
theorem dX4_isPoint_23 : decode cX4_isPoint 23 = .ok (.iconst 0, 1) := by decide +kernel
theorem dX4_isPoint_24 : decode cX4_isPoint 24 = .ok (.ireturn, 1) := by decide +kernel
theorem dX4_placeAt_0 : decode cX4_placeAt 0 = .ok (.aload_n 0, 1) := by decide +kernel
theorem dX4_placeAt_1 : decode cX4_placeAt 1 = .ok (.iload_n 1, 1) := by decide +kernel
theorem dX4_placeAt_2 : decode cX4_placeAt 2 = .ok (.ifCond .ne 7, 3) := by decide +kernel
theorem dX4_placeAt_5 : decode cX4_placeAt 5 = .ok (.iconst 0, 1) := by decide +kernel
theorem dX4_placeAt_6 : decode cX4_placeAt 6 = .ok (.goto 6, 3) := by decide +kernel
theorem dX4_placeAt_9 : decode cX4_placeAt 9 = .ok (.iload_n 1, 1) := by decide +kernel
theorem dX4_placeAt_10 : decode cX4_placeAt 10 = .ok (.iconst 1, 1) := by decide +kernel
theorem dX4_placeAt_11 : decode cX4_placeAt 11 = .ok (.isub, 1) := by decide +kernel
theorem dX4_placeAt_12 : decode cX4_placeAt 12 = .ok (.invokevirtual 22, 3) := by decide +kernel
theorem dX4_placeAt_15 : decode cX4_placeAt 15 = .ok (.astore_n 2, 1) := by decide +kernel
theorem dX4_placeAt_16 : decode cX4_placeAt 16 = .ok (.aload_n 2, 1) := by decide +kernel
theorem dX4_placeAt_17 : decode cX4_placeAt 17 = .ok (.ifnonnull 5, 3) := by decide +kernel
theorem dX4_placeAt_20 : decode cX4_placeAt 20 = .ok (.iconst (-1), 1) := by decide +kernel
theorem dX4_placeAt_21 : decode cX4_placeAt 21 = .ok (.ireturn, 1) := by decide +kernel
theorem dX4_placeAt_22 : decode cX4_placeAt 22 = .ok (.iload_n 1, 1) := by decide +kernel
theorem dX4_placeAt_23 : decode cX4_placeAt 23 = .ok (.ifCond .ne 10, 3) := by decide +kernel
theorem dX4_placeAt_26 : decode cX4_placeAt 26 = .ok (.aload_n 2, 1) := by decide +kernel
theorem dX4_placeAt_27 : decode cX4_placeAt 27 = .ok (.getfield 32, 3) := by decide +kernel
theorem dX4_placeAt_30 : decode cX4_placeAt 30 = .ok (.goto 7, 3) := by decide +kernel
theorem dX4_placeAt_33 : decode cX4_placeAt 33 = .ok (.aload_n 2, 1) := by decide +kernel
theorem dX4_placeAt_34 : decode cX4_placeAt 34 = .ok (.getfield 26, 3) := by decide +kernel
theorem dX4_placeAt_37 : decode cX4_placeAt 37 = .ok (.ireturn, 1) := by decide +kernel
theorem dX4_isStop_0 : decode cX4_isStop 0 = .ok (.aload_n 0, 1) := by decide +kernel
theorem dX4_isStop_1 : decode cX4_isStop 1 = .ok (.iload_n 1, 1) := by decide +kernel
theorem dX4_isStop_2 : decode cX4_isStop 2 = .ok (.iconst 1, 1) := by decide +kernel
theorem dX4_isStop_3 : decode cX4_isStop 3 = .ok (.isub, 1) := by decide +kernel
theorem dX4_isStop_4 : decode cX4_isStop 4 = .ok (.invokevirtual 22, 3) := by decide +kernel
theorem dX4_isStop_7 : decode cX4_isStop 7 = .ok (.astore_n 2, 1) := by decide +kernel
theorem dX4_isStop_8 : decode cX4_isStop 8 = .ok (.aload_n 0, 1) := by decide +kernel
theorem dX4_isStop_9 : decode cX4_isStop 9 = .ok (.iload_n 1, 1) := by decide +kernel
theorem dX4_isStop_10 : decode cX4_isStop 10 = .ok (.invokevirtual 22, 3) := by decide +kernel
theorem dX4_isStop_13 : decode cX4_isStop 13 = .ok (.astore_n 3, 1) := by decide +kernel
theorem dX4_isStop_14 : decode cX4_isStop 14 = .ok (.aload_n 2, 1) := by decide +kernel
theorem dX4_isStop_15 : decode cX4_isStop 15 = .ok (.ifnull 22, 3) := by decide +kernel
theorem dX4_isStop_18 : decode cX4_isStop 18 = .ok (.aload_n 3, 1) := by decide +kernel
theorem dX4_isStop_19 : decode cX4_isStop 19 = .ok (.ifnull 18, 3) := by decide +kernel
theorem dX4_isStop_22 : decode cX4_isStop 22 = .ok (.aload_n 3, 1) := by decide +kernel
theorem dX4_isStop_23 : decode cX4_isStop 23 = .ok (.getfield 29, 3) := by decide +kernel
theorem dX4_isStop_26 : decode cX4_isStop 26 = .ok (.aload_n 2, 1) := by decide +kernel
theorem dX4_isStop_27 : decode cX4_isStop 27 = .ok (.getfield 29, 3) := by decide +kernel
theorem dX4_isStop_30 : decode cX4_isStop 30 = .ok (.if_icmp .le 7, 3) := by decide +kernel
theorem dX4_isStop_33 : decode cX4_isStop 33 = .ok (.iconst 1, 1) := by decide +kernel
theorem dX4_isStop_34 : decode cX4_isStop 34 = .ok (.goto 4, 3) := by decide +kernel
theorem dX4_isStop_37 : decode cX4_isStop 37 = .ok (.iconst 0, 1) := by decide +kernel
theorem dX4_isStop_38 : decode cX4_isStop 38 = .ok (.ireturn, 1) := by decide +kernel
theorem dX4_priceOfPart_0 : decode cX4_priceOfPart 0 = .ok (.aload_n 0, 1) := by decide +kernel
theorem dX4_priceOfPart_1 : decode cX4_priceOfPart 1 = .ok (.iload_n 2, 1) := by decide +kernel
theorem dX4_priceOfPart_2 : decode cX4_priceOfPart 2 = .ok (.invokevirtual 42, 3) := by decide +kernel
theorem dX4_priceOfPart_5 : decode cX4_priceOfPart 5 = .ok (.istore 4, 2) := by decide +kernel
theorem dX4_priceOfPart_7 : decode cX4_priceOfPart 7 = .ok (.aload_n 0, 1) := by decide +kernel
theorem dX4_priceOfPart_8 : decode cX4_priceOfPart 8 = .ok (.iload_n 3, 1) := by decide +kernel
theorem dX4_priceOfPart_9 : decode cX4_priceOfPart 9 = .ok (.invokevirtual 42, 3) := by decide +kernel
theorem dX4_priceOfPart_12 : decode cX4_priceOfPart 12 = .ok (.istore 5, 2) := by decide +kernel
theorem dX4_priceOfPart_14 : decode cX4_priceOfPart 14 = .ok (.aload_n 1, 1) := by decide +kernel
theorem dX4_priceOfPart_15 : decode cX4_priceOfPart 15 = .ok (.iload 4, 2) := by decide +kernel
theorem dX4_priceOfPart_17 : decode cX4_priceOfPart 17 = .ok (.iload 5, 2) := by decide +kernel
theorem dX4_priceOfPart_19 : decode cX4_priceOfPart 19 = .ok (.iconst 0, 1) := by decide +kernel
theorem dX4_priceOfPart_20 : decode cX4_priceOfPart 20 = .ok (.invokevirtual 46, 3) := by decide +kernel
theorem dX4_priceOfPart_23 : decode cX4_priceOfPart 23 = .ok (.iconst (-1), 1) := by decide +kernel
theorem dX4_priceOfPart_24 : decode cX4_priceOfPart 24 = .ok (.if_icmp .ne 5, 3) := by decide +kernel
theorem dX4_priceOfPart_27 : decode cX4_priceOfPart 27 = .ok (.iconst (-1), 1) := by decide +kernel
theorem dX4_priceOfPart_28 : decode cX4_priceOfPart 28 = .ok (.ireturn, 1) := by decide +kernel
theorem dX4_priceOfPart_29 : decode cX4_priceOfPart 29 = .ok (.aload_n 1, 1) := by decide +kernel
theorem dX4_priceOfPart_30 : decode cX4_priceOfPart 30 = .ok (.iload 4, 2) := by decide +kernel
theorem dX4_priceOfPart_32 : decode cX4_priceOfPart 32 = .ok (.iload 5, 2) := by decide +kernel
theorem dX4_priceOfPart_34 : decode cX4_priceOfPart 34 = .ok (.aload_n 0, 1) := by decide +kernel
theorem dX4_priceOfPart_35 : decode cX4_priceOfPart 35 = .ok (.iload_n 2, 1) := by decide +kernel
theorem dX4_priceOfPart_36 : decode cX4_priceOfPart 36 = .ok (.iload_n 3, 1) := by decide +kernel
theorem dX4_priceOfPart_37 : decode cX4_priceOfPart 37 = .ok (.invokevirtual 52, 3) := by decide +kernel
theorem dX4_priceOfPart_40 : decode cX4_priceOfPart 40 = .ok (.invokevirtual 46, 3) := by decide +kernel
theorem dX4_priceOfPart_43 : decode cX4_priceOfPart 43 = .ok (.istore 6, 2) := by decide +kernel
theorem dX4_priceOfPart_45 : decode cX4_priceOfPart 45 = .ok (.iload 6, 2) := by decide +kernel
theorem dX4_priceOfPart_47 : decode cX4_priceOfPart 47 = .ok (.iconst (-1), 1) := by decide +kernel
theorem dX4_priceOfPart_48 : decode cX4_priceOfPart 48 = .ok (.if_icmp .ne 6, 3) := by decide +kernel
theorem dX4_priceOfPart_51 : decode cX4_priceOfPart 51 = .ok (.bipush (-2), 2) := by decide +kernel
theorem dX4_priceOfPart_53 : decode cX4_priceOfPart 53 = .ok (.ireturn, 1) := by decide +kernel
theorem dX4_priceOfPart_54 : decode cX4_priceOfPart 54 = .ok (.aload_n 1, 1) := by decide +kernel
theorem dX4_priceOfPart_55 : decode cX4_priceOfPart 55 = .ok (.iload 4, 2) := by decide +kernel
theorem dX4_priceOfPart_57 : decode cX4_priceOfPart 57 = .ok (.iload 5, 2) := by decide +kernel
theorem dX4_priceOfPart_59 : decode cX4_priceOfPart 59 = .ok (.aload_n 0, 1) := by decide +kernel
theorem dX4_priceOfPart_60 : decode cX4_priceOfPart 60 = .ok (.aload_n 1, 1) := by decide +kernel
theorem dX4_priceOfPart_61 : decode cX4_priceOfPart 61 = .ok (.getfield 56, 3) := by decide +kernel
theorem dX4_priceOfPart_64 : decode cX4_priceOfPart 64 = .ok (.iload_n 2, 1) := by decide +kernel
theorem dX4_priceOfPart_65 : decode cX4_priceOfPart 65 = .ok (.iload_n 3, 1) := by decide +kernel
theorem dX4_priceOfPart_66 : decode cX4_priceOfPart 66 = .ok (.invokevirtual 60, 3) := by decide +kernel
theorem dX4_priceOfPart_69 : decode cX4_priceOfPart 69 = .ok (.invokevirtual 64, 3) := by decide +kernel
theorem dX4_priceOfPart_72 : decode cX4_priceOfPart 72 = .ok (.istore 7, 2) := by decide +kernel
theorem dX4_priceOfPart_74 : decode cX4_priceOfPart 74 = .ok (.iload 7, 2) := by decide +kernel
theorem dX4_priceOfPart_76 : decode cX4_priceOfPart 76 = .ok (.iconst (-1), 1) := by decide +kernel
theorem dX4_priceOfPart_77 : decode cX4_priceOfPart 77 = .ok (.if_icmp .ne 6, 3) := by decide +kernel
theorem dX4_priceOfPart_80 : decode cX4_priceOfPart 80 = .ok (.bipush (-3), 2) := by decide +kernel
theorem dX4_priceOfPart_82 : decode cX4_priceOfPart 82 = .ok (.ireturn, 1) := by decide +kernel
theorem dX4_priceOfPart_83 : decode cX4_priceOfPart 83 = .ok (.aload_n 1, 1) := by decide +kernel
theorem dX4_priceOfPart_84 : decode cX4_priceOfPart 84 = .ok (.iload 6, 2) := by decide +kernel
theorem dX4_priceOfPart_86 : decode cX4_priceOfPart 86 = .ok (.aload_n 0, 1) := by decide +kernel
theorem dX4_priceOfPart_87 : decode cX4_priceOfPart 87 = .ok (.aload_n 1, 1) := by decide +kernel
theorem dX4_priceOfPart_88 : decode cX4_priceOfPart 88 = .ok (.iload_n 2, 1) := by decide +kernel
theorem dX4_priceOfPart_89 : decode cX4_priceOfPart 89 = .ok (.iload_n 3, 1) := by decide +kernel
theorem dX4_priceOfPart_90 : decode cX4_priceOfPart 90 = .ok (.invokevirtual 67, 3) := by decide +kernel
theorem dX4_priceOfPart_93 : decode cX4_priceOfPart 93 = .ok (.invokestatic 71, 3) := by decide +kernel
theorem dX4_priceOfPart_96 : decode cX4_priceOfPart 96 = .ok (.iload 7, 2) := by decide +kernel
theorem dX4_priceOfPart_98 : decode cX4_priceOfPart 98 = .ok (.invokevirtual 76, 3) := by decide +kernel
theorem dX4_priceOfPart_101 : decode cX4_priceOfPart 101 = .ok (.ireturn, 1) := by decide +kernel
theorem dX4_stopsBetween_0 : decode cX4_stopsBetween 0 = .ok (.iconst 0, 1) := by decide +kernel
theorem dX4_stopsBetween_1 : decode cX4_stopsBetween 1 = .ok (.istore_n 3, 1) := by decide +kernel
theorem dX4_stopsBetween_2 : decode cX4_stopsBetween 2 = .ok (.iload_n 1, 1) := by decide +kernel
theorem dX4_stopsBetween_3 : decode cX4_stopsBetween 3 = .ok (.iconst 1, 1) := by decide +kernel
theorem dX4_stopsBetween_4 : decode cX4_stopsBetween 4 = .ok (.iadd, 1) := by decide +kernel
theorem dX4_stopsBetween_5 : decode cX4_stopsBetween 5 = .ok (.istore 4, 2) := by decide +kernel
theorem dX4_stopsBetween_7 : decode cX4_stopsBetween 7 = .ok (.iload 4, 2) := by decide +kernel
theorem dX4_stopsBetween_9 : decode cX4_stopsBetween 9 = .ok (.iload_n 2, 1) := by decide +kernel
theorem dX4_stopsBetween_10 : decode cX4_stopsBetween 10 = .ok (.if_icmp .ge 21, 3) := by decide +kernel
theorem dX4_stopsBetween_13 : decode cX4_stopsBetween 13 = .ok (.aload_n 0, 1) := by decide +kernel
theorem dX4_stopsBetween_14 : decode cX4_stopsBetween 14 = .ok (.iload 4, 2) := by decide +kernel
theorem dX4_stopsBetween_16 : decode cX4_stopsBetween 16 = .ok (.invokevirtual 79, 3) := by decide +kernel
theorem dX4_stopsBetween_19 : decode cX4_stopsBetween 19 = .ok (.ifCond .eq 6, 3) := by decide +kernel
theorem dX4_stopsBetween_22 : decode cX4_stopsBetween 22 = .ok (.iinc 3 1, 3) := by decide +kernel
theorem dX4_stopsBetween_25 : decode cX4_stopsBetween 25 = .ok (.iinc 4 1, 3) := by decide +kernel
theorem dX4_stopsBetween_28 : decode cX4_stopsBetween 28 = .ok (.goto (-21), 3) := by decide +kernel
theorem dX4_stopsBetween_31 : decode cX4_stopsBetween 31 = .ok (.iload_n 3, 1) := by decide +kernel
theorem dX4_stopsBetween_32 : decode cX4_stopsBetween 32 = .ok (.ireturn, 1) := by decide +kernel
theorem dX4_milesOfLegs_0 : decode cX4_milesOfLegs 0 = .ok (.iconst 0, 1) := by decide +kernel
theorem dX4_milesOfLegs_1 : decode cX4_milesOfLegs 1 = .ok (.istore 4, 2) := by decide +kernel
theorem dX4_milesOfLegs_3 : decode cX4_milesOfLegs 3 = .ok (.iload_n 2, 1) := by decide +kernel
theorem dX4_milesOfLegs_4 : decode cX4_milesOfLegs 4 = .ok (.istore 5, 2) := by decide +kernel
theorem dX4_milesOfLegs_6 : decode cX4_milesOfLegs 6 = .ok (.iload 5, 2) := by decide +kernel
theorem dX4_milesOfLegs_8 : decode cX4_milesOfLegs 8 = .ok (.iload_n 3, 1) := by decide +kernel
theorem dX4_milesOfLegs_9 : decode cX4_milesOfLegs 9 = .ok (.if_icmp .ge 41, 3) := by decide +kernel
theorem dX4_milesOfLegs_12 : decode cX4_milesOfLegs 12 = .ok (.aload_n 0, 1) := by decide +kernel
theorem dX4_milesOfLegs_13 : decode cX4_milesOfLegs 13 = .ok (.iload 5, 2) := by decide +kernel
theorem dX4_milesOfLegs_15 : decode cX4_milesOfLegs 15 = .ok (.invokevirtual 22, 3) := by decide +kernel
theorem dX4_milesOfLegs_18 : decode cX4_milesOfLegs 18 = .ok (.astore 6, 2) := by decide +kernel
theorem dX4_milesOfLegs_20 : decode cX4_milesOfLegs 20 = .ok (.aload 6, 2) := by decide +kernel
theorem dX4_milesOfLegs_22 : decode cX4_milesOfLegs 22 = .ok (.ifnull 22, 3) := by decide +kernel
theorem dX4_milesOfLegs_25 : decode cX4_milesOfLegs 25 = .ok (.iload 4, 2) := by decide +kernel
theorem dX4_milesOfLegs_27 : decode cX4_milesOfLegs 27 = .ok (.aload_n 1, 1) := by decide +kernel
theorem dX4_milesOfLegs_28 : decode cX4_milesOfLegs 28 = .ok (.aload 6, 2) := by decide +kernel
theorem dX4_milesOfLegs_30 : decode cX4_milesOfLegs 30 = .ok (.getfield 32, 3) := by decide +kernel
theorem dX4_milesOfLegs_33 : decode cX4_milesOfLegs 33 = .ok (.aload 6, 2) := by decide +kernel
theorem dX4_milesOfLegs_35 : decode cX4_milesOfLegs 35 = .ok (.getfield 26, 3) := by decide +kernel
theorem dX4_milesOfLegs_38 : decode cX4_milesOfLegs 38 = .ok (.invokevirtual 83, 3) := by decide +kernel
theorem dX4_milesOfLegs_41 : decode cX4_milesOfLegs 41 = .ok (.iadd, 1) := by decide +kernel
theorem dX4_milesOfLegs_42 : decode cX4_milesOfLegs 42 = .ok (.istore 4, 2) := by decide +kernel
theorem dX4_milesOfLegs_44 : decode cX4_milesOfLegs 44 = .ok (.iinc 5 1, 3) := by decide +kernel
theorem dX4_milesOfLegs_47 : decode cX4_milesOfLegs 47 = .ok (.goto (-41), 3) := by decide +kernel
theorem dX4_milesOfLegs_50 : decode cX4_milesOfLegs 50 = .ok (.iload 4, 2) := by decide +kernel
theorem dX4_milesOfLegs_52 : decode cX4_milesOfLegs 52 = .ok (.ireturn, 1) := by decide +kernel
theorem dX4_highestBetween_0 : decode cX4_highestBetween 0 = .ok (.iconst (-1), 1) := by decide +kernel
theorem dX4_highestBetween_1 : decode cX4_highestBetween 1 = .ok (.istore 4, 2) := by decide +kernel
theorem dX4_highestBetween_3 : decode cX4_highestBetween 3 = .ok (.iload_n 2, 1) := by decide +kernel
theorem dX4_highestBetween_4 : decode cX4_highestBetween 4 = .ok (.iconst 1, 1) := by decide +kernel
theorem dX4_highestBetween_5 : decode cX4_highestBetween 5 = .ok (.iadd, 1) := by decide +kernel
theorem dX4_highestBetween_6 : decode cX4_highestBetween 6 = .ok (.istore 5, 2) := by decide +kernel
theorem dX4_highestBetween_8 : decode cX4_highestBetween 8 = .ok (.iload 5, 2) := by decide +kernel
theorem dX4_highestBetween_10 : decode cX4_highestBetween 10 = .ok (.iload_n 3, 1) := by decide +kernel
theorem dX4_highestBetween_11 : decode cX4_highestBetween 11 = .ok (.if_icmp .ge 32, 3) := by decide +kernel
theorem dX4_highestBetween_14 : decode cX4_highestBetween 14 = .ok (.iload 4, 2) := by decide +kernel
theorem dX4_highestBetween_16 : decode cX4_highestBetween 16 = .ok (.aload_n 1, 1) := by decide +kernel
theorem dX4_highestBetween_17 : decode cX4_highestBetween 17 = .ok (.aload_n 0, 1) := by decide +kernel
theorem dX4_highestBetween_18 : decode cX4_highestBetween 18 = .ok (.iload_n 2, 1) := by decide +kernel
theorem dX4_highestBetween_19 : decode cX4_highestBetween 19 = .ok (.invokevirtual 42, 3) := by decide +kernel
theorem dX4_highestBetween_22 : decode cX4_highestBetween 22 = .ok (.aload_n 0, 1) := by decide +kernel
theorem dX4_highestBetween_23 : decode cX4_highestBetween 23 = .ok (.iload 5, 2) := by decide +kernel
theorem dX4_highestBetween_25 : decode cX4_highestBetween 25 = .ok (.invokevirtual 42, 3) := by decide +kernel
theorem dX4_highestBetween_28 : decode cX4_highestBetween 28 = .ok (.iconst 0, 1) := by decide +kernel
theorem dX4_highestBetween_29 : decode cX4_highestBetween 29 = .ok (.invokevirtual 46, 3) := by decide +kernel
theorem dX4_highestBetween_32 : decode cX4_highestBetween 32 = .ok (.invokestatic 71, 3) := by decide +kernel
theorem dX4_highestBetween_35 : decode cX4_highestBetween 35 = .ok (.istore 4, 2) := by decide +kernel
theorem dX4_highestBetween_37 : decode cX4_highestBetween 37 = .ok (.iinc 5 1, 3) := by decide +kernel
theorem dX4_highestBetween_40 : decode cX4_highestBetween 40 = .ok (.goto (-32), 3) := by decide +kernel
theorem dX4_highestBetween_43 : decode cX4_highestBetween 43 = .ok (.iload 4, 2) := by decide +kernel
theorem dX4_highestBetween_45 : decode cX4_highestBetween 45 = .ok (.ireturn, 1) := by decide +kernel
theorem dX5_init_0 : decode cX5_init 0 = .ok (.aload_n 0, 1) := by decide +kernel
theorem dX5_init_1 : decode cX5_init 1 = .ok (.invokespecial 1, 3) := by decide +kernel
theorem dX5_init_4 : decode cX5_init 4 = .ok (.return_, 1) := by decide +kernel
theorem dX6_init_0 : decode cX6_init 0 = .ok (.aload_n 0, 1) := by decide +kernel
theorem dX6_init_1 : decode cX6_init 1 = .ok (.invokespecial 3, 3) := by decide +kernel
theorem dX6_init_4 : decode cX6_init 4 = .ok (.aload_n 0, 1) := by decide +kernel
theorem dX6_init_5 : decode cX6_init 5 = .ok (.bipush 100, 2) := by decide +kernel
theorem dX6_init_7 : decode cX6_init 7 = .ok (.newarray .int, 2) := by decide +kernel
theorem dX6_init_9 : decode cX6_init 9 = .ok (.putfield 9, 3) := by decide +kernel
theorem dX6_init_12 : decode cX6_init 12 = .ok (.return_, 1) := by decide +kernel
theorem dX6_get_0 : decode cX6_get 0 = .ok (.iload_n 1, 1) := by decide +kernel
theorem dX6_get_1 : decode cX6_get 1 = .ok (.invokestatic 15, 3) := by decide +kernel
theorem dX6_get_4 : decode cX6_get 4 = .ok (.ifCond .eq 24, 3) := by decide +kernel
theorem dX6_get_7 : decode cX6_get 7 = .ok (.iload_n 2, 1) := by decide +kernel
theorem dX6_get_8 : decode cX6_get 8 = .ok (.invokestatic 15, 3) := by decide +kernel
theorem dX6_get_11 : decode cX6_get 11 = .ok (.ifCond .eq 17, 3) := by decide +kernel
theorem dX6_get_14 : decode cX6_get 14 = .ok (.aload_n 0, 1) := by decide +kernel
theorem dX6_get_15 : decode cX6_get 15 = .ok (.getfield 9, 3) := by decide +kernel
theorem dX6_get_18 : decode cX6_get 18 = .ok (.iload_n 1, 1) := by decide +kernel
theorem dX6_get_19 : decode cX6_get 19 = .ok (.bipush 10, 2) := by decide +kernel
theorem dX6_get_21 : decode cX6_get 21 = .ok (.imul, 1) := by decide +kernel
theorem dX6_get_22 : decode cX6_get 22 = .ok (.iload_n 2, 1) := by decide +kernel
theorem dX6_get_23 : decode cX6_get 23 = .ok (.iadd, 1) := by decide +kernel
theorem dX6_get_24 : decode cX6_get 24 = .ok (.iaload, 1) := by decide +kernel
theorem dX6_get_25 : decode cX6_get 25 = .ok (.goto 4, 3) := by decide +kernel
theorem dX6_get_28 : decode cX6_get 28 = .ok (.iconst 0, 1) := by decide +kernel
theorem dX6_get_29 : decode cX6_get 29 = .ok (.ireturn, 1) := by decide +kernel
theorem dX6_put_0 : decode cX6_put 0 = .ok (.aload_n 0, 1) := by decide +kernel
theorem dX6_put_1 : decode cX6_put 1 = .ok (.iload_n 1, 1) := by decide +kernel
theorem dX6_put_2 : decode cX6_put 2 = .ok (.iload_n 2, 1) := by decide +kernel
theorem dX6_put_3 : decode cX6_put 3 = .ok (.invokevirtual 19, 3) := by decide +kernel
theorem dX6_put_6 : decode cX6_put 6 = .ok (.istore 4, 2) := by decide +kernel
theorem dX6_put_8 : decode cX6_put 8 = .ok (.iload_n 1, 1) := by decide +kernel
theorem dX6_put_9 : decode cX6_put 9 = .ok (.invokestatic 15, 3) := by decide +kernel
theorem dX6_put_12 : decode cX6_put 12 = .ok (.ifCond .eq 34, 3) := by decide +kernel
theorem dX6_put_15 : decode cX6_put 15 = .ok (.iload_n 2, 1) := by decide +kernel
theorem dX6_put_16 : decode cX6_put 16 = .ok (.invokestatic 15, 3) := by decide +kernel
theorem dX6_put_19 : decode cX6_put 19 = .ok (.ifCond .eq 27, 3) := by decide +kernel
theorem dX6_put_22 : decode cX6_put 22 = .ok (.aload_n 0, 1) := by decide +kernel
theorem dX6_put_23 : decode cX6_put 23 = .ok (.getfield 9, 3) := by decide +kernel
theorem dX6_put_26 : decode cX6_put 26 = .ok (.iload_n 1, 1) := by decide +kernel
theorem dX6_put_27 : decode cX6_put 27 = .ok (.bipush 10, 2) := by decide +kernel
theorem dX6_put_29 : decode cX6_put 29 = .ok (.imul, 1) := by decide +kernel
theorem dX6_put_30 : decode cX6_put 30 = .ok (.iload_n 2, 1) := by decide +kernel
theorem dX6_put_31 : decode cX6_put 31 = .ok (.iadd, 1) := by decide +kernel
theorem dX6_put_32 : decode cX6_put 32 = .ok (.iload_n 3, 1) := by decide +kernel
theorem dX6_put_33 : decode cX6_put 33 = .ok (.iastore, 1) := by decide +kernel
theorem dX6_put_34 : decode cX6_put 34 = .ok (.aload_n 0, 1) := by decide +kernel
theorem dX6_put_35 : decode cX6_put 35 = .ok (.getfield 9, 3) := by decide +kernel
theorem dX6_put_38 : decode cX6_put 38 = .ok (.iload_n 2, 1) := by decide +kernel
theorem dX6_put_39 : decode cX6_put 39 = .ok (.bipush 10, 2) := by decide +kernel
theorem dX6_put_41 : decode cX6_put 41 = .ok (.imul, 1) := by decide +kernel
theorem dX6_put_42 : decode cX6_put 42 = .ok (.iload_n 1, 1) := by decide +kernel
theorem dX6_put_43 : decode cX6_put 43 = .ok (.iadd, 1) := by decide +kernel
theorem dX6_put_44 : decode cX6_put 44 = .ok (.iload_n 3, 1) := by decide +kernel
theorem dX6_put_45 : decode cX6_put 45 = .ok (.iastore, 1) := by decide +kernel
theorem dX6_put_46 : decode cX6_put 46 = .ok (.iload 4, 2) := by decide +kernel
theorem dX6_put_48 : decode cX6_put 48 = .ok (.ireturn, 1) := by decide +kernel
theorem dX7_init_0 : decode cX7_init 0 = .ok (.aload_n 0, 1) := by decide +kernel
theorem dX7_init_1 : decode cX7_init 1 = .ok (.invokespecial 3, 3) := by decide +kernel
theorem dX7_init_4 : decode cX7_init 4 = .ok (.aload_n 0, 1) := by decide +kernel
theorem dX7_init_5 : decode cX7_init 5 = .ok (.new 9, 3) := by decide +kernel
theorem dX7_init_8 : decode cX7_init 8 = .ok (.dup, 1) := by decide +kernel
theorem dX7_init_9 : decode cX7_init 9 = .ok (.invokespecial 11, 3) := by decide +kernel
theorem dX7_init_12 : decode cX7_init 12 = .ok (.putfield 12, 3) := by decide +kernel
theorem dX7_init_15 : decode cX7_init 15 = .ok (.aload_n 0, 1) := by decide +kernel
theorem dX7_init_16 : decode cX7_init 16 = .ok (.sipush 500, 3) := by decide +kernel
theorem dX7_init_19 : decode cX7_init 19 = .ok (.newarray .int, 2) := by decide +kernel
theorem dX7_init_21 : decode cX7_init 21 = .ok (.putfield 18, 3) := by decide +kernel
theorem dX7_init_24 : decode cX7_init 24 = .ok (.iconst 0, 1) := by decide +kernel
theorem dX7_init_25 : decode cX7_init 25 = .ok (.istore_n 1, 1) := by decide +kernel
theorem dX7_init_26 : decode cX7_init 26 = .ok (.iload_n 1, 1) := by decide +kernel
theorem dX7_init_27 : decode cX7_init 27 = .ok (.aload_n 0, 1) := by decide +kernel
theorem dX7_init_28 : decode cX7_init 28 = .ok (.getfield 18, 3) := by decide +kernel
theorem dX7_init_31 : decode cX7_init 31 = .ok (.arraylength, 1) := by decide +kernel
theorem dX7_init_32 : decode cX7_init 32 = .ok (.if_icmp .ge 16, 3) := by decide +kernel
theorem dX7_init_35 : decode cX7_init 35 = .ok (.aload_n 0, 1) := by decide +kernel
theorem dX7_init_36 : decode cX7_init 36 = .ok (.getfield 18, 3) := by decide +kernel
theorem dX7_init_39 : decode cX7_init 39 = .ok (.iload_n 1, 1) := by decide +kernel
theorem dX7_init_40 : decode cX7_init 40 = .ok (.iconst (-1), 1) := by decide +kernel
theorem dX7_init_41 : decode cX7_init 41 = .ok (.iastore, 1) := by decide +kernel
theorem dX7_init_42 : decode cX7_init 42 = .ok (.iinc 1 1, 3) := by decide +kernel
theorem dX7_init_45 : decode cX7_init 45 = .ok (.goto (-19), 3) := by decide +kernel
theorem dX7_init_48 : decode cX7_init 48 = .ok (.return_, 1) := by decide +kernel
theorem dX7_putProviso_0 : decode cX7_putProviso 0 = .ok (.aload_n 0, 1) := by decide +kernel
theorem dX7_putProviso_1 : decode cX7_putProviso 1 = .ok (.iload_n 1, 1) := by decide +kernel
theorem dX7_putProviso_2 : decode cX7_putProviso 2 = .ok (.iload_n 2, 1) := by decide +kernel
theorem dX7_putProviso_3 : decode cX7_putProviso 3 = .ok (.iload_n 3, 1) := by decide +kernel
theorem dX7_putProviso_4 : decode cX7_putProviso 4 = .ok (.invokevirtual 22, 3) := by decide +kernel
theorem dX7_putProviso_7 : decode cX7_putProviso 7 = .ok (.istore 5, 2) := by decide +kernel
theorem dX7_putProviso_9 : decode cX7_putProviso 9 = .ok (.iload_n 1, 1) := by decide +kernel
theorem dX7_putProviso_10 : decode cX7_putProviso 10 = .ok (.invokestatic 26, 3) := by decide +kernel
theorem dX7_putProviso_13 : decode cX7_putProviso 13 = .ok (.ifCond .eq 35, 3) := by decide +kernel
theorem dX7_putProviso_16 : decode cX7_putProviso 16 = .ok (.iload_n 2, 1) := by decide +kernel
theorem dX7_putProviso_17 : decode cX7_putProviso 17 = .ok (.invokestatic 30, 3) := by decide +kernel
theorem dX7_putProviso_20 : decode cX7_putProviso 20 = .ok (.ifCond .eq 28, 3) := by decide +kernel
theorem dX7_putProviso_23 : decode cX7_putProviso 23 = .ok (.iload_n 3, 1) := by decide +kernel
theorem dX7_putProviso_24 : decode cX7_putProviso 24 = .ok (.invokestatic 30, 3) := by decide +kernel
theorem dX7_putProviso_27 : decode cX7_putProviso 27 = .ok (.ifCond .eq 21, 3) := by decide +kernel
theorem dX7_putProviso_30 : decode cX7_putProviso 30 = .ok (.aload_n 0, 1) := by decide +kernel
theorem dX7_putProviso_31 : decode cX7_putProviso 31 = .ok (.getfield 18, 3) := by decide +kernel
theorem dX7_putProviso_34 : decode cX7_putProviso 34 = .ok (.iload_n 1, 1) := by decide +kernel
theorem dX7_putProviso_35 : decode cX7_putProviso 35 = .ok (.bipush 10, 2) := by decide +kernel
theorem dX7_putProviso_37 : decode cX7_putProviso 37 = .ok (.imul, 1) := by decide +kernel
theorem dX7_putProviso_38 : decode cX7_putProviso 38 = .ok (.iload_n 2, 1) := by decide +kernel
theorem dX7_putProviso_39 : decode cX7_putProviso 39 = .ok (.iadd, 1) := by decide +kernel
theorem dX7_putProviso_40 : decode cX7_putProviso 40 = .ok (.bipush 10, 2) := by decide +kernel
theorem dX7_putProviso_42 : decode cX7_putProviso 42 = .ok (.imul, 1) := by decide +kernel
theorem dX7_putProviso_43 : decode cX7_putProviso 43 = .ok (.iload_n 3, 1) := by decide +kernel
theorem dX7_putProviso_44 : decode cX7_putProviso 44 = .ok (.iadd, 1) := by decide +kernel
theorem dX7_putProviso_45 : decode cX7_putProviso 45 = .ok (.iload 4, 2) := by decide +kernel
theorem dX7_putProviso_47 : decode cX7_putProviso 47 = .ok (.iastore, 1) := by decide +kernel
theorem dX7_putProviso_48 : decode cX7_putProviso 48 = .ok (.iload 5, 2) := by decide +kernel
theorem dX7_putProviso_50 : decode cX7_putProviso 50 = .ok (.ireturn, 1) := by decide +kernel
theorem dX7_provisoOf_0 : decode cX7_provisoOf 0 = .ok (.iload_n 1, 1) := by decide +kernel
theorem dX7_provisoOf_1 : decode cX7_provisoOf 1 = .ok (.invokestatic 26, 3) := by decide +kernel
theorem dX7_provisoOf_4 : decode cX7_provisoOf 4 = .ok (.ifCond .eq 17, 3) := by decide +kernel
theorem dX7_provisoOf_7 : decode cX7_provisoOf 7 = .ok (.iload_n 2, 1) := by decide +kernel
theorem dX7_provisoOf_8 : decode cX7_provisoOf 8 = .ok (.invokestatic 30, 3) := by decide +kernel
theorem dX7_provisoOf_11 : decode cX7_provisoOf 11 = .ok (.ifCond .eq 10, 3) := by decide +kernel
theorem dX7_provisoOf_14 : decode cX7_provisoOf 14 = .ok (.iload_n 3, 1) := by decide +kernel
theorem dX7_provisoOf_15 : decode cX7_provisoOf 15 = .ok (.invokestatic 30, 3) := by decide +kernel
theorem dX7_provisoOf_18 : decode cX7_provisoOf 18 = .ok (.ifCond .ne 5, 3) := by decide +kernel
theorem dX7_provisoOf_21 : decode cX7_provisoOf 21 = .ok (.iconst (-1), 1) := by decide +kernel
theorem dX7_provisoOf_22 : decode cX7_provisoOf 22 = .ok (.ireturn, 1) := by decide +kernel
theorem dX7_provisoOf_23 : decode cX7_provisoOf 23 = .ok (.aload_n 0, 1) := by decide +kernel
theorem dX7_provisoOf_24 : decode cX7_provisoOf 24 = .ok (.getfield 18, 3) := by decide +kernel
theorem dX7_provisoOf_27 : decode cX7_provisoOf 27 = .ok (.iload_n 1, 1) := by decide +kernel
theorem dX7_provisoOf_28 : decode cX7_provisoOf 28 = .ok (.bipush 10, 2) := by decide +kernel
theorem dX7_provisoOf_30 : decode cX7_provisoOf 30 = .ok (.imul, 1) := by decide +kernel
theorem dX7_provisoOf_31 : decode cX7_provisoOf 31 = .ok (.iload_n 2, 1) := by decide +kernel
theorem dX7_provisoOf_32 : decode cX7_provisoOf 32 = .ok (.iadd, 1) := by decide +kernel
theorem dX7_provisoOf_33 : decode cX7_provisoOf 33 = .ok (.bipush 10, 2) := by decide +kernel
theorem dX7_provisoOf_35 : decode cX7_provisoOf 35 = .ok (.imul, 1) := by decide +kernel
theorem dX7_provisoOf_36 : decode cX7_provisoOf 36 = .ok (.iload_n 3, 1) := by decide +kernel
theorem dX7_provisoOf_37 : decode cX7_provisoOf 37 = .ok (.iadd, 1) := by decide +kernel
theorem dX7_provisoOf_38 : decode cX7_provisoOf 38 = .ok (.iaload, 1) := by decide +kernel
theorem dX7_provisoOf_39 : decode cX7_provisoOf 39 = .ok (.ireturn, 1) := by decide +kernel
theorem dX7_weightOf_0 : decode cX7_weightOf 0 = .ok (.aload_n 0, 1) := by decide +kernel
theorem dX7_weightOf_1 : decode cX7_weightOf 1 = .ok (.getfield 12, 3) := by decide +kernel
theorem dX7_weightOf_4 : decode cX7_weightOf 4 = .ok (.aload_n 1, 1) := by decide +kernel
theorem dX7_weightOf_5 : decode cX7_weightOf 5 = .ok (.getfield 33, 3) := by decide +kernel
theorem dX7_weightOf_8 : decode cX7_weightOf 8 = .ok (.aload_n 1, 1) := by decide +kernel
theorem dX7_weightOf_9 : decode cX7_weightOf 9 = .ok (.getfield 39, 3) := by decide +kernel
theorem dX7_weightOf_12 : decode cX7_weightOf 12 = .ok (.invokevirtual 42, 3) := by decide +kernel
theorem dX7_weightOf_15 : decode cX7_weightOf 15 = .ok (.istore_n 3, 1) := by decide +kernel
theorem dX7_weightOf_16 : decode cX7_weightOf 16 = .ok (.iload_n 3, 1) := by decide +kernel
theorem dX7_weightOf_17 : decode cX7_weightOf 17 = .ok (.ifCond .ne 18, 3) := by decide +kernel
theorem dX7_weightOf_20 : decode cX7_weightOf 20 = .ok (.aload_n 2, 1) := by decide +kernel
theorem dX7_weightOf_21 : decode cX7_weightOf 21 = .ok (.aload_n 1, 1) := by decide +kernel
theorem dX7_weightOf_22 : decode cX7_weightOf 22 = .ok (.getfield 33, 3) := by decide +kernel
theorem dX7_weightOf_25 : decode cX7_weightOf 25 = .ok (.aload_n 1, 1) := by decide +kernel
theorem dX7_weightOf_26 : decode cX7_weightOf 26 = .ok (.getfield 39, 3) := by decide +kernel
theorem dX7_weightOf_29 : decode cX7_weightOf 29 = .ok (.invokevirtual 42, 3) := by decide +kernel
theorem dX7_weightOf_32 : decode cX7_weightOf 32 = .ok (.goto 4, 3) := by decide +kernel
theorem dX7_weightOf_35 : decode cX7_weightOf 35 = .ok (.iload_n 3, 1) := by decide +kernel
theorem dX7_weightOf_36 : decode cX7_weightOf 36 = .ok (.ireturn, 1) := by decide +kernel
theorem dX7_share_0 : decode cX7_share 0 = .ok (.iload 4, 2) := by decide +kernel
theorem dX7_share_2 : decode cX7_share 2 = .ok (.istore 6, 2) := by decide +kernel
theorem dX7_share_4 : decode cX7_share 4 = .ok (.iconst 0, 1) := by decide +kernel
theorem dX7_share_5 : decode cX7_share 5 = .ok (.istore 7, 2) := by decide +kernel
theorem dX7_share_7 : decode cX7_share 7 = .ok (.iload_n 2, 1) := by decide +kernel
theorem dX7_share_8 : decode cX7_share 8 = .ok (.istore 8, 2) := by decide +kernel
theorem dX7_share_10 : decode cX7_share 10 = .ok (.iload 8, 2) := by decide +kernel
theorem dX7_share_12 : decode cX7_share 12 = .ok (.iload_n 3, 1) := by decide +kernel
theorem dX7_share_13 : decode cX7_share 13 = .ok (.if_icmp .ge 100, 3) := by decide +kernel
theorem dX7_share_16 : decode cX7_share 16 = .ok (.aload_n 1, 1) := by decide +kernel
theorem dX7_share_17 : decode cX7_share 17 = .ok (.iload 8, 2) := by decide +kernel
theorem dX7_share_19 : decode cX7_share 19 = .ok (.invokevirtual 46, 3) := by decide +kernel
theorem dX7_share_22 : decode cX7_share 22 = .ok (.astore 9, 2) := by decide +kernel
theorem dX7_share_24 : decode cX7_share 24 = .ok (.aload 9, 2) := by decide +kernel
theorem dX7_share_26 : decode cX7_share 26 = .ok (.ifnonnull 6, 3) := by decide +kernel
theorem dX7_share_29 : decode cX7_share 29 = .ok (.goto 78, 3) := by decide +kernel
theorem dX7_share_32 : decode cX7_share 32 = .ok (.aload_n 0, 1) := by decide +kernel
theorem dX7_share_33 : decode cX7_share 33 = .ok (.aload 9, 2) := by decide +kernel
theorem dX7_share_35 : decode cX7_share 35 = .ok (.getfield 52, 3) := by decide +kernel
theorem dX7_share_38 : decode cX7_share 38 = .ok (.aload 9, 2) := by decide +kernel
theorem dX7_share_40 : decode cX7_share 40 = .ok (.getfield 33, 3) := by decide +kernel
theorem dX7_share_43 : decode cX7_share 43 = .ok (.aload 9, 2) := by decide +kernel
theorem dX7_share_45 : decode cX7_share 45 = .ok (.getfield 39, 3) := by decide +kernel
theorem dX7_share_48 : decode cX7_share 48 = .ok (.invokevirtual 22, 3) := by decide +kernel
theorem dX7_share_51 : decode cX7_share 51 = .ok (.istore 10, 2) := by decide +kernel
theorem dX7_share_53 : decode cX7_share 53 = .ok (.iload 10, 2) := by decide +kernel
theorem dX7_share_55 : decode cX7_share 55 = .ok (.iconst (-1), 1) := by decide +kernel
theorem dX7_share_56 : decode cX7_share 56 = .ok (.if_icmp .ne 29, 3) := by decide +kernel
theorem dX7_share_59 : decode cX7_share 59 = .ok (.aload 9, 2) := by decide +kernel
theorem dX7_share_61 : decode cX7_share 61 = .ok (.aload_n 0, 1) := by decide +kernel
theorem dX7_share_62 : decode cX7_share 62 = .ok (.aload 9, 2) := by decide +kernel
theorem dX7_share_64 : decode cX7_share 64 = .ok (.aload 5, 2) := by decide +kernel
theorem dX7_share_66 : decode cX7_share 66 = .ok (.invokevirtual 55, 3) := by decide +kernel
theorem dX7_share_69 : decode cX7_share 69 = .ok (.putfield 59, 3) := by decide +kernel
theorem dX7_share_72 : decode cX7_share 72 = .ok (.iload 7, 2) := by decide +kernel
theorem dX7_share_74 : decode cX7_share 74 = .ok (.aload 9, 2) := by decide +kernel
theorem dX7_share_76 : decode cX7_share 76 = .ok (.getfield 59, 3) := by decide +kernel
theorem dX7_share_79 : decode cX7_share 79 = .ok (.iadd, 1) := by decide +kernel
theorem dX7_share_80 : decode cX7_share 80 = .ok (.istore 7, 2) := by decide +kernel
theorem dX7_share_82 : decode cX7_share 82 = .ok (.goto 25, 3) := by decide +kernel
theorem dX7_share_85 : decode cX7_share 85 = .ok (.aload 9, 2) := by decide +kernel
theorem dX7_share_87 : decode cX7_share 87 = .ok (.iload 10, 2) := by decide +kernel
theorem dX7_share_89 : decode cX7_share 89 = .ok (.iload 6, 2) := by decide +kernel
theorem dX7_share_91 : decode cX7_share 91 = .ok (.invokestatic 62, 3) := by decide +kernel
theorem dX7_share_94 : decode cX7_share 94 = .ok (.putfield 67, 3) := by decide +kernel
theorem dX7_share_97 : decode cX7_share 97 = .ok (.iload 6, 2) := by decide +kernel
theorem dX7_share_99 : decode cX7_share 99 = .ok (.aload 9, 2) := by decide +kernel
theorem dX7_share_101 : decode cX7_share 101 = .ok (.getfield 67, 3) := by decide +kernel
theorem dX7_share_104 : decode cX7_share 104 = .ok (.isub, 1) := by decide +kernel
theorem dX7_share_105 : decode cX7_share 105 = .ok (.istore 6, 2) := by decide +kernel
theorem dX7_share_107 : decode cX7_share 107 = .ok (.iinc 8 1, 3) := by decide +kernel
theorem dX7_share_110 : decode cX7_share 110 = .ok (.goto (-100), 3) := by decide +kernel
theorem dX7_share_113 : decode cX7_share 113 = .ok (.iload 7, 2) := by decide +kernel
theorem dX7_share_115 : decode cX7_share 115 = .ok (.ifCond .gt 6, 3) := by decide +kernel
theorem dX7_share_118 : decode cX7_share 118 = .ok (.iload 6, 2) := by decide +kernel
theorem dX7_share_120 : decode cX7_share 120 = .ok (.ireturn, 1) := by decide +kernel
theorem dX7_share_121 : decode cX7_share 121 = .ok (.aload_n 0, 1) := by decide +kernel
theorem dX7_share_122 : decode cX7_share 122 = .ok (.aload_n 1, 1) := by decide +kernel
theorem dX7_share_123 : decode cX7_share 123 = .ok (.iload_n 2, 1) := by decide +kernel
theorem dX7_share_124 : decode cX7_share 124 = .ok (.iload_n 3, 1) := by decide +kernel
theorem dX7_share_125 : decode cX7_share 125 = .ok (.iload 6, 2) := by decide +kernel
theorem dX7_share_127 : decode cX7_share 127 = .ok (.iload 7, 2) := by decide +kernel
theorem dX7_share_129 : decode cX7_share 129 = .ok (.invokevirtual 70, 3) := by decide +kernel
theorem dX7_share_132 : decode cX7_share 132 = .ok (.iconst 0, 1) := by decide +kernel
theorem dX7_share_133 : decode cX7_share 133 = .ok (.ireturn, 1) := by decide +kernel
theorem dX7_shareByWeights_0 : decode cX7_shareByWeights 0 = .ok (.aconst_null, 1) := by decide +kernel
theorem dX7_shareByWeights_1 : decode cX7_shareByWeights 1 = .ok (.astore 6, 2) := by decide +kernel
theorem dX7_shareByWeights_3 : decode cX7_shareByWeights 3 = .ok (.iload 4, 2) := by decide +kernel
theorem dX7_shareByWeights_5 : decode cX7_shareByWeights 5 = .ok (.istore 7, 2) := by decide +kernel
theorem dX7_shareByWeights_7 : decode cX7_shareByWeights 7 = .ok (.iload_n 2, 1) := by decide +kernel
theorem dX7_shareByWeights_8 : decode cX7_shareByWeights 8 = .ok (.istore 8, 2) := by decide +kernel
theorem dX7_shareByWeights_10 : decode cX7_shareByWeights 10 = .ok (.iload 8, 2) := by decide +kernel
theorem dX7_shareByWeights_12 : decode cX7_shareByWeights 12 = .ok (.iload_n 3, 1) := by decide +kernel
theorem dX7_shareByWeights_13 : decode cX7_shareByWeights 13 = .ok (.if_icmp .ge 69, 3) := by decide +kernel
theorem dX7_shareByWeights_16 : decode cX7_shareByWeights 16 = .ok (.aload_n 1, 1) := by decide +kernel
theorem dX7_shareByWeights_17 : decode cX7_shareByWeights 17 = .ok (.iload 8, 2) := by decide +kernel
theorem dX7_shareByWeights_19 : decode cX7_shareByWeights 19 = .ok (.invokevirtual 46, 3) := by decide +kernel
theorem dX7_shareByWeights_22 : decode cX7_shareByWeights 22 = .ok (.astore 9, 2) := by decide +kernel
theorem dX7_shareByWeights_24 : decode cX7_shareByWeights 24 = .ok (.aload 9, 2) := by decide +kernel
theorem dX7_shareByWeights_26 : decode cX7_shareByWeights 26 = .ok (.ifnull 50, 3) := by decide +kernel
theorem dX7_shareByWeights_29 : decode cX7_shareByWeights 29 = .ok (.aload 9, 2) := by decide +kernel
theorem dX7_shareByWeights_31 : decode cX7_shareByWeights 31 = .ok (.getfield 59, 3) := by decide +kernel
theorem dX7_shareByWeights_34 : decode cX7_shareByWeights 34 = .ok (.ifCond .le 42, 3) := by decide +kernel
theorem dX7_shareByWeights_37 : decode cX7_shareByWeights 37 = .ok (.iload 5, 2) := by decide +kernel
theorem dX7_shareByWeights_39 : decode cX7_shareByWeights 39 = .ok (.ifCond .le 37, 3) := by decide +kernel
theorem dX7_shareByWeights_42 : decode cX7_shareByWeights 42 = .ok (.aload 9, 2) := by decide +kernel
theorem dX7_shareByWeights_44 : decode cX7_shareByWeights 44 = .ok (.iload 4, 2) := by decide +kernel
theorem dX7_shareByWeights_46 : decode cX7_shareByWeights 46 = .ok (.i2l, 1) := by decide +kernel
theorem dX7_shareByWeights_47 : decode cX7_shareByWeights 47 = .ok (.aload 9, 2) := by decide +kernel
theorem dX7_shareByWeights_49 : decode cX7_shareByWeights 49 = .ok (.getfield 59, 3) := by decide +kernel
theorem dX7_shareByWeights_52 : decode cX7_shareByWeights 52 = .ok (.i2l, 1) := by decide +kernel
theorem dX7_shareByWeights_53 : decode cX7_shareByWeights 53 = .ok (.lmul, 1) := by decide +kernel
theorem dX7_shareByWeights_54 : decode cX7_shareByWeights 54 = .ok (.iload 5, 2) := by decide +kernel
theorem dX7_shareByWeights_56 : decode cX7_shareByWeights 56 = .ok (.i2l, 1) := by decide +kernel
theorem dX7_shareByWeights_57 : decode cX7_shareByWeights 57 = .ok (.ldiv, 1) := by decide +kernel
theorem dX7_shareByWeights_58 : decode cX7_shareByWeights 58 = .ok (.l2i, 1) := by decide +kernel
theorem dX7_shareByWeights_59 : decode cX7_shareByWeights 59 = .ok (.putfield 67, 3) := by decide +kernel
theorem dX7_shareByWeights_62 : decode cX7_shareByWeights 62 = .ok (.iload 7, 2) := by decide +kernel
theorem dX7_shareByWeights_64 : decode cX7_shareByWeights 64 = .ok (.aload 9, 2) := by decide +kernel
theorem dX7_shareByWeights_66 : decode cX7_shareByWeights 66 = .ok (.getfield 67, 3) := by decide +kernel
theorem dX7_shareByWeights_69 : decode cX7_shareByWeights 69 = .ok (.isub, 1) := by decide +kernel
theorem dX7_shareByWeights_70 : decode cX7_shareByWeights 70 = .ok (.istore 7, 2) := by decide +kernel
theorem dX7_shareByWeights_72 : decode cX7_shareByWeights 72 = .ok (.aload 9, 2) := by decide +kernel
theorem dX7_shareByWeights_74 : decode cX7_shareByWeights 74 = .ok (.astore 6, 2) := by decide +kernel
theorem dX7_shareByWeights_76 : decode cX7_shareByWeights 76 = .ok (.iinc 8 1, 3) := by decide +kernel
theorem dX7_shareByWeights_79 : decode cX7_shareByWeights 79 = .ok (.goto (-69), 3) := by decide +kernel
theorem dX7_shareByWeights_82 : decode cX7_shareByWeights 82 = .ok (.aload 6, 2) := by decide +kernel
theorem dX7_shareByWeights_84 : decode cX7_shareByWeights 84 = .ok (.ifnull 15, 3) := by decide +kernel
theorem dX7_shareByWeights_87 : decode cX7_shareByWeights 87 = .ok (.aload 6, 2) := by decide +kernel
theorem dX7_shareByWeights_89 : decode cX7_shareByWeights 89 = .ok (.dup, 1) := by decide +kernel
theorem dX7_shareByWeights_90 : decode cX7_shareByWeights 90 = .ok (.getfield 67, 3) := by decide +kernel
theorem dX7_shareByWeights_93 : decode cX7_shareByWeights 93 = .ok (.iload 7, 2) := by decide +kernel
theorem dX7_shareByWeights_95 : decode cX7_shareByWeights 95 = .ok (.iadd, 1) := by decide +kernel
theorem dX7_shareByWeights_96 : decode cX7_shareByWeights 96 = .ok (.putfield 67, 3) := by decide +kernel
theorem dX7_shareByWeights_99 : decode cX7_shareByWeights 99 = .ok (.return_, 1) := by decide +kernel
theorem dX8_init_0 : decode cX8_init 0 = .ok (.aload_n 0, 1) := by decide +kernel
theorem dX8_init_1 : decode cX8_init 1 = .ok (.invokespecial 3, 3) := by decide +kernel
theorem dX8_init_4 : decode cX8_init 4 = .ok (.aload_n 0, 1) := by decide +kernel
theorem dX8_init_5 : decode cX8_init 5 = .ok (.new 9, 3) := by decide +kernel
theorem dX8_init_8 : decode cX8_init 8 = .ok (.dup, 1) := by decide +kernel
theorem dX8_init_9 : decode cX8_init 9 = .ok (.invokespecial 11, 3) := by decide +kernel
theorem dX8_init_12 : decode cX8_init 12 = .ok (.putfield 12, 3) := by decide +kernel
theorem dX8_init_15 : decode cX8_init 15 = .ok (.aload_n 0, 1) := by decide +kernel
theorem dX8_init_16 : decode cX8_init 16 = .ok (.bipush 40, 2) := by decide +kernel
theorem dX8_init_18 : decode cX8_init 18 = .ok (.anewarray 18, 3) := by decide +kernel
theorem dX8_init_21 : decode cX8_init 21 = .ok (.putfield 20, 3) := by decide +kernel
theorem dX8_init_24 : decode cX8_init 24 = .ok (.aload_n 0, 1) := by decide +kernel
theorem dX8_init_25 : decode cX8_init 25 = .ok (.bipush 10, 2) := by decide +kernel
theorem dX8_init_27 : decode cX8_init 27 = .ok (.newarray .int, 2) := by decide +kernel
theorem dX8_init_29 : decode cX8_init 29 = .ok (.putfield 24, 3) := by decide +kernel
theorem dX8_init_32 : decode cX8_init 32 = .ok (.aload_n 0, 1) := by decide +kernel
theorem dX8_init_33 : decode cX8_init 33 = .ok (.bipush 10, 2) := by decide +kernel
theorem dX8_init_35 : decode cX8_init 35 = .ok (.newarray .int, 2) := by decide +kernel
theorem dX8_init_37 : decode cX8_init 37 = .ok (.putfield 28, 3) := by decide +kernel
theorem dX8_init_40 : decode cX8_init 40 = .ok (.aload_n 0, 1) := by decide +kernel
theorem dX8_init_41 : decode cX8_init 41 = .ok (.iconst 1, 1) := by decide +kernel
theorem dX8_init_42 : decode cX8_init 42 = .ok (.putfield 31, 3) := by decide +kernel
theorem dX8_init_45 : decode cX8_init 45 = .ok (.return_, 1) := by decide +kernel
theorem dX8_file_0 : decode cX8_file 0 = .ok (.aload_n 0, 1) := by decide +kernel
theorem dX8_file_1 : decode cX8_file 1 = .ok (.getfield 35, 3) := by decide +kernel
theorem dX8_file_4 : decode cX8_file 4 = .ok (.bipush 40, 2) := by decide +kernel
theorem dX8_file_6 : decode cX8_file 6 = .ok (.if_icmp .lt 5, 3) := by decide +kernel
theorem dX8_file_9 : decode cX8_file 9 = .ok (.iconst (-1), 1) := by decide +kernel
theorem dX8_file_10 : decode cX8_file 10 = .ok (.ireturn, 1) := by decide +kernel
theorem dX8_file_11 : decode cX8_file 11 = .ok (.aload_n 0, 1) := by decide +kernel
theorem dX8_file_12 : decode cX8_file 12 = .ok (.getfield 20, 3) := by decide +kernel
theorem dX8_file_15 : decode cX8_file 15 = .ok (.aload_n 0, 1) := by decide +kernel
theorem dX8_file_16 : decode cX8_file 16 = .ok (.getfield 35, 3) := by decide +kernel
theorem dX8_file_19 : decode cX8_file 19 = .ok (.aload_n 1, 1) := by decide +kernel
theorem dX8_file_20 : decode cX8_file 20 = .ok (.aastore, 1) := by decide +kernel
theorem dX8_file_21 : decode cX8_file 21 = .ok (.aload_n 0, 1) := by decide +kernel
theorem dX8_file_22 : decode cX8_file 22 = .ok (.dup, 1) := by decide +kernel
theorem dX8_file_23 : decode cX8_file 23 = .ok (.getfield 35, 3) := by decide +kernel
theorem dX8_file_26 : decode cX8_file 26 = .ok (.iconst 1, 1) := by decide +kernel
theorem dX8_file_27 : decode cX8_file 27 = .ok (.iadd, 1) := by decide +kernel
theorem dX8_file_28 : decode cX8_file 28 = .ok (.putfield 35, 3) := by decide +kernel
theorem dX8_file_31 : decode cX8_file 31 = .ok (.aload_n 0, 1) := by decide +kernel
theorem dX8_file_32 : decode cX8_file 32 = .ok (.getfield 35, 3) := by decide +kernel
theorem dX8_file_35 : decode cX8_file 35 = .ok (.iconst 1, 1) := by decide +kernel
theorem dX8_file_36 : decode cX8_file 36 = .ok (.isub, 1) := by decide +kernel
theorem dX8_file_37 : decode cX8_file 37 = .ok (.ireturn, 1) := by decide +kernel
theorem dX8_fareAt_0 : decode cX8_fareAt 0 = .ok (.iload_n 1, 1) := by decide +kernel
theorem dX8_fareAt_1 : decode cX8_fareAt 1 = .ok (.ifCond .lt 21, 3) := by decide +kernel
theorem dX8_fareAt_4 : decode cX8_fareAt 4 = .ok (.iload_n 1, 1) := by decide +kernel
theorem dX8_fareAt_5 : decode cX8_fareAt 5 = .ok (.aload_n 0, 1) := by decide +kernel
theorem dX8_fareAt_6 : decode cX8_fareAt 6 = .ok (.getfield 35, 3) := by decide +kernel
theorem dX8_fareAt_9 : decode cX8_fareAt 9 = .ok (.if_icmp .ge 13, 3) := by decide +kernel
theorem dX8_fareAt_12 : decode cX8_fareAt 12 = .ok (.iload_n 1, 1) := by decide +kernel
theorem dX8_fareAt_13 : decode cX8_fareAt 13 = .ok (.bipush 40, 2) := by decide +kernel
theorem dX8_fareAt_15 : decode cX8_fareAt 15 = .ok (.if_icmp .ge 7, 3) := by decide +kernel
theorem dX8_fareAt_18 : decode cX8_fareAt 18 = .ok (.iconst 1, 1) := by decide +kernel
theorem dX8_fareAt_19 : decode cX8_fareAt 19 = .ok (.goto 4, 3) := by decide +kernel
theorem dX8_fareAt_22 : decode cX8_fareAt 22 = .ok (.iconst 0, 1) := by decide +kernel
theorem dX8_fareAt_23 : decode cX8_fareAt 23 = .ok (.istore_n 2, 1) := by decide +kernel
theorem dX8_fareAt_24 : decode cX8_fareAt 24 = .ok (.iload_n 2, 1) := by decide +kernel
theorem dX8_fareAt_25 : decode cX8_fareAt 25 = .ok (.ifCond .eq 12, 3) := by decide +kernel
theorem dX8_fareAt_28 : decode cX8_fareAt 28 = .ok (.aload_n 0, 1) := by decide +kernel
theorem dX8_fareAt_29 : decode cX8_fareAt 29 = .ok (.getfield 20, 3) := by decide +kernel
theorem dX8_fareAt_32 : decode cX8_fareAt 32 = .ok (.iload_n 1, 1) := by decide +kernel
theorem dX8_fareAt_33 : decode cX8_fareAt 33 = .ok (.aaload, 1) := by decide +kernel
theorem dX8_fareAt_34 : decode cX8_fareAt 34 = .ok (.goto 4, 3) := by decide +kernel
theorem dX8_fareAt_37 : decode cX8_fareAt 37 = .ok (.aconst_null, 1) := by decide +kernel
theorem dX8_fareAt_38 : decode cX8_fareAt 38 = .ok (.areturn, 1) := by decide +kernel
theorem dX8_putTaxes_0 : decode cX8_putTaxes 0 = .ok (.iload_n 1, 1) := by decide +kernel
theorem dX8_putTaxes_1 : decode cX8_putTaxes 1 = .ok (.invokestatic 38, 3) := by decide +kernel
theorem dX8_putTaxes_4 : decode cX8_putTaxes 4 = .ok (.ifCond .eq 17, 3) := by decide +kernel
theorem dX8_putTaxes_7 : decode cX8_putTaxes 7 = .ok (.aload_n 0, 1) := by decide +kernel
theorem dX8_putTaxes_8 : decode cX8_putTaxes 8 = .ok (.getfield 24, 3) := by decide +kernel
theorem dX8_putTaxes_11 : decode cX8_putTaxes 11 = .ok (.iload_n 1, 1) := by decide +kernel
theorem dX8_putTaxes_12 : decode cX8_putTaxes 12 = .ok (.iload_n 2, 1) := by decide +kernel
theorem dX8_putTaxes_13 : decode cX8_putTaxes 13 = .ok (.iastore, 1) := by decide +kernel
theorem dX8_putTaxes_14 : decode cX8_putTaxes 14 = .ok (.aload_n 0, 1) := by decide +kernel
theorem dX8_putTaxes_15 : decode cX8_putTaxes 15 = .ok (.getfield 28, 3) := by decide +kernel
theorem dX8_putTaxes_18 : decode cX8_putTaxes 18 = .ok (.iload_n 1, 1) := by decide +kernel
theorem dX8_putTaxes_19 : decode cX8_putTaxes 19 = .ok (.iload_n 3, 1) := by decide +kernel
theorem dX8_putTaxes_20 : decode cX8_putTaxes 20 = .ok (.iastore, 1) := by decide +kernel
theorem dX8_putTaxes_21 : decode cX8_putTaxes 21 = .ok (.return_, 1) := by decide +kernel
theorem dX8_taxAt_0 : decode cX8_taxAt 0 = .ok (.iload_n 1, 1) := by decide +kernel
theorem dX8_taxAt_1 : decode cX8_taxAt 1 = .ok (.invokestatic 38, 3) := by decide +kernel
theorem dX8_taxAt_4 : decode cX8_taxAt 4 = .ok (.ifCond .ne 5, 3) := by decide +kernel
theorem dX8_taxAt_7 : decode cX8_taxAt 7 = .ok (.iconst 0, 1) := by decide +kernel
theorem dX8_taxAt_8 : decode cX8_taxAt 8 = .ok (.ireturn, 1) := by decide +kernel
theorem dX8_taxAt_9 : decode cX8_taxAt 9 = .ok (.iload_n 2, 1) := by decide +kernel
theorem dX8_taxAt_10 : decode cX8_taxAt 10 = .ok (.ifCond .eq 12, 3) := by decide +kernel
theorem dX8_taxAt_13 : decode cX8_taxAt 13 = .ok (.aload_n 0, 1) := by decide +kernel
theorem dX8_taxAt_14 : decode cX8_taxAt 14 = .ok (.getfield 24, 3) := by decide +kernel
theorem dX8_taxAt_17 : decode cX8_taxAt 17 = .ok (.iload_n 1, 1) := by decide +kernel
theorem dX8_taxAt_18 : decode cX8_taxAt 18 = .ok (.iaload, 1) := by decide +kernel
theorem dX8_taxAt_19 : decode cX8_taxAt 19 = .ok (.goto 9, 3) := by decide +kernel
theorem dX8_taxAt_22 : decode cX8_taxAt 22 = .ok (.aload_n 0, 1) := by decide +kernel
theorem dX8_taxAt_23 : decode cX8_taxAt 23 = .ok (.getfield 28, 3) := by decide +kernel
theorem dX8_taxAt_26 : decode cX8_taxAt 26 = .ok (.iload_n 1, 1) := by decide +kernel
theorem dX8_taxAt_27 : decode cX8_taxAt 27 = .ok (.iaload, 1) := by decide +kernel
theorem dX8_taxAt_28 : decode cX8_taxAt 28 = .ok (.ireturn, 1) := by decide +kernel
theorem dX8_lowestFare_0 : decode cX8_lowestFare 0 = .ok (.iconst (-1), 1) := by decide +kernel
theorem dX8_lowestFare_1 : decode cX8_lowestFare 1 = .ok (.istore 4, 2) := by decide +kernel
theorem dX8_lowestFare_3 : decode cX8_lowestFare 3 = .ok (.iconst 0, 1) := by decide +kernel
theorem dX8_lowestFare_4 : decode cX8_lowestFare 4 = .ok (.istore 5, 2) := by decide +kernel
theorem dX8_lowestFare_6 : decode cX8_lowestFare 6 = .ok (.iload 5, 2) := by decide +kernel
theorem dX8_lowestFare_8 : decode cX8_lowestFare 8 = .ok (.aload_n 0, 1) := by decide +kernel
theorem dX8_lowestFare_9 : decode cX8_lowestFare 9 = .ok (.getfield 35, 3) := by decide +kernel
theorem dX8_lowestFare_12 : decode cX8_lowestFare 12 = .ok (.if_icmp .ge 68, 3) := by decide +kernel
theorem dX8_lowestFare_15 : decode cX8_lowestFare 15 = .ok (.aload_n 0, 1) := by decide +kernel
theorem dX8_lowestFare_16 : decode cX8_lowestFare 16 = .ok (.iload 5, 2) := by decide +kernel
theorem dX8_lowestFare_18 : decode cX8_lowestFare 18 = .ok (.invokevirtual 42, 3) := by decide +kernel
theorem dX8_lowestFare_21 : decode cX8_lowestFare 21 = .ok (.astore 6, 2) := by decide +kernel
theorem dX8_lowestFare_23 : decode cX8_lowestFare 23 = .ok (.aload 6, 2) := by decide +kernel
theorem dX8_lowestFare_25 : decode cX8_lowestFare 25 = .ok (.ifnull 49, 3) := by decide +kernel
theorem dX8_lowestFare_28 : decode cX8_lowestFare 28 = .ok (.aload 6, 2) := by decide +kernel
theorem dX8_lowestFare_30 : decode cX8_lowestFare 30 = .ok (.iload_n 1, 1) := by decide +kernel
theorem dX8_lowestFare_31 : decode cX8_lowestFare 31 = .ok (.iload_n 2, 1) := by decide +kernel
theorem dX8_lowestFare_32 : decode cX8_lowestFare 32 = .ok (.aload_n 0, 1) := by decide +kernel
theorem dX8_lowestFare_33 : decode cX8_lowestFare 33 = .ok (.getfield 46, 3) := by decide +kernel
theorem dX8_lowestFare_36 : decode cX8_lowestFare 36 = .ok (.invokevirtual 49, 3) := by decide +kernel
theorem dX8_lowestFare_39 : decode cX8_lowestFare 39 = .ok (.ifCond .eq 35, 3) := by decide +kernel
theorem dX8_lowestFare_42 : decode cX8_lowestFare 42 = .ok (.aload 6, 2) := by decide +kernel
theorem dX8_lowestFare_44 : decode cX8_lowestFare 44 = .ok (.getfield 53, 3) := by decide +kernel
theorem dX8_lowestFare_47 : decode cX8_lowestFare 47 = .ok (.iload_n 3, 1) := by decide +kernel
theorem dX8_lowestFare_48 : decode cX8_lowestFare 48 = .ok (.if_icmp .lt 26, 3) := by decide +kernel
theorem dX8_lowestFare_51 : decode cX8_lowestFare 51 = .ok (.iload 4, 2) := by decide +kernel
theorem dX8_lowestFare_53 : decode cX8_lowestFare 53 = .ok (.iconst (-1), 1) := by decide +kernel
theorem dX8_lowestFare_54 : decode cX8_lowestFare 54 = .ok (.if_icmp .eq 13, 3) := by decide +kernel
theorem dX8_lowestFare_57 : decode cX8_lowestFare 57 = .ok (.aload 6, 2) := by decide +kernel
theorem dX8_lowestFare_59 : decode cX8_lowestFare 59 = .ok (.getfield 56, 3) := by decide +kernel
theorem dX8_lowestFare_62 : decode cX8_lowestFare 62 = .ok (.iload 4, 2) := by decide +kernel
theorem dX8_lowestFare_64 : decode cX8_lowestFare 64 = .ok (.if_icmp .ge 10, 3) := by decide +kernel
theorem dX8_lowestFare_67 : decode cX8_lowestFare 67 = .ok (.aload 6, 2) := by decide +kernel
theorem dX8_lowestFare_69 : decode cX8_lowestFare 69 = .ok (.getfield 56, 3) := by decide +kernel
theorem dX8_lowestFare_72 : decode cX8_lowestFare 72 = .ok (.istore 4, 2) := by decide +kernel
theorem dX8_lowestFare_74 : decode cX8_lowestFare 74 = .ok (.iinc 5 1, 3) := by decide +kernel
theorem dX8_lowestFare_77 : decode cX8_lowestFare 77 = .ok (.goto (-71), 3) := by decide +kernel
theorem dX8_lowestFare_80 : decode cX8_lowestFare 80 = .ok (.iload 4, 2) := by decide +kernel
theorem dX8_lowestFare_82 : decode cX8_lowestFare 82 = .ok (.ireturn, 1) := by decide +kernel
theorem dX8_surcharge_0 : decode cX8_surcharge 0 = .ok (.aload_n 0, 1) := by decide +kernel
theorem dX8_surcharge_1 : decode cX8_surcharge 1 = .ok (.getfield 12, 3) := by decide +kernel
theorem dX8_surcharge_4 : decode cX8_surcharge 4 = .ok (.iload_n 1, 1) := by decide +kernel
theorem dX8_surcharge_5 : decode cX8_surcharge 5 = .ok (.iload_n 2, 1) := by decide +kernel
theorem dX8_surcharge_6 : decode cX8_surcharge 6 = .ok (.invokevirtual 59, 3) := by decide +kernel
theorem dX8_surcharge_9 : decode cX8_surcharge 9 = .ok (.istore 4, 2) := by decide +kernel
theorem dX8_surcharge_11 : decode cX8_surcharge 11 = .ok (.iload 4, 2) := by decide +kernel
theorem dX8_surcharge_13 : decode cX8_surcharge 13 = .ok (.ifCond .ne 5, 3) := by decide +kernel
theorem dX8_surcharge_16 : decode cX8_surcharge 16 = .ok (.iconst (-1), 1) := by decide +kernel
theorem dX8_surcharge_17 : decode cX8_surcharge 17 = .ok (.ireturn, 1) := by decide +kernel
theorem dX8_surcharge_18 : decode cX8_surcharge 18 = .ok (.iload 4, 2) := by decide +kernel
theorem dX8_surcharge_20 : decode cX8_surcharge 20 = .ok (.bipush 120, 2) := by decide +kernel
theorem dX8_surcharge_22 : decode cX8_surcharge 22 = .ok (.imul, 1) := by decide +kernel
theorem dX8_surcharge_23 : decode cX8_surcharge 23 = .ok (.bipush 100, 2) := by decide +kernel
theorem dX8_surcharge_25 : decode cX8_surcharge 25 = .ok (.idiv, 1) := by decide +kernel
theorem dX8_surcharge_26 : decode cX8_surcharge 26 = .ok (.istore 5, 2) := by decide +kernel
theorem dX8_surcharge_28 : decode cX8_surcharge 28 = .ok (.iconst 0, 1) := by decide +kernel
theorem dX8_surcharge_29 : decode cX8_surcharge 29 = .ok (.istore 6, 2) := by decide +kernel
theorem dX8_surcharge_31 : decode cX8_surcharge 31 = .ok (.iload 6, 2) := by decide +kernel
theorem dX8_surcharge_33 : decode cX8_surcharge 33 = .ok (.bipush 25, 2) := by decide +kernel
theorem dX8_surcharge_35 : decode cX8_surcharge 35 = .ok (.if_icmp .gt 27, 3) := by decide +kernel
theorem dX8_surcharge_38 : decode cX8_surcharge 38 = .ok (.iload 5, 2) := by decide +kernel
theorem dX8_surcharge_40 : decode cX8_surcharge 40 = .ok (.bipush 100, 2) := by decide +kernel
theorem dX8_surcharge_42 : decode cX8_surcharge 42 = .ok (.iload 6, 2) := by decide +kernel
theorem dX8_surcharge_44 : decode cX8_surcharge 44 = .ok (.iadd, 1) := by decide +kernel
theorem dX8_surcharge_45 : decode cX8_surcharge 45 = .ok (.imul, 1) := by decide +kernel
theorem dX8_surcharge_46 : decode cX8_surcharge 46 = .ok (.bipush 100, 2) := by decide +kernel
theorem dX8_surcharge_48 : decode cX8_surcharge 48 = .ok (.idiv, 1) := by decide +kernel
theorem dX8_surcharge_49 : decode cX8_surcharge 49 = .ok (.iload_n 3, 1) := by decide +kernel
theorem dX8_surcharge_50 : decode cX8_surcharge 50 = .ok (.if_icmp .lt 6, 3) := by decide +kernel
theorem dX8_surcharge_53 : decode cX8_surcharge 53 = .ok (.iload 6, 2) := by decide +kernel
theorem dX8_surcharge_55 : decode cX8_surcharge 55 = .ok (.ireturn, 1) := by decide +kernel
theorem dX8_surcharge_56 : decode cX8_surcharge 56 = .ok (.iinc 6 5, 3) := by decide +kernel
theorem dX8_surcharge_59 : decode cX8_surcharge 59 = .ok (.goto (-28), 3) := by decide +kernel
theorem dX8_surcharge_62 : decode cX8_surcharge 62 = .ok (.iconst (-1), 1) := by decide +kernel
theorem dX8_surcharge_63 : decode cX8_surcharge 63 = .ok (.ireturn, 1) := by decide +kernel
theorem dX8_roundedUp_0 : decode cX8_roundedUp 0 = .ok (.iload_n 1, 1) := by decide +kernel
theorem dX8_roundedUp_1 : decode cX8_roundedUp 1 = .ok (.i2l, 1) := by decide +kernel
theorem dX8_roundedUp_2 : decode cX8_roundedUp 2 = .ok (.bipush 100, 2) := by decide +kernel
theorem dX8_roundedUp_4 : decode cX8_roundedUp 4 = .ok (.iload_n 2, 1) := by decide +kernel
theorem dX8_roundedUp_5 : decode cX8_roundedUp 5 = .ok (.iadd, 1) := by decide +kernel
theorem dX8_roundedUp_6 : decode cX8_roundedUp 6 = .ok (.i2l, 1) := by decide +kernel
theorem dX8_roundedUp_7 : decode cX8_roundedUp 7 = .ok (.lmul, 1) := by decide +kernel
theorem dX8_roundedUp_8 : decode cX8_roundedUp 8 = .ok (.lstore_n 3, 1) := by decide +kernel
theorem dX8_roundedUp_9 : decode cX8_roundedUp 9 = .ok (.ldc2_w 63, 3) := by decide +kernel
theorem dX8_roundedUp_12 : decode cX8_roundedUp 12 = .ok (.aload_n 0, 1) := by decide +kernel
theorem dX8_roundedUp_13 : decode cX8_roundedUp 13 = .ok (.getfield 31, 3) := by decide +kernel
theorem dX8_roundedUp_16 : decode cX8_roundedUp 16 = .ok (.i2l, 1) := by decide +kernel
theorem dX8_roundedUp_17 : decode cX8_roundedUp 17 = .ok (.lmul, 1) := by decide +kernel
theorem dX8_roundedUp_18 : decode cX8_roundedUp 18 = .ok (.lstore 5, 2) := by decide +kernel
theorem dX8_roundedUp_20 : decode cX8_roundedUp 20 = .ok (.lload 5, 2) := by decide +kernel
theorem dX8_roundedUp_22 : decode cX8_roundedUp 22 = .ok (.lconst 0, 1) := by decide +kernel
theorem dX8_roundedUp_23 : decode cX8_roundedUp 23 = .ok (.lcmp, 1) := by decide +kernel
theorem dX8_roundedUp_24 : decode cX8_roundedUp 24 = .ok (.ifCond .le 22, 3) := by decide +kernel
theorem dX8_roundedUp_27 : decode cX8_roundedUp 27 = .ok (.lload_n 3, 1) := by decide +kernel
theorem dX8_roundedUp_28 : decode cX8_roundedUp 28 = .ok (.lload 5, 2) := by decide +kernel
theorem dX8_roundedUp_30 : decode cX8_roundedUp 30 = .ok (.ladd, 1) := by decide +kernel
theorem dX8_roundedUp_31 : decode cX8_roundedUp 31 = .ok (.lconst 1, 1) := by decide +kernel
theorem dX8_roundedUp_32 : decode cX8_roundedUp 32 = .ok (.lsub, 1) := by decide +kernel
theorem dX8_roundedUp_33 : decode cX8_roundedUp 33 = .ok (.lload 5, 2) := by decide +kernel
theorem dX8_roundedUp_35 : decode cX8_roundedUp 35 = .ok (.ldiv, 1) := by decide +kernel
theorem dX8_roundedUp_36 : decode cX8_roundedUp 36 = .ok (.aload_n 0, 1) := by decide +kernel
theorem dX8_roundedUp_37 : decode cX8_roundedUp 37 = .ok (.getfield 31, 3) := by decide +kernel
theorem dX8_roundedUp_40 : decode cX8_roundedUp 40 = .ok (.i2l, 1) := by decide +kernel
theorem dX8_roundedUp_41 : decode cX8_roundedUp 41 = .ok (.lmul, 1) := by decide +kernel
theorem dX8_roundedUp_42 : decode cX8_roundedUp 42 = .ok (.l2i, 1) := by decide +kernel
theorem dX8_roundedUp_43 : decode cX8_roundedUp 43 = .ok (.goto 4, 3) := by decide +kernel
theorem dX8_roundedUp_46 : decode cX8_roundedUp 46 = .ok (.iload_n 1, 1) := by decide +kernel
theorem dX8_roundedUp_47 : decode cX8_roundedUp 47 = .ok (.ireturn, 1) := by decide +kernel
theorem dX9_init_0 : decode cX9_init 0 = .ok (.aload_n 0, 1) := by decide +kernel
theorem dX9_init_1 : decode cX9_init 1 = .ok (.invokespecial 3, 3) := by decide +kernel
theorem dX9_init_4 : decode cX9_init 4 = .ok (.aload_n 0, 1) := by decide +kernel
theorem dX9_init_5 : decode cX9_init 5 = .ok (.bipush 8, 2) := by decide +kernel
theorem dX9_init_7 : decode cX9_init 7 = .ok (.anewarray 9, 3) := by decide +kernel
theorem dX9_init_10 : decode cX9_init 10 = .ok (.putfield 11, 3) := by decide +kernel
theorem dX9_init_13 : decode cX9_init 13 = .ok (.aload_n 0, 1) := by decide +kernel
theorem dX9_init_14 : decode cX9_init 14 = .ok (.iload_n 1, 1) := by decide +kernel
theorem dX9_init_15 : decode cX9_init 15 = .ok (.putfield 17, 3) := by decide +kernel
theorem dX9_init_18 : decode cX9_init 18 = .ok (.aload_n 0, 1) := by decide +kernel
theorem dX9_init_19 : decode cX9_init 19 = .ok (.iload_n 2, 1) := by decide +kernel
theorem dX9_init_20 : decode cX9_init 20 = .ok (.putfield 21, 3) := by decide +kernel
theorem dX9_init_23 : decode cX9_init 23 = .ok (.aload_n 0, 1) := by decide +kernel
theorem dX9_init_24 : decode cX9_init 24 = .ok (.iload_n 3, 1) := by decide +kernel
theorem dX9_init_25 : decode cX9_init 25 = .ok (.putfield 24, 3) := by decide +kernel
theorem dX9_init_28 : decode cX9_init 28 = .ok (.return_, 1) := by decide +kernel
theorem dX9_add_0 : decode cX9_add 0 = .ok (.aload_n 0, 1) := by decide +kernel
theorem dX9_add_1 : decode cX9_add 1 = .ok (.getfield 27, 3) := by decide +kernel
theorem dX9_add_4 : decode cX9_add 4 = .ok (.bipush 8, 2) := by decide +kernel
theorem dX9_add_6 : decode cX9_add 6 = .ok (.if_icmp .ge 36, 3) := by decide +kernel
theorem dX9_add_9 : decode cX9_add 9 = .ok (.aload_n 0, 1) := by decide +kernel
theorem dX9_add_10 : decode cX9_add 10 = .ok (.getfield 11, 3) := by decide +kernel
theorem dX9_add_13 : decode cX9_add 13 = .ok (.aload_n 0, 1) := by decide +kernel
theorem dX9_add_14 : decode cX9_add 14 = .ok (.getfield 27, 3) := by decide +kernel
theorem dX9_add_17 : decode cX9_add 17 = .ok (.aload_n 1, 1) := by decide +kernel
theorem dX9_add_18 : decode cX9_add 18 = .ok (.aastore, 1) := by decide +kernel
theorem dX9_add_19 : decode cX9_add 19 = .ok (.aload_n 0, 1) := by decide +kernel
theorem dX9_add_20 : decode cX9_add 20 = .ok (.dup, 1) := by decide +kernel
theorem dX9_add_21 : decode cX9_add 21 = .ok (.getfield 27, 3) := by decide +kernel
theorem dX9_add_24 : decode cX9_add 24 = .ok (.iconst 1, 1) := by decide +kernel
theorem dX9_add_25 : decode cX9_add 25 = .ok (.iadd, 1) := by decide +kernel
theorem dX9_add_26 : decode cX9_add 26 = .ok (.putfield 27, 3) := by decide +kernel
theorem dX9_add_29 : decode cX9_add 29 = .ok (.aload_n 0, 1) := by decide +kernel
theorem dX9_add_30 : decode cX9_add 30 = .ok (.dup, 1) := by decide +kernel
theorem dX9_add_31 : decode cX9_add 31 = .ok (.getfield 30, 3) := by decide +kernel
theorem dX9_add_34 : decode cX9_add 34 = .ok (.aload_n 1, 1) := by decide +kernel
theorem dX9_add_35 : decode cX9_add 35 = .ok (.getfield 33, 3) := by decide +kernel
theorem dX9_add_38 : decode cX9_add 38 = .ok (.iadd, 1) := by decide +kernel
theorem dX9_add_39 : decode cX9_add 39 = .ok (.putfield 30, 3) := by decide +kernel
theorem dX9_add_42 : decode cX9_add 42 = .ok (.return_, 1) := by decide +kernel
theorem dX9_couponAt_0 : decode cX9_couponAt 0 = .ok (.iload_n 1, 1) := by decide +kernel
theorem dX9_couponAt_1 : decode cX9_couponAt 1 = .ok (.ifCond .lt 26, 3) := by decide +kernel
theorem dX9_couponAt_4 : decode cX9_couponAt 4 = .ok (.iload_n 1, 1) := by decide +kernel
theorem dX9_couponAt_5 : decode cX9_couponAt 5 = .ok (.aload_n 0, 1) := by decide +kernel
theorem dX9_couponAt_6 : decode cX9_couponAt 6 = .ok (.getfield 27, 3) := by decide +kernel
theorem dX9_couponAt_9 : decode cX9_couponAt 9 = .ok (.if_icmp .ge 18, 3) := by decide +kernel
theorem dX9_couponAt_12 : decode cX9_couponAt 12 = .ok (.iload_n 1, 1) := by decide +kernel
theorem dX9_couponAt_13 : decode cX9_couponAt 13 = .ok (.bipush 8, 2) := by decide +kernel
theorem dX9_couponAt_15 : decode cX9_couponAt 15 = .ok (.if_icmp .ge 12, 3) := by decide +kernel
theorem dX9_couponAt_18 : decode cX9_couponAt 18 = .ok (.aload_n 0, 1) := by decide +kernel
theorem dX9_couponAt_19 : decode cX9_couponAt 19 = .ok (.getfield 11, 3) := by decide +kernel
theorem dX9_couponAt_22 : decode cX9_couponAt 22 = .ok (.iload_n 1, 1) := by decide +kernel
theorem dX9_couponAt_23 : decode cX9_couponAt 23 = .ok (.aaload, 1) := by decide +kernel
theorem dX9_couponAt_24 : decode cX9_couponAt 24 = .ok (.goto 4, 3) := by decide +kernel
theorem dX9_couponAt_27 : decode cX9_couponAt 27 = .ok (.aconst_null, 1) := by decide +kernel
theorem dX9_couponAt_28 : decode cX9_couponAt 28 = .ok (.areturn, 1) := by decide +kernel
theorem dX9_openAt_0 : decode cX9_openAt 0 = .ok (.aload_n 0, 1) := by decide +kernel
theorem dX9_openAt_1 : decode cX9_openAt 1 = .ok (.iload_n 1, 1) := by decide +kernel
theorem dX9_openAt_2 : decode cX9_openAt 2 = .ok (.invokevirtual 36, 3) := by decide +kernel
theorem dX9_openAt_5 : decode cX9_openAt 5 = .ok (.astore_n 2, 1) := by decide +kernel
theorem dX9_openAt_6 : decode cX9_openAt 6 = .ok (.aload_n 2, 1) := by decide +kernel
theorem dX9_openAt_7 : decode cX9_openAt 7 = .ok (.ifnull 14, 3) := by decide +kernel
theorem dX9_openAt_10 : decode cX9_openAt 10 = .ok (.aload_n 2, 1) := by decide +kernel
theorem dX9_openAt_11 : decode cX9_openAt 11 = .ok (.getfield 40, 3) := by decide +kernel
theorem dX9_openAt_14 : decode cX9_openAt 14 = .ok (.ifCond .ne 7, 3) := by decide +kernel
theorem dX9_openAt_17 : decode cX9_openAt 17 = .ok (.aload_n 2, 1) := by decide +kernel
theorem dX9_openAt_18 : decode cX9_openAt 18 = .ok (.goto 4, 3) := by decide +kernel
theorem dX9_openAt_21 : decode cX9_openAt 21 = .ok (.aconst_null, 1) := by decide +kernel
theorem dX9_openAt_22 : decode cX9_openAt 22 = .ok (.areturn, 1) := by decide +kernel
theorem dX9_hasOpenOnes_0 : decode cX9_hasOpenOnes 0 = .ok (.iconst 0, 1) := by decide +kernel
theorem dX9_hasOpenOnes_1 : decode cX9_hasOpenOnes 1 = .ok (.istore_n 1, 1) := by decide +kernel
theorem dX9_hasOpenOnes_2 : decode cX9_hasOpenOnes 2 = .ok (.iload_n 1, 1) := by decide +kernel
theorem dX9_hasOpenOnes_3 : decode cX9_hasOpenOnes 3 = .ok (.aload_n 0, 1) := by decide +kernel
theorem dX9_hasOpenOnes_4 : decode cX9_hasOpenOnes 4 = .ok (.getfield 27, 3) := by decide +kernel
theorem dX9_hasOpenOnes_7 : decode cX9_hasOpenOnes 7 = .ok (.if_icmp .ge 19, 3) := by decide +kernel
theorem dX9_hasOpenOnes_10 : decode cX9_hasOpenOnes 10 = .ok (.aload_n 0, 1) := by decide +kernel
theorem dX9_hasOpenOnes_11 : decode cX9_hasOpenOnes 11 = .ok (.iload_n 1, 1) := by decide +kernel
theorem dX9_hasOpenOnes_12 : decode cX9_hasOpenOnes 12 = .ok (.invokevirtual 43, 3) := by decide +kernel
theorem dX9_hasOpenOnes_15 : decode cX9_hasOpenOnes 15 = .ok (.ifnull 5, 3) := by decide +kernel
theorem dX9_hasOpenOnes_18 : decode cX9_hasOpenOnes 18 = .ok (.iconst 1, 1) := by decide +kernel
theorem dX9_hasOpenOnes_19 : decode cX9_hasOpenOnes 19 = .ok (.ireturn, 1) := by decide +kernel
theorem dX9_hasOpenOnes_20 : decode cX9_hasOpenOnes 20 = .ok (.iinc 1 1, 3) := by decide +kernel
theorem dX9_hasOpenOnes_23 : decode cX9_hasOpenOnes 23 = .ok (.goto (-21), 3) := by decide +kernel
theorem dX9_hasOpenOnes_26 : decode cX9_hasOpenOnes 26 = .ok (.iconst 0, 1) := by decide +kernel
theorem dX9_hasOpenOnes_27 : decode cX9_hasOpenOnes 27 = .ok (.ireturn, 1) := by decide +kernel
theorem dX9_openShares_0 : decode cX9_openShares 0 = .ok (.iconst 0, 1) := by decide +kernel
theorem dX9_openShares_1 : decode cX9_openShares 1 = .ok (.istore_n 1, 1) := by decide +kernel
theorem dX9_openShares_2 : decode cX9_openShares 2 = .ok (.iconst 0, 1) := by decide +kernel
theorem dX9_openShares_3 : decode cX9_openShares 3 = .ok (.istore_n 2, 1) := by decide +kernel
theorem dX9_openShares_4 : decode cX9_openShares 4 = .ok (.iload_n 2, 1) := by decide +kernel
theorem dX9_openShares_5 : decode cX9_openShares 5 = .ok (.aload_n 0, 1) := by decide +kernel
theorem dX9_openShares_6 : decode cX9_openShares 6 = .ok (.getfield 27, 3) := by decide +kernel
theorem dX9_openShares_9 : decode cX9_openShares 9 = .ok (.if_icmp .ge 30, 3) := by decide +kernel
theorem dX9_openShares_12 : decode cX9_openShares 12 = .ok (.aload_n 0, 1) := by decide +kernel
theorem dX9_openShares_13 : decode cX9_openShares 13 = .ok (.iload_n 2, 1) := by decide +kernel
theorem dX9_openShares_14 : decode cX9_openShares 14 = .ok (.invokevirtual 43, 3) := by decide +kernel
theorem dX9_openShares_17 : decode cX9_openShares 17 = .ok (.astore_n 3, 1) := by decide +kernel
theorem dX9_openShares_18 : decode cX9_openShares 18 = .ok (.iload_n 1, 1) := by decide +kernel
theorem dX9_openShares_19 : decode cX9_openShares 19 = .ok (.aload_n 3, 1) := by decide +kernel
theorem dX9_openShares_20 : decode cX9_openShares 20 = .ok (.ifnonnull 7, 3) := by decide +kernel
theorem dX9_openShares_23 : decode cX9_openShares 23 = .ok (.iconst 0, 1) := by decide +kernel
theorem dX9_openShares_24 : decode cX9_openShares 24 = .ok (.goto 7, 3) := by decide +kernel
theorem dX9_openShares_27 : decode cX9_openShares 27 = .ok (.aload_n 3, 1) := by decide +kernel
theorem dX9_openShares_28 : decode cX9_openShares 28 = .ok (.getfield 46, 3) := by decide +kernel
theorem dX9_openShares_31 : decode cX9_openShares 31 = .ok (.iadd, 1) := by decide +kernel
theorem dX9_openShares_32 : decode cX9_openShares 32 = .ok (.istore_n 1, 1) := by decide +kernel
theorem dX9_openShares_33 : decode cX9_openShares 33 = .ok (.iinc 2 1, 3) := by decide +kernel
theorem dX9_openShares_36 : decode cX9_openShares 36 = .ok (.goto (-32), 3) := by decide +kernel
theorem dX9_openShares_39 : decode cX9_openShares 39 = .ok (.iload_n 1, 1) := by decide +kernel
theorem dX9_openShares_40 : decode cX9_openShares 40 = .ok (.ireturn, 1) := by decide +kernel
theorem dX9_openTaxes_0 : decode cX9_openTaxes 0 = .ok (.iconst 0, 1) := by decide +kernel
theorem dX9_openTaxes_1 : decode cX9_openTaxes 1 = .ok (.istore_n 1, 1) := by decide +kernel
theorem dX9_openTaxes_2 : decode cX9_openTaxes 2 = .ok (.iconst 0, 1) := by decide +kernel
theorem dX9_openTaxes_3 : decode cX9_openTaxes 3 = .ok (.istore_n 2, 1) := by decide +kernel
theorem dX9_openTaxes_4 : decode cX9_openTaxes 4 = .ok (.iload_n 2, 1) := by decide +kernel
theorem dX9_openTaxes_5 : decode cX9_openTaxes 5 = .ok (.aload_n 0, 1) := by decide +kernel
theorem dX9_openTaxes_6 : decode cX9_openTaxes 6 = .ok (.getfield 27, 3) := by decide +kernel
theorem dX9_openTaxes_9 : decode cX9_openTaxes 9 = .ok (.if_icmp .ge 30, 3) := by decide +kernel
theorem dX9_openTaxes_12 : decode cX9_openTaxes 12 = .ok (.aload_n 0, 1) := by decide +kernel
theorem dX9_openTaxes_13 : decode cX9_openTaxes 13 = .ok (.iload_n 2, 1) := by decide +kernel
theorem dX9_openTaxes_14 : decode cX9_openTaxes 14 = .ok (.invokevirtual 43, 3) := by decide +kernel
theorem dX9_openTaxes_17 : decode cX9_openTaxes 17 = .ok (.astore_n 3, 1) := by decide +kernel
theorem dX9_openTaxes_18 : decode cX9_openTaxes 18 = .ok (.iload_n 1, 1) := by decide +kernel
theorem dX9_openTaxes_19 : decode cX9_openTaxes 19 = .ok (.aload_n 3, 1) := by decide +kernel
theorem dX9_openTaxes_20 : decode cX9_openTaxes 20 = .ok (.ifnonnull 7, 3) := by decide +kernel
theorem dX9_openTaxes_23 : decode cX9_openTaxes 23 = .ok (.iconst 0, 1) := by decide +kernel
theorem dX9_openTaxes_24 : decode cX9_openTaxes 24 = .ok (.goto 7, 3) := by decide +kernel
theorem dX9_openTaxes_27 : decode cX9_openTaxes 27 = .ok (.aload_n 3, 1) := by decide +kernel
theorem dX9_openTaxes_28 : decode cX9_openTaxes 28 = .ok (.getfield 33, 3) := by decide +kernel
theorem dX9_openTaxes_31 : decode cX9_openTaxes 31 = .ok (.iadd, 1) := by decide +kernel
theorem dX9_openTaxes_32 : decode cX9_openTaxes 32 = .ok (.istore_n 1, 1) := by decide +kernel
theorem dX9_openTaxes_33 : decode cX9_openTaxes 33 = .ok (.iinc 2 1, 3) := by decide +kernel
theorem dX9_openTaxes_36 : decode cX9_openTaxes 36 = .ok (.goto (-32), 3) := by decide +kernel
theorem dX9_openTaxes_39 : decode cX9_openTaxes 39 = .ok (.iload_n 1, 1) := by decide +kernel
theorem dX9_openTaxes_40 : decode cX9_openTaxes 40 = .ok (.ireturn, 1) := by decide +kernel
theorem dX9_flownTaxes_0 : decode cX9_flownTaxes 0 = .ok (.iconst 0, 1) := by decide +kernel
theorem dX9_flownTaxes_1 : decode cX9_flownTaxes 1 = .ok (.istore_n 1, 1) := by decide +kernel
theorem dX9_flownTaxes_2 : decode cX9_flownTaxes 2 = .ok (.iconst 0, 1) := by decide +kernel
theorem dX9_flownTaxes_3 : decode cX9_flownTaxes 3 = .ok (.istore_n 2, 1) := by decide +kernel
theorem dX9_flownTaxes_4 : decode cX9_flownTaxes 4 = .ok (.iload_n 2, 1) := by decide +kernel
theorem dX9_flownTaxes_5 : decode cX9_flownTaxes 5 = .ok (.aload_n 0, 1) := by decide +kernel
theorem dX9_flownTaxes_6 : decode cX9_flownTaxes 6 = .ok (.getfield 27, 3) := by decide +kernel
theorem dX9_flownTaxes_9 : decode cX9_flownTaxes 9 = .ok (.if_icmp .ge 38, 3) := by decide +kernel
theorem dX9_flownTaxes_12 : decode cX9_flownTaxes 12 = .ok (.aload_n 0, 1) := by decide +kernel
theorem dX9_flownTaxes_13 : decode cX9_flownTaxes 13 = .ok (.iload_n 2, 1) := by decide +kernel
theorem dX9_flownTaxes_14 : decode cX9_flownTaxes 14 = .ok (.invokevirtual 36, 3) := by decide +kernel
theorem dX9_flownTaxes_17 : decode cX9_flownTaxes 17 = .ok (.astore_n 3, 1) := by decide +kernel
theorem dX9_flownTaxes_18 : decode cX9_flownTaxes 18 = .ok (.iload_n 1, 1) := by decide +kernel
theorem dX9_flownTaxes_19 : decode cX9_flownTaxes 19 = .ok (.aload_n 3, 1) := by decide +kernel
theorem dX9_flownTaxes_20 : decode cX9_flownTaxes 20 = .ok (.ifnull 18, 3) := by decide +kernel
theorem dX9_flownTaxes_23 : decode cX9_flownTaxes 23 = .ok (.aload_n 3, 1) := by decide +kernel
theorem dX9_flownTaxes_24 : decode cX9_flownTaxes 24 = .ok (.getfield 40, 3) := by decide +kernel
theorem dX9_flownTaxes_27 : decode cX9_flownTaxes 27 = .ok (.iconst 1, 1) := by decide +kernel
theorem dX9_flownTaxes_28 : decode cX9_flownTaxes 28 = .ok (.if_icmp .ne 10, 3) := by decide +kernel
theorem dX9_flownTaxes_31 : decode cX9_flownTaxes 31 = .ok (.aload_n 3, 1) := by decide +kernel
theorem dX9_flownTaxes_32 : decode cX9_flownTaxes 32 = .ok (.getfield 33, 3) := by decide +kernel
theorem dX9_flownTaxes_35 : decode cX9_flownTaxes 35 = .ok (.goto 4, 3) := by decide +kernel
theorem dX9_flownTaxes_38 : decode cX9_flownTaxes 38 = .ok (.iconst 0, 1) := by decide +kernel
theorem dX9_flownTaxes_39 : decode cX9_flownTaxes 39 = .ok (.iadd, 1) := by decide +kernel
theorem dX9_flownTaxes_40 : decode cX9_flownTaxes 40 = .ok (.istore_n 1, 1) := by decide +kernel
theorem dX9_flownTaxes_41 : decode cX9_flownTaxes 41 = .ok (.iinc 2 1, 3) := by decide +kernel
theorem dX9_flownTaxes_44 : decode cX9_flownTaxes 44 = .ok (.goto (-40), 3) := by decide +kernel
theorem dX9_flownTaxes_47 : decode cX9_flownTaxes 47 = .ok (.iload_n 1, 1) := by decide +kernel
theorem dX9_flownTaxes_48 : decode cX9_flownTaxes 48 = .ok (.ireturn, 1) := by decide +kernel
theorem dX9_turnOpenOnes_0 : decode cX9_turnOpenOnes 0 = .ok (.iconst 0, 1) := by decide +kernel
theorem dX9_turnOpenOnes_1 : decode cX9_turnOpenOnes 1 = .ok (.istore_n 3, 1) := by decide +kernel
theorem dX9_turnOpenOnes_2 : decode cX9_turnOpenOnes 2 = .ok (.iload_n 3, 1) := by decide +kernel
theorem dX9_turnOpenOnes_3 : decode cX9_turnOpenOnes 3 = .ok (.iload_n 1, 1) := by decide +kernel
theorem dX9_turnOpenOnes_4 : decode cX9_turnOpenOnes 4 = .ok (.if_icmp .ge 27, 3) := by decide +kernel
theorem dX9_turnOpenOnes_7 : decode cX9_turnOpenOnes 7 = .ok (.aload_n 0, 1) := by decide +kernel
theorem dX9_turnOpenOnes_8 : decode cX9_turnOpenOnes 8 = .ok (.iload_n 3, 1) := by decide +kernel
theorem dX9_turnOpenOnes_9 : decode cX9_turnOpenOnes 9 = .ok (.invokevirtual 43, 3) := by decide +kernel
theorem dX9_turnOpenOnes_12 : decode cX9_turnOpenOnes 12 = .ok (.astore 4, 2) := by decide +kernel
theorem dX9_turnOpenOnes_14 : decode cX9_turnOpenOnes 14 = .ok (.aload 4, 2) := by decide +kernel
theorem dX9_turnOpenOnes_16 : decode cX9_turnOpenOnes 16 = .ok (.ifnull 9, 3) := by decide +kernel
theorem dX9_turnOpenOnes_19 : decode cX9_turnOpenOnes 19 = .ok (.aload 4, 2) := by decide +kernel
theorem dX9_turnOpenOnes_21 : decode cX9_turnOpenOnes 21 = .ok (.iload_n 2, 1) := by decide +kernel
theorem dX9_turnOpenOnes_22 : decode cX9_turnOpenOnes 22 = .ok (.putfield 40, 3) := by decide +kernel
theorem dX9_turnOpenOnes_25 : decode cX9_turnOpenOnes 25 = .ok (.iinc 3 1, 3) := by decide +kernel
theorem dX9_turnOpenOnes_28 : decode cX9_turnOpenOnes 28 = .ok (.goto (-26), 3) := by decide +kernel
theorem dX9_turnOpenOnes_31 : decode cX9_turnOpenOnes 31 = .ok (.return_, 1) := by decide +kernel
theorem dX10_init_0 : decode cX10_init 0 = .ok (.aload_n 0, 1) := by decide +kernel
theorem dX10_init_1 : decode cX10_init 1 = .ok (.invokespecial 3, 3) := by decide +kernel
theorem dX10_init_4 : decode cX10_init 4 = .ok (.aload_n 0, 1) := by decide +kernel
theorem dX10_init_5 : decode cX10_init 5 = .ok (.bipush 9, 2) := by decide +kernel
theorem dX10_init_7 : decode cX10_init 7 = .ok (.newarray .int, 2) := by decide +kernel
theorem dX10_init_9 : decode cX10_init 9 = .ok (.putfield 9, 3) := by decide +kernel
theorem dX10_init_12 : decode cX10_init 12 = .ok (.aload_n 0, 1) := by decide +kernel
theorem dX10_init_13 : decode cX10_init 13 = .ok (.bipush 9, 2) := by decide +kernel
theorem dX10_init_15 : decode cX10_init 15 = .ok (.newarray .int, 2) := by decide +kernel
theorem dX10_init_17 : decode cX10_init 17 = .ok (.putfield 15, 3) := by decide +kernel
theorem dX10_init_20 : decode cX10_init 20 = .ok (.aload_n 0, 1) := by decide +kernel
theorem dX10_init_21 : decode cX10_init 21 = .ok (.bipush 81, 2) := by decide +kernel
theorem dX10_init_23 : decode cX10_init 23 = .ok (.newarray .int, 2) := by decide +kernel
theorem dX10_init_25 : decode cX10_init 25 = .ok (.putfield 18, 3) := by decide +kernel
theorem dX10_init_28 : decode cX10_init 28 = .ok (.aload_n 0, 1) := by decide +kernel
theorem dX10_init_29 : decode cX10_init 29 = .ok (.iconst (-1), 1) := by decide +kernel
theorem dX10_init_30 : decode cX10_init 30 = .ok (.putfield 21, 3) := by decide +kernel
theorem dX10_init_33 : decode cX10_init 33 = .ok (.aload_n 0, 1) := by decide +kernel
theorem dX10_init_34 : decode cX10_init 34 = .ok (.iconst (-1), 1) := by decide +kernel
theorem dX10_init_35 : decode cX10_init 35 = .ok (.putfield 25, 3) := by decide +kernel
theorem dX10_init_38 : decode cX10_init 38 = .ok (.return_, 1) := by decide +kernel
theorem dX10_findLeast_0 : decode cX10_findLeast 0 = .ok (.aload_n 0, 1) := by decide +kernel
theorem dX10_findLeast_1 : decode cX10_findLeast 1 = .ok (.iconst (-1), 1) := by decide +kernel
theorem dX10_findLeast_2 : decode cX10_findLeast 2 = .ok (.putfield 21, 3) := by decide +kernel
theorem dX10_findLeast_5 : decode cX10_findLeast 5 = .ok (.aload_n 0, 1) := by decide +kernel
theorem dX10_findLeast_6 : decode cX10_findLeast 6 = .ok (.iconst (-1), 1) := by decide +kernel
theorem dX10_findLeast_7 : decode cX10_findLeast 7 = .ok (.putfield 25, 3) := by decide +kernel
theorem dX10_findLeast_10 : decode cX10_findLeast 10 = .ok (.aload_n 1, 1) := by decide +kernel
theorem dX10_findLeast_11 : decode cX10_findLeast 11 = .ok (.getfield 28, 3) := by decide +kernel
theorem dX10_findLeast_14 : decode cX10_findLeast 14 = .ok (.iconst 1, 1) := by decide +kernel
theorem dX10_findLeast_15 : decode cX10_findLeast 15 = .ok (.if_icmp .lt 12, 3) := by decide +kernel
theorem dX10_findLeast_18 : decode cX10_findLeast 18 = .ok (.aload_n 1, 1) := by decide +kernel
theorem dX10_findLeast_19 : decode cX10_findLeast 19 = .ok (.getfield 28, 3) := by decide +kernel
theorem dX10_findLeast_22 : decode cX10_findLeast 22 = .ok (.bipush 9, 2) := by decide +kernel
theorem dX10_findLeast_24 : decode cX10_findLeast 24 = .ok (.if_icmp .lt 4, 3) := by decide +kernel
theorem dX10_findLeast_27 : decode cX10_findLeast 27 = .ok (.return_, 1) := by decide +kernel
theorem dX10_findLeast_28 : decode cX10_findLeast 28 = .ok (.aload_n 0, 1) := by decide +kernel
theorem dX10_findLeast_29 : decode cX10_findLeast 29 = .ok (.getfield 9, 3) := by decide +kernel
theorem dX10_findLeast_32 : decode cX10_findLeast 32 = .ok (.iconst 0, 1) := by decide +kernel
theorem dX10_findLeast_33 : decode cX10_findLeast 33 = .ok (.iconst 0, 1) := by decide +kernel
theorem dX10_findLeast_34 : decode cX10_findLeast 34 = .ok (.iastore, 1) := by decide +kernel
theorem dX10_findLeast_35 : decode cX10_findLeast 35 = .ok (.aload_n 0, 1) := by decide +kernel
theorem dX10_findLeast_36 : decode cX10_findLeast 36 = .ok (.getfield 15, 3) := by decide +kernel
theorem dX10_findLeast_39 : decode cX10_findLeast 39 = .ok (.iconst 0, 1) := by decide +kernel
theorem dX10_findLeast_40 : decode cX10_findLeast 40 = .ok (.iconst 0, 1) := by decide +kernel
theorem dX10_findLeast_41 : decode cX10_findLeast 41 = .ok (.iastore, 1) := by decide +kernel
theorem dX10_findLeast_42 : decode cX10_findLeast 42 = .ok (.iconst 1, 1) := by decide +kernel
theorem dX10_findLeast_43 : decode cX10_findLeast 43 = .ok (.istore_n 3, 1) := by decide +kernel
theorem dX10_findLeast_44 : decode cX10_findLeast 44 = .ok (.iload_n 3, 1) := by decide +kernel
theorem dX10_findLeast_45 : decode cX10_findLeast 45 = .ok (.aload_n 1, 1) := by decide +kernel
theorem dX10_findLeast_46 : decode cX10_findLeast 46 = .ok (.getfield 28, 3) := by decide +kernel
theorem dX10_findLeast_49 : decode cX10_findLeast 49 = .ok (.if_icmp .gt 53, 3) := by decide +kernel
theorem dX10_findLeast_52 : decode cX10_findLeast 52 = .ok (.aload_n 0, 1) := by decide +kernel
theorem dX10_findLeast_53 : decode cX10_findLeast 53 = .ok (.getfield 9, 3) := by decide +kernel
theorem dX10_findLeast_56 : decode cX10_findLeast 56 = .ok (.iload_n 3, 1) := by decide +kernel
theorem dX10_findLeast_57 : decode cX10_findLeast 57 = .ok (.iconst (-1), 1) := by decide +kernel
theorem dX10_findLeast_58 : decode cX10_findLeast 58 = .ok (.iastore, 1) := by decide +kernel
theorem dX10_findLeast_59 : decode cX10_findLeast 59 = .ok (.aload_n 0, 1) := by decide +kernel
theorem dX10_findLeast_60 : decode cX10_findLeast 60 = .ok (.getfield 15, 3) := by decide +kernel
theorem dX10_findLeast_63 : decode cX10_findLeast 63 = .ok (.iload_n 3, 1) := by decide +kernel
theorem dX10_findLeast_64 : decode cX10_findLeast 64 = .ok (.iconst (-1), 1) := by decide +kernel
theorem dX10_findLeast_65 : decode cX10_findLeast 65 = .ok (.iastore, 1) := by decide +kernel
theorem dX10_findLeast_66 : decode cX10_findLeast 66 = .ok (.iconst 0, 1) := by decide +kernel
theorem dX10_findLeast_67 : decode cX10_findLeast 67 = .ok (.istore 4, 2) := by decide +kernel
theorem dX10_findLeast_69 : decode cX10_findLeast 69 = .ok (.iload 4, 2) := by decide +kernel
theorem dX10_findLeast_71 : decode cX10_findLeast 71 = .ok (.iload_n 3, 1) := by decide +kernel
theorem dX10_findLeast_72 : decode cX10_findLeast 72 = .ok (.if_icmp .ge 24, 3) := by decide +kernel
theorem dX10_findLeast_75 : decode cX10_findLeast 75 = .ok (.aload_n 0, 1) := by decide +kernel
theorem dX10_findLeast_76 : decode cX10_findLeast 76 = .ok (.iload 4, 2) := by decide +kernel
theorem dX10_findLeast_78 : decode cX10_findLeast 78 = .ok (.iload_n 3, 1) := by decide +kernel
theorem dX10_findLeast_79 : decode cX10_findLeast 79 = .ok (.aload_n 1, 1) := by decide +kernel
theorem dX10_findLeast_80 : decode cX10_findLeast 80 = .ok (.aload_n 2, 1) := by decide +kernel
theorem dX10_findLeast_81 : decode cX10_findLeast 81 = .ok (.iload 4, 2) := by decide +kernel
theorem dX10_findLeast_83 : decode cX10_findLeast 83 = .ok (.iload_n 3, 1) := by decide +kernel
theorem dX10_findLeast_84 : decode cX10_findLeast 84 = .ok (.invokevirtual 33, 3) := by decide +kernel
theorem dX10_findLeast_87 : decode cX10_findLeast 87 = .ok (.invokevirtual 37, 3) := by decide +kernel
theorem dX10_findLeast_90 : decode cX10_findLeast 90 = .ok (.iinc 4 1, 3) := by decide +kernel
theorem dX10_findLeast_93 : decode cX10_findLeast 93 = .ok (.goto (-24), 3) := by decide +kernel
theorem dX10_findLeast_96 : decode cX10_findLeast 96 = .ok (.iinc 3 1, 3) := by decide +kernel
theorem dX10_findLeast_99 : decode cX10_findLeast 99 = .ok (.goto (-55), 3) := by decide +kernel
theorem dX10_findLeast_102 : decode cX10_findLeast 102 = .ok (.aload_n 0, 1) := by decide +kernel
theorem dX10_findLeast_103 : decode cX10_findLeast 103 = .ok (.aload_n 0, 1) := by decide +kernel
theorem dX10_findLeast_104 : decode cX10_findLeast 104 = .ok (.getfield 9, 3) := by decide +kernel
theorem dX10_findLeast_107 : decode cX10_findLeast 107 = .ok (.aload_n 1, 1) := by decide +kernel
theorem dX10_findLeast_108 : decode cX10_findLeast 108 = .ok (.getfield 28, 3) := by decide +kernel
theorem dX10_findLeast_111 : decode cX10_findLeast 111 = .ok (.iaload, 1) := by decide +kernel
theorem dX10_findLeast_112 : decode cX10_findLeast 112 = .ok (.putfield 21, 3) := by decide +kernel
theorem dX10_findLeast_115 : decode cX10_findLeast 115 = .ok (.aload_n 0, 1) := by decide +kernel
theorem dX10_findLeast_116 : decode cX10_findLeast 116 = .ok (.aload_n 0, 1) := by decide +kernel
theorem dX10_findLeast_117 : decode cX10_findLeast 117 = .ok (.getfield 15, 3) := by decide +kernel
theorem dX10_findLeast_120 : decode cX10_findLeast 120 = .ok (.aload_n 1, 1) := by decide +kernel
theorem dX10_findLeast_121 : decode cX10_findLeast 121 = .ok (.getfield 28, 3) := by decide +kernel
theorem dX10_findLeast_124 : decode cX10_findLeast 124 = .ok (.iaload, 1) := by decide +kernel
theorem dX10_findLeast_125 : decode cX10_findLeast 125 = .ok (.putfield 25, 3) := by decide +kernel
theorem dX10_findLeast_128 : decode cX10_findLeast 128 = .ok (.return_, 1) := by decide +kernel
theorem dX10_goOn_0 : decode cX10_goOn 0 = .ok (.iload_n 1, 1) := by decide +kernel
theorem dX10_goOn_1 : decode cX10_goOn 1 = .ok (.iconst 0, 1) := by decide +kernel
theorem dX10_goOn_2 : decode cX10_goOn 2 = .ok (.bipush 8, 2) := by decide +kernel
theorem dX10_goOn_4 : decode cX10_goOn 4 = .ok (.invokestatic 41, 3) := by decide +kernel
theorem dX10_goOn_7 : decode cX10_goOn 7 = .ok (.ifCond .eq 13, 3) := by decide +kernel
theorem dX10_goOn_10 : decode cX10_goOn 10 = .ok (.iload_n 2, 1) := by decide +kernel
theorem dX10_goOn_11 : decode cX10_goOn 11 = .ok (.iconst 0, 1) := by decide +kernel
theorem dX10_goOn_12 : decode cX10_goOn 12 = .ok (.bipush 8, 2) := by decide +kernel
theorem dX10_goOn_14 : decode cX10_goOn 14 = .ok (.invokestatic 41, 3) := by decide +kernel
theorem dX10_goOn_17 : decode cX10_goOn 17 = .ok (.ifCond .ne 4, 3) := by decide +kernel
theorem dX10_goOn_20 : decode cX10_goOn 20 = .ok (.return_, 1) := by decide +kernel
theorem dX10_goOn_21 : decode cX10_goOn 21 = .ok (.iload_n 3, 1) := by decide +kernel
theorem dX10_goOn_22 : decode cX10_goOn 22 = .ok (.ifCond .lt 13, 3) := by decide +kernel
theorem dX10_goOn_25 : decode cX10_goOn 25 = .ok (.aload_n 0, 1) := by decide +kernel
theorem dX10_goOn_26 : decode cX10_goOn 26 = .ok (.getfield 9, 3) := by decide +kernel
theorem dX10_goOn_29 : decode cX10_goOn 29 = .ok (.iload_n 1, 1) := by decide +kernel
theorem dX10_goOn_30 : decode cX10_goOn 30 = .ok (.iaload, 1) := by decide +kernel
theorem dX10_goOn_31 : decode cX10_goOn 31 = .ok (.iconst (-1), 1) := by decide +kernel
theorem dX10_goOn_32 : decode cX10_goOn 32 = .ok (.if_icmp .ne 4, 3) := by decide +kernel
theorem dX10_goOn_35 : decode cX10_goOn 35 = .ok (.return_, 1) := by decide +kernel
theorem dX10_goOn_36 : decode cX10_goOn 36 = .ok (.aload_n 0, 1) := by decide +kernel
theorem dX10_goOn_37 : decode cX10_goOn 37 = .ok (.getfield 9, 3) := by decide +kernel
theorem dX10_goOn_40 : decode cX10_goOn 40 = .ok (.iload_n 1, 1) := by decide +kernel
theorem dX10_goOn_41 : decode cX10_goOn 41 = .ok (.iaload, 1) := by decide +kernel
theorem dX10_goOn_42 : decode cX10_goOn 42 = .ok (.iload_n 3, 1) := by decide +kernel
theorem dX10_goOn_43 : decode cX10_goOn 43 = .ok (.iadd, 1) := by decide +kernel
theorem dX10_goOn_44 : decode cX10_goOn 44 = .ok (.istore 4, 2) := by decide +kernel
theorem dX10_goOn_46 : decode cX10_goOn 46 = .ok (.aload_n 0, 1) := by decide +kernel
theorem dX10_goOn_47 : decode cX10_goOn 47 = .ok (.getfield 9, 3) := by decide +kernel
theorem dX10_goOn_50 : decode cX10_goOn 50 = .ok (.iload_n 2, 1) := by decide +kernel
theorem dX10_goOn_51 : decode cX10_goOn 51 = .ok (.iaload, 1) := by decide +kernel
theorem dX10_goOn_52 : decode cX10_goOn 52 = .ok (.iconst (-1), 1) := by decide +kernel
theorem dX10_goOn_53 : decode cX10_goOn 53 = .ok (.if_icmp .eq 14, 3) := by decide +kernel
theorem dX10_goOn_56 : decode cX10_goOn 56 = .ok (.iload 4, 2) := by decide +kernel
theorem dX10_goOn_58 : decode cX10_goOn 58 = .ok (.aload_n 0, 1) := by decide +kernel
theorem dX10_goOn_59 : decode cX10_goOn 59 = .ok (.getfield 9, 3) := by decide +kernel
theorem dX10_goOn_62 : decode cX10_goOn 62 = .ok (.iload_n 2, 1) := by decide +kernel
theorem dX10_goOn_63 : decode cX10_goOn 63 = .ok (.iaload, 1) := by decide +kernel
theorem dX10_goOn_64 : decode cX10_goOn 64 = .ok (.if_icmp .ge 35, 3) := by decide +kernel
theorem dX10_goOn_67 : decode cX10_goOn 67 = .ok (.aload_n 0, 1) := by decide +kernel
theorem dX10_goOn_68 : decode cX10_goOn 68 = .ok (.getfield 9, 3) := by decide +kernel
theorem dX10_goOn_71 : decode cX10_goOn 71 = .ok (.iload_n 2, 1) := by decide +kernel
theorem dX10_goOn_72 : decode cX10_goOn 72 = .ok (.iload 4, 2) := by decide +kernel
theorem dX10_goOn_74 : decode cX10_goOn 74 = .ok (.iastore, 1) := by decide +kernel
theorem dX10_goOn_75 : decode cX10_goOn 75 = .ok (.aload_n 0, 1) := by decide +kernel
theorem dX10_goOn_76 : decode cX10_goOn 76 = .ok (.getfield 15, 3) := by decide +kernel
theorem dX10_goOn_79 : decode cX10_goOn 79 = .ok (.iload_n 2, 1) := by decide +kernel
theorem dX10_goOn_80 : decode cX10_goOn 80 = .ok (.iload_n 1, 1) := by decide +kernel
theorem dX10_goOn_81 : decode cX10_goOn 81 = .ok (.ifCond .ne 7, 3) := by decide +kernel
theorem dX10_goOn_84 : decode cX10_goOn 84 = .ok (.iconst 0, 1) := by decide +kernel
theorem dX10_goOn_85 : decode cX10_goOn 85 = .ok (.goto 13, 3) := by decide +kernel
theorem dX10_goOn_88 : decode cX10_goOn 88 = .ok (.aload_n 0, 1) := by decide +kernel
theorem dX10_goOn_89 : decode cX10_goOn 89 = .ok (.getfield 15, 3) := by decide +kernel
theorem dX10_goOn_92 : decode cX10_goOn 92 = .ok (.iload_n 1, 1) := by decide +kernel
theorem dX10_goOn_93 : decode cX10_goOn 93 = .ok (.iaload, 1) := by decide +kernel
theorem dX10_goOn_94 : decode cX10_goOn 94 = .ok (.iconst 1, 1) := by decide +kernel
theorem dX10_goOn_95 : decode cX10_goOn 95 = .ok (.iload_n 1, 1) := by decide +kernel
theorem dX10_goOn_96 : decode cX10_goOn 96 = .ok (.ishl, 1) := by decide +kernel
theorem dX10_goOn_97 : decode cX10_goOn 97 = .ok (.ior, 1) := by decide +kernel
theorem dX10_goOn_98 : decode cX10_goOn 98 = .ok (.iastore, 1) := by decide +kernel
theorem dX10_goOn_99 : decode cX10_goOn 99 = .ok (.return_, 1) := by decide +kernel
theorem dX10_leastOfAllSets_0 : decode cX10_leastOfAllSets 0 = .ok (.aload_n 1, 1) := by decide +kernel
theorem dX10_leastOfAllSets_1 : decode cX10_leastOfAllSets 1 = .ok (.getfield 28, 3) := by decide +kernel
theorem dX10_leastOfAllSets_4 : decode cX10_leastOfAllSets 4 = .ok (.istore_n 3, 1) := by decide +kernel
theorem dX10_leastOfAllSets_5 : decode cX10_leastOfAllSets 5 = .ok (.iload_n 3, 1) := by decide +kernel
theorem dX10_leastOfAllSets_6 : decode cX10_leastOfAllSets 6 = .ok (.iconst 1, 1) := by decide +kernel
theorem dX10_leastOfAllSets_7 : decode cX10_leastOfAllSets 7 = .ok (.if_icmp .lt 9, 3) := by decide +kernel
theorem dX10_leastOfAllSets_10 : decode cX10_leastOfAllSets 10 = .ok (.iload_n 3, 1) := by decide +kernel
theorem dX10_leastOfAllSets_11 : decode cX10_leastOfAllSets 11 = .ok (.bipush 9, 2) := by decide +kernel
theorem dX10_leastOfAllSets_13 : decode cX10_leastOfAllSets 13 = .ok (.if_icmp .lt 5, 3) := by decide +kernel
theorem dX10_leastOfAllSets_16 : decode cX10_leastOfAllSets 16 = .ok (.iconst (-1), 1) := by decide +kernel
theorem dX10_leastOfAllSets_17 : decode cX10_leastOfAllSets 17 = .ok (.ireturn, 1) := by decide +kernel
theorem dX10_leastOfAllSets_18 : decode cX10_leastOfAllSets 18 = .ok (.iconst 0, 1) := by decide +kernel
theorem dX10_leastOfAllSets_19 : decode cX10_leastOfAllSets 19 = .ok (.istore 4, 2) := by decide +kernel
theorem dX10_leastOfAllSets_21 : decode cX10_leastOfAllSets 21 = .ok (.iload 4, 2) := by decide +kernel
theorem dX10_leastOfAllSets_23 : decode cX10_leastOfAllSets 23 = .ok (.iload_n 3, 1) := by decide +kernel
theorem dX10_leastOfAllSets_24 : decode cX10_leastOfAllSets 24 = .ok (.if_icmp .ge 49, 3) := by decide +kernel
theorem dX10_leastOfAllSets_27 : decode cX10_leastOfAllSets 27 = .ok (.iload 4, 2) := by decide +kernel
theorem dX10_leastOfAllSets_29 : decode cX10_leastOfAllSets 29 = .ok (.iconst 1, 1) := by decide +kernel
theorem dX10_leastOfAllSets_30 : decode cX10_leastOfAllSets 30 = .ok (.iadd, 1) := by decide +kernel
theorem dX10_leastOfAllSets_31 : decode cX10_leastOfAllSets 31 = .ok (.istore 5, 2) := by decide +kernel
theorem dX10_leastOfAllSets_33 : decode cX10_leastOfAllSets 33 = .ok (.iload 5, 2) := by decide +kernel
theorem dX10_leastOfAllSets_35 : decode cX10_leastOfAllSets 35 = .ok (.iload_n 3, 1) := by decide +kernel
theorem dX10_leastOfAllSets_36 : decode cX10_leastOfAllSets 36 = .ok (.if_icmp .gt 31, 3) := by decide +kernel
theorem dX10_leastOfAllSets_39 : decode cX10_leastOfAllSets 39 = .ok (.aload_n 0, 1) := by decide +kernel
theorem dX10_leastOfAllSets_40 : decode cX10_leastOfAllSets 40 = .ok (.getfield 18, 3) := by decide +kernel
theorem dX10_leastOfAllSets_43 : decode cX10_leastOfAllSets 43 = .ok (.iload 4, 2) := by decide +kernel
theorem dX10_leastOfAllSets_45 : decode cX10_leastOfAllSets 45 = .ok (.bipush 9, 2) := by decide +kernel
theorem dX10_leastOfAllSets_47 : decode cX10_leastOfAllSets 47 = .ok (.imul, 1) := by decide +kernel
theorem dX10_leastOfAllSets_48 : decode cX10_leastOfAllSets 48 = .ok (.iload 5, 2) := by decide +kernel
theorem dX10_leastOfAllSets_50 : decode cX10_leastOfAllSets 50 = .ok (.iadd, 1) := by decide +kernel
theorem dX10_leastOfAllSets_51 : decode cX10_leastOfAllSets 51 = .ok (.aload_n 1, 1) := by decide +kernel
theorem dX10_leastOfAllSets_52 : decode cX10_leastOfAllSets 52 = .ok (.aload_n 2, 1) := by decide +kernel
theorem dX10_leastOfAllSets_53 : decode cX10_leastOfAllSets 53 = .ok (.iload 4, 2) := by decide +kernel
theorem dX10_leastOfAllSets_55 : decode cX10_leastOfAllSets 55 = .ok (.iload 5, 2) := by decide +kernel
theorem dX10_leastOfAllSets_57 : decode cX10_leastOfAllSets 57 = .ok (.invokevirtual 33, 3) := by decide +kernel
theorem dX10_leastOfAllSets_60 : decode cX10_leastOfAllSets 60 = .ok (.iastore, 1) := by decide +kernel
theorem dX10_leastOfAllSets_61 : decode cX10_leastOfAllSets 61 = .ok (.iinc 5 1, 3) := by decide +kernel
theorem dX10_leastOfAllSets_64 : decode cX10_leastOfAllSets 64 = .ok (.goto (-31), 3) := by decide +kernel
theorem dX10_leastOfAllSets_67 : decode cX10_leastOfAllSets 67 = .ok (.iinc 4 1, 3) := by decide +kernel
theorem dX10_leastOfAllSets_70 : decode cX10_leastOfAllSets 70 = .ok (.goto (-49), 3) := by decide +kernel
theorem dX10_leastOfAllSets_73 : decode cX10_leastOfAllSets 73 = .ok (.iconst (-1), 1) := by decide +kernel
theorem dX10_leastOfAllSets_74 : decode cX10_leastOfAllSets 74 = .ok (.istore 4, 2) := by decide +kernel
theorem dX10_leastOfAllSets_76 : decode cX10_leastOfAllSets 76 = .ok (.iconst 0, 1) := by decide +kernel
theorem dX10_leastOfAllSets_77 : decode cX10_leastOfAllSets 77 = .ok (.istore 5, 2) := by decide +kernel
theorem dX10_leastOfAllSets_79 : decode cX10_leastOfAllSets 79 = .ok (.iload 5, 2) := by decide +kernel
theorem dX10_leastOfAllSets_81 : decode cX10_leastOfAllSets 81 = .ok (.iconst 1, 1) := by decide +kernel
theorem dX10_leastOfAllSets_82 : decode cX10_leastOfAllSets 82 = .ok (.iload_n 3, 1) := by decide +kernel
theorem dX10_leastOfAllSets_83 : decode cX10_leastOfAllSets 83 = .ok (.ishl, 1) := by decide +kernel
theorem dX10_leastOfAllSets_84 : decode cX10_leastOfAllSets 84 = .ok (.if_icmp .ge 41, 3) := by decide +kernel
theorem dX10_leastOfAllSets_87 : decode cX10_leastOfAllSets 87 = .ok (.aload_n 0, 1) := by decide +kernel
theorem dX10_leastOfAllSets_88 : decode cX10_leastOfAllSets 88 = .ok (.iload 5, 2) := by decide +kernel
theorem dX10_leastOfAllSets_90 : decode cX10_leastOfAllSets 90 = .ok (.iload_n 3, 1) := by decide +kernel
theorem dX10_leastOfAllSets_91 : decode cX10_leastOfAllSets 91 = .ok (.invokevirtual 45, 3) := by decide +kernel
theorem dX10_leastOfAllSets_94 : decode cX10_leastOfAllSets 94 = .ok (.istore 6, 2) := by decide +kernel
theorem dX10_leastOfAllSets_96 : decode cX10_leastOfAllSets 96 = .ok (.iload 6, 2) := by decide +kernel
theorem dX10_leastOfAllSets_98 : decode cX10_leastOfAllSets 98 = .ok (.iconst (-1), 1) := by decide +kernel
theorem dX10_leastOfAllSets_99 : decode cX10_leastOfAllSets 99 = .ok (.if_icmp .eq 20, 3) := by decide +kernel
theorem dX10_leastOfAllSets_102 : decode cX10_leastOfAllSets 102 = .ok (.iload 4, 2) := by decide +kernel
theorem dX10_leastOfAllSets_104 : decode cX10_leastOfAllSets 104 = .ok (.iconst (-1), 1) := by decide +kernel
theorem dX10_leastOfAllSets_105 : decode cX10_leastOfAllSets 105 = .ok (.if_icmp .eq 10, 3) := by decide +kernel
theorem dX10_leastOfAllSets_108 : decode cX10_leastOfAllSets 108 = .ok (.iload 6, 2) := by decide +kernel
theorem dX10_leastOfAllSets_110 : decode cX10_leastOfAllSets 110 = .ok (.iload 4, 2) := by decide +kernel
theorem dX10_leastOfAllSets_112 : decode cX10_leastOfAllSets 112 = .ok (.if_icmp .ge 7, 3) := by decide +kernel
theorem dX10_leastOfAllSets_115 : decode cX10_leastOfAllSets 115 = .ok (.iload 6, 2) := by decide +kernel
theorem dX10_leastOfAllSets_117 : decode cX10_leastOfAllSets 117 = .ok (.istore 4, 2) := by decide +kernel
theorem dX10_leastOfAllSets_119 : decode cX10_leastOfAllSets 119 = .ok (.iinc 5 2, 3) := by decide +kernel
theorem dX10_leastOfAllSets_122 : decode cX10_leastOfAllSets 122 = .ok (.goto (-43), 3) := by decide +kernel
theorem dX10_leastOfAllSets_125 : decode cX10_leastOfAllSets 125 = .ok (.iload 4, 2) := by decide +kernel
theorem dX10_leastOfAllSets_127 : decode cX10_leastOfAllSets 127 = .ok (.ireturn, 1) := by decide +kernel
theorem dX10_sumOfSet_0 : decode cX10_sumOfSet 0 = .ok (.iconst 0, 1) := by decide +kernel
theorem dX10_sumOfSet_1 : decode cX10_sumOfSet 1 = .ok (.istore_n 3, 1) := by decide +kernel
theorem dX10_sumOfSet_2 : decode cX10_sumOfSet 2 = .ok (.iconst 0, 1) := by decide +kernel
theorem dX10_sumOfSet_3 : decode cX10_sumOfSet 3 = .ok (.istore 4, 2) := by decide +kernel
theorem dX10_sumOfSet_5 : decode cX10_sumOfSet 5 = .ok (.iconst 1, 1) := by decide +kernel
theorem dX10_sumOfSet_6 : decode cX10_sumOfSet 6 = .ok (.istore 5, 2) := by decide +kernel
theorem dX10_sumOfSet_8 : decode cX10_sumOfSet 8 = .ok (.iload 5, 2) := by decide +kernel
theorem dX10_sumOfSet_10 : decode cX10_sumOfSet 10 = .ok (.iload_n 2, 1) := by decide +kernel
theorem dX10_sumOfSet_11 : decode cX10_sumOfSet 11 = .ok (.if_icmp .gt 74, 3) := by decide +kernel
theorem dX10_sumOfSet_14 : decode cX10_sumOfSet 14 = .ok (.iload 5, 2) := by decide +kernel
theorem dX10_sumOfSet_16 : decode cX10_sumOfSet 16 = .ok (.iload_n 2, 1) := by decide +kernel
theorem dX10_sumOfSet_17 : decode cX10_sumOfSet 17 = .ok (.if_icmp .eq 13, 3) := by decide +kernel
theorem dX10_sumOfSet_20 : decode cX10_sumOfSet 20 = .ok (.iload_n 1, 1) := by decide +kernel
theorem dX10_sumOfSet_21 : decode cX10_sumOfSet 21 = .ok (.iload 5, 2) := by decide +kernel
theorem dX10_sumOfSet_23 : decode cX10_sumOfSet 23 = .ok (.ishr, 1) := by decide +kernel
theorem dX10_sumOfSet_24 : decode cX10_sumOfSet 24 = .ok (.iconst 1, 1) := by decide +kernel
theorem dX10_sumOfSet_25 : decode cX10_sumOfSet 25 = .ok (.iand, 1) := by decide +kernel
theorem dX10_sumOfSet_26 : decode cX10_sumOfSet 26 = .ok (.iconst 1, 1) := by decide +kernel
theorem dX10_sumOfSet_27 : decode cX10_sumOfSet 27 = .ok (.if_icmp .ne 52, 3) := by decide +kernel
theorem dX10_sumOfSet_30 : decode cX10_sumOfSet 30 = .ok (.iload 4, 2) := by decide +kernel
theorem dX10_sumOfSet_32 : decode cX10_sumOfSet 32 = .ok (.bipush 9, 2) := by decide +kernel
theorem dX10_sumOfSet_34 : decode cX10_sumOfSet 34 = .ok (.imul, 1) := by decide +kernel
theorem dX10_sumOfSet_35 : decode cX10_sumOfSet 35 = .ok (.iload 5, 2) := by decide +kernel
theorem dX10_sumOfSet_37 : decode cX10_sumOfSet 37 = .ok (.iadd, 1) := by decide +kernel
theorem dX10_sumOfSet_38 : decode cX10_sumOfSet 38 = .ok (.istore 6, 2) := by decide +kernel
theorem dX10_sumOfSet_40 : decode cX10_sumOfSet 40 = .ok (.iload 6, 2) := by decide +kernel
theorem dX10_sumOfSet_42 : decode cX10_sumOfSet 42 = .ok (.aload_n 0, 1) := by decide +kernel
theorem dX10_sumOfSet_43 : decode cX10_sumOfSet 43 = .ok (.getfield 18, 3) := by decide +kernel
theorem dX10_sumOfSet_46 : decode cX10_sumOfSet 46 = .ok (.arraylength, 1) := by decide +kernel
theorem dX10_sumOfSet_47 : decode cX10_sumOfSet 47 = .ok (.if_icmp .ge 13, 3) := by decide +kernel
theorem dX10_sumOfSet_50 : decode cX10_sumOfSet 50 = .ok (.aload_n 0, 1) := by decide +kernel
theorem dX10_sumOfSet_51 : decode cX10_sumOfSet 51 = .ok (.getfield 18, 3) := by decide +kernel
theorem dX10_sumOfSet_54 : decode cX10_sumOfSet 54 = .ok (.iload 6, 2) := by decide +kernel
theorem dX10_sumOfSet_56 : decode cX10_sumOfSet 56 = .ok (.iaload, 1) := by decide +kernel
theorem dX10_sumOfSet_57 : decode cX10_sumOfSet 57 = .ok (.goto 4, 3) := by decide +kernel
theorem dX10_sumOfSet_60 : decode cX10_sumOfSet 60 = .ok (.iconst (-1), 1) := by decide +kernel
theorem dX10_sumOfSet_61 : decode cX10_sumOfSet 61 = .ok (.istore 7, 2) := by decide +kernel
theorem dX10_sumOfSet_63 : decode cX10_sumOfSet 63 = .ok (.iload 7, 2) := by decide +kernel
theorem dX10_sumOfSet_65 : decode cX10_sumOfSet 65 = .ok (.ifCond .ge 5, 3) := by decide +kernel
theorem dX10_sumOfSet_68 : decode cX10_sumOfSet 68 = .ok (.iconst (-1), 1) := by decide +kernel
theorem dX10_sumOfSet_69 : decode cX10_sumOfSet 69 = .ok (.ireturn, 1) := by decide +kernel
theorem dX10_sumOfSet_70 : decode cX10_sumOfSet 70 = .ok (.iload_n 3, 1) := by decide +kernel
theorem dX10_sumOfSet_71 : decode cX10_sumOfSet 71 = .ok (.iload 7, 2) := by decide +kernel
theorem dX10_sumOfSet_73 : decode cX10_sumOfSet 73 = .ok (.iadd, 1) := by decide +kernel
theorem dX10_sumOfSet_74 : decode cX10_sumOfSet 74 = .ok (.istore_n 3, 1) := by decide +kernel
theorem dX10_sumOfSet_75 : decode cX10_sumOfSet 75 = .ok (.iload 5, 2) := by decide +kernel
theorem dX10_sumOfSet_77 : decode cX10_sumOfSet 77 = .ok (.istore 4, 2) := by decide +kernel
theorem dX10_sumOfSet_79 : decode cX10_sumOfSet 79 = .ok (.iinc 5 1, 3) := by decide +kernel
theorem dX10_sumOfSet_82 : decode cX10_sumOfSet 82 = .ok (.goto (-74), 3) := by decide +kernel
theorem dX10_sumOfSet_85 : decode cX10_sumOfSet 85 = .ok (.iload_n 3, 1) := by decide +kernel
theorem dX10_sumOfSet_86 : decode cX10_sumOfSet 86 = .ok (.ireturn, 1) := by decide +kernel
theorem dX11_init_0 : decode cX11_init 0 = .ok (.aload_n 0, 1) := by decide +kernel
theorem dX11_init_1 : decode cX11_init 1 = .ok (.invokespecial 3, 3) := by decide +kernel
theorem dX11_init_4 : decode cX11_init 4 = .ok (.aload_n 0, 1) := by decide +kernel
theorem dX11_init_5 : decode cX11_init 5 = .ok (.new 9, 3) := by decide +kernel
theorem dX11_init_8 : decode cX11_init 8 = .ok (.dup, 1) := by decide +kernel
theorem dX11_init_9 : decode cX11_init 9 = .ok (.invokespecial 11, 3) := by decide +kernel
theorem dX11_init_12 : decode cX11_init 12 = .ok (.putfield 12, 3) := by decide +kernel
theorem dX11_init_15 : decode cX11_init 15 = .ok (.aload_n 0, 1) := by decide +kernel
theorem dX11_init_16 : decode cX11_init 16 = .ok (.new 16, 3) := by decide +kernel
theorem dX11_init_19 : decode cX11_init 19 = .ok (.dup, 1) := by decide +kernel
theorem dX11_init_20 : decode cX11_init 20 = .ok (.invokespecial 18, 3) := by decide +kernel
theorem dX11_init_23 : decode cX11_init 23 = .ok (.putfield 19, 3) := by decide +kernel
theorem dX11_init_26 : decode cX11_init 26 = .ok (.aload_n 0, 1) := by decide +kernel
theorem dX11_init_27 : decode cX11_init 27 = .ok (.new 23, 3) := by decide +kernel
theorem dX11_init_30 : decode cX11_init 30 = .ok (.dup, 1) := by decide +kernel
theorem dX11_init_31 : decode cX11_init 31 = .ok (.invokespecial 25, 3) := by decide +kernel
theorem dX11_init_34 : decode cX11_init 34 = .ok (.putfield 26, 3) := by decide +kernel
theorem dX11_init_37 : decode cX11_init 37 = .ok (.aload_n 0, 1) := by decide +kernel
theorem dX11_init_38 : decode cX11_init 38 = .ok (.new 30, 3) := by decide +kernel
theorem dX11_init_41 : decode cX11_init 41 = .ok (.dup, 1) := by decide +kernel
theorem dX11_init_42 : decode cX11_init 42 = .ok (.invokespecial 32, 3) := by decide +kernel
theorem dX11_init_45 : decode cX11_init 45 = .ok (.putfield 33, 3) := by decide +kernel
theorem dX11_init_48 : decode cX11_init 48 = .ok (.aload_n 0, 1) := by decide +kernel
theorem dX11_init_49 : decode cX11_init 49 = .ok (.new 37, 3) := by decide +kernel
theorem dX11_init_52 : decode cX11_init 52 = .ok (.dup, 1) := by decide +kernel
theorem dX11_init_53 : decode cX11_init 53 = .ok (.invokespecial 39, 3) := by decide +kernel
theorem dX11_init_56 : decode cX11_init 56 = .ok (.putfield 40, 3) := by decide +kernel
theorem dX11_init_59 : decode cX11_init 59 = .ok (.aload_n 0, 1) := by decide +kernel
theorem dX11_init_60 : decode cX11_init 60 = .ok (.bipush 30, 2) := by decide +kernel
theorem dX11_init_62 : decode cX11_init 62 = .ok (.anewarray 44, 3) := by decide +kernel
theorem dX11_init_65 : decode cX11_init 65 = .ok (.putfield 46, 3) := by decide +kernel
theorem dX11_init_68 : decode cX11_init 68 = .ok (.aload_n 0, 1) := by decide +kernel
theorem dX11_init_69 : decode cX11_init 69 = .ok (.iconst 5, 1) := by decide +kernel
theorem dX11_init_70 : decode cX11_init 70 = .ok (.newarray .long, 2) := by decide +kernel
theorem dX11_init_72 : decode cX11_init 72 = .ok (.putfield 50, 3) := by decide +kernel
theorem dX11_init_75 : decode cX11_init 75 = .ok (.aload_n 0, 1) := by decide +kernel
theorem dX11_init_76 : decode cX11_init 76 = .ok (.bipush 10, 2) := by decide +kernel
theorem dX11_init_78 : decode cX11_init 78 = .ok (.newarray .long, 2) := by decide +kernel
theorem dX11_init_80 : decode cX11_init 80 = .ok (.putfield 54, 3) := by decide +kernel
theorem dX11_init_83 : decode cX11_init 83 = .ok (.return_, 1) := by decide +kernel
theorem dX11_miles_0 : decode cX11_miles 0 = .ok (.iload_n 1, 1) := by decide +kernel
theorem dX11_miles_1 : decode cX11_miles 1 = .ok (.invokestatic 57, 3) := by decide +kernel
theorem dX11_miles_4 : decode cX11_miles 4 = .ok (.ifCond .eq 10, 3) := by decide +kernel
theorem dX11_miles_7 : decode cX11_miles 7 = .ok (.iload_n 2, 1) := by decide +kernel
theorem dX11_miles_8 : decode cX11_miles 8 = .ok (.invokestatic 57, 3) := by decide +kernel
theorem dX11_miles_11 : decode cX11_miles 11 = .ok (.ifCond .ne 13, 3) := by decide +kernel
theorem dX11_miles_14 : decode cX11_miles 14 = .ok (.new 61, 3) := by decide +kernel
theorem dX11_miles_17 : decode cX11_miles 17 = .ok (.dup, 1) := by decide +kernel
theorem dX11_miles_18 : decode cX11_miles 18 = .ok (.ldc 63, 2) := by decide +kernel
theorem dX11_miles_20 : decode cX11_miles 20 = .ok (.invokespecial 65, 3) := by decide +kernel
theorem dX11_miles_23 : decode cX11_miles 23 = .ok (.athrow, 1) := by decide +kernel
theorem dX11_miles_24 : decode cX11_miles 24 = .ok (.iload_n 1, 1) := by decide +kernel
theorem dX11_miles_25 : decode cX11_miles 25 = .ok (.iload_n 2, 1) := by decide +kernel
theorem dX11_miles_26 : decode cX11_miles 26 = .ok (.if_icmp .eq 14, 3) := by decide +kernel
theorem dX11_miles_29 : decode cX11_miles 29 = .ok (.iload_n 3, 1) := by decide +kernel
theorem dX11_miles_30 : decode cX11_miles 30 = .ok (.iconst 1, 1) := by decide +kernel
theorem dX11_miles_31 : decode cX11_miles 31 = .ok (.sipush 9999, 3) := by decide +kernel
theorem dX11_miles_34 : decode cX11_miles 34 = .ok (.invokestatic 68, 3) := by decide +kernel
theorem dX11_miles_37 : decode cX11_miles 37 = .ok (.ifCond .ne 13, 3) := by decide +kernel
theorem dX11_miles_40 : decode cX11_miles 40 = .ok (.new 72, 3) := by decide +kernel
theorem dX11_miles_43 : decode cX11_miles 43 = .ok (.dup, 1) := by decide +kernel
theorem dX11_miles_44 : decode cX11_miles 44 = .ok (.ldc 74, 2) := by decide +kernel
theorem dX11_miles_46 : decode cX11_miles 46 = .ok (.invokespecial 76, 3) := by decide +kernel
theorem dX11_miles_49 : decode cX11_miles 49 = .ok (.athrow, 1) := by decide +kernel
theorem dX11_miles_50 : decode cX11_miles 50 = .ok (.aload_n 0, 1) := by decide +kernel
theorem dX11_miles_51 : decode cX11_miles 51 = .ok (.getfield 12, 3) := by decide +kernel
theorem dX11_miles_54 : decode cX11_miles 54 = .ok (.getfield 77, 3) := by decide +kernel
theorem dX11_miles_57 : decode cX11_miles 57 = .ok (.iload_n 1, 1) := by decide +kernel
theorem dX11_miles_58 : decode cX11_miles 58 = .ok (.iload_n 2, 1) := by decide +kernel
theorem dX11_miles_59 : decode cX11_miles 59 = .ok (.iload_n 3, 1) := by decide +kernel
theorem dX11_miles_60 : decode cX11_miles 60 = .ok (.invokevirtual 81, 3) := by decide +kernel
theorem dX11_miles_63 : decode cX11_miles 63 = .ok (.ireturn, 1) := by decide +kernel
theorem dX11_fare_0 : decode cX11_fare 0 = .ok (.iload_n 1, 1) := by decide +kernel
theorem dX11_fare_1 : decode cX11_fare 1 = .ok (.invokestatic 57, 3) := by decide +kernel
theorem dX11_fare_4 : decode cX11_fare 4 = .ok (.ifCond .eq 10, 3) := by decide +kernel
theorem dX11_fare_7 : decode cX11_fare 7 = .ok (.iload_n 2, 1) := by decide +kernel
theorem dX11_fare_8 : decode cX11_fare 8 = .ok (.invokestatic 57, 3) := by decide +kernel
theorem dX11_fare_11 : decode cX11_fare 11 = .ok (.ifCond .ne 13, 3) := by decide +kernel
theorem dX11_fare_14 : decode cX11_fare 14 = .ok (.new 61, 3) := by decide +kernel
theorem dX11_fare_17 : decode cX11_fare 17 = .ok (.dup, 1) := by decide +kernel
theorem dX11_fare_18 : decode cX11_fare 18 = .ok (.ldc 63, 2) := by decide +kernel
theorem dX11_fare_20 : decode cX11_fare 20 = .ok (.invokespecial 65, 3) := by decide +kernel
theorem dX11_fare_23 : decode cX11_fare 23 = .ok (.athrow, 1) := by decide +kernel
theorem dX11_fare_24 : decode cX11_fare 24 = .ok (.iload_n 1, 1) := by decide +kernel
theorem dX11_fare_25 : decode cX11_fare 25 = .ok (.iload_n 2, 1) := by decide +kernel
theorem dX11_fare_26 : decode cX11_fare 26 = .ok (.if_icmp .eq 49, 3) := by decide +kernel
theorem dX11_fare_29 : decode cX11_fare 29 = .ok (.iload_n 3, 1) := by decide +kernel
theorem dX11_fare_30 : decode cX11_fare 30 = .ok (.iconst 1, 1) := by decide +kernel
theorem dX11_fare_31 : decode cX11_fare 31 = .ok (.ldc 87, 2) := by decide +kernel
theorem dX11_fare_33 : decode cX11_fare 33 = .ok (.invokestatic 68, 3) := by decide +kernel
theorem dX11_fare_36 : decode cX11_fare 36 = .ok (.ifCond .eq 39, 3) := by decide +kernel
theorem dX11_fare_39 : decode cX11_fare 39 = .ok (.iload 4, 2) := by decide +kernel
theorem dX11_fare_41 : decode cX11_fare 41 = .ok (.iconst 0, 1) := by decide +kernel
theorem dX11_fare_42 : decode cX11_fare 42 = .ok (.sipush 999, 3) := by decide +kernel
theorem dX11_fare_45 : decode cX11_fare 45 = .ok (.invokestatic 68, 3) := by decide +kernel
theorem dX11_fare_48 : decode cX11_fare 48 = .ok (.ifCond .eq 27, 3) := by decide +kernel
theorem dX11_fare_51 : decode cX11_fare 51 = .ok (.iload 5, 2) := by decide +kernel
theorem dX11_fare_53 : decode cX11_fare 53 = .ok (.iload 4, 2) := by decide +kernel
theorem dX11_fare_55 : decode cX11_fare 55 = .ok (.sipush 999, 3) := by decide +kernel
theorem dX11_fare_58 : decode cX11_fare 58 = .ok (.invokestatic 68, 3) := by decide +kernel
theorem dX11_fare_61 : decode cX11_fare 61 = .ok (.ifCond .eq 14, 3) := by decide +kernel
theorem dX11_fare_64 : decode cX11_fare 64 = .ok (.iload 6, 2) := by decide +kernel
theorem dX11_fare_66 : decode cX11_fare 66 = .ok (.iconst 0, 1) := by decide +kernel
theorem dX11_fare_67 : decode cX11_fare 67 = .ok (.bipush 7, 2) := by decide +kernel
theorem dX11_fare_69 : decode cX11_fare 69 = .ok (.invokestatic 68, 3) := by decide +kernel
theorem dX11_fare_72 : decode cX11_fare 72 = .ok (.ifCond .ne 13, 3) := by decide +kernel
theorem dX11_fare_75 : decode cX11_fare 75 = .ok (.new 72, 3) := by decide +kernel
theorem dX11_fare_78 : decode cX11_fare 78 = .ok (.dup, 1) := by decide +kernel
theorem dX11_fare_79 : decode cX11_fare 79 = .ok (.ldc 88, 2) := by decide +kernel
theorem dX11_fare_81 : decode cX11_fare 81 = .ok (.invokespecial 76, 3) := by decide +kernel
theorem dX11_fare_84 : decode cX11_fare 84 = .ok (.athrow, 1) := by decide +kernel
theorem dX11_fare_85 : decode cX11_fare 85 = .ok (.aload_n 0, 1) := by decide +kernel
theorem dX11_fare_86 : decode cX11_fare 86 = .ok (.getfield 12, 3) := by decide +kernel
theorem dX11_fare_89 : decode cX11_fare 89 = .ok (.getfield 90, 3) := by decide +kernel
theorem dX11_fare_92 : decode cX11_fare 92 = .ok (.bipush 40, 2) := by decide +kernel
theorem dX11_fare_94 : decode cX11_fare 94 = .ok (.if_icmp .lt 13, 3) := by decide +kernel
theorem dX11_fare_97 : decode cX11_fare 97 = .ok (.new 94, 3) := by decide +kernel
theorem dX11_fare_100 : decode cX11_fare 100 = .ok (.dup, 1) := by decide +kernel
theorem dX11_fare_101 : decode cX11_fare 101 = .ok (.ldc 96, 2) := by decide +kernel
theorem dX11_fare_103 : decode cX11_fare 103 = .ok (.invokespecial 98, 3) := by decide +kernel
theorem dX11_fare_106 : decode cX11_fare 106 = .ok (.athrow, 1) := by decide +kernel
theorem dX11_fare_107 : decode cX11_fare 107 = .ok (.aload_n 0, 1) := by decide +kernel
theorem dX11_fare_108 : decode cX11_fare 108 = .ok (.getfield 12, 3) := by decide +kernel
theorem dX11_fare_111 : decode cX11_fare 111 = .ok (.new 99, 3) := by decide +kernel
theorem dX11_fare_114 : decode cX11_fare 114 = .ok (.dup, 1) := by decide +kernel
theorem dX11_fare_115 : decode cX11_fare 115 = .ok (.iload_n 1, 1) := by decide +kernel
theorem dX11_fare_116 : decode cX11_fare 116 = .ok (.iload_n 2, 1) := by decide +kernel
theorem dX11_fare_117 : decode cX11_fare 117 = .ok (.iload_n 3, 1) := by decide +kernel
theorem dX11_fare_118 : decode cX11_fare 118 = .ok (.iload 4, 2) := by decide +kernel
theorem dX11_fare_120 : decode cX11_fare 120 = .ok (.iload 5, 2) := by decide +kernel
theorem dX11_fare_122 : decode cX11_fare 122 = .ok (.iload 6, 2) := by decide +kernel
theorem dX11_fare_124 : decode cX11_fare 124 = .ok (.invokespecial 101, 3) := by decide +kernel
theorem dX11_fare_127 : decode cX11_fare 127 = .ok (.invokevirtual 104, 3) := by decide +kernel
theorem dX11_fare_130 : decode cX11_fare 130 = .ok (.ireturn, 1) := by decide +kernel
theorem dX11_withdraw_0 : decode cX11_withdraw 0 = .ok (.aload_n 0, 1) := by decide +kernel
theorem dX11_withdraw_1 : decode cX11_withdraw 1 = .ok (.getfield 12, 3) := by decide +kernel
theorem dX11_withdraw_4 : decode cX11_withdraw 4 = .ok (.iload_n 1, 1) := by decide +kernel
theorem dX11_withdraw_5 : decode cX11_withdraw 5 = .ok (.invokevirtual 108, 3) := by decide +kernel
theorem dX11_withdraw_8 : decode cX11_withdraw 8 = .ok (.astore_n 2, 1) := by decide +kernel
theorem dX11_withdraw_9 : decode cX11_withdraw 9 = .ok (.aload_n 2, 1) := by decide +kernel
theorem dX11_withdraw_10 : decode cX11_withdraw 10 = .ok (.ifnonnull 13, 3) := by decide +kernel
theorem dX11_withdraw_13 : decode cX11_withdraw 13 = .ok (.new 61, 3) := by decide +kernel
theorem dX11_withdraw_16 : decode cX11_withdraw 16 = .ok (.dup, 1) := by decide +kernel
theorem dX11_withdraw_17 : decode cX11_withdraw 17 = .ok (.ldc 112, 2) := by decide +kernel
theorem dX11_withdraw_19 : decode cX11_withdraw 19 = .ok (.invokespecial 65, 3) := by decide +kernel
theorem dX11_withdraw_22 : decode cX11_withdraw 22 = .ok (.athrow, 1) := by decide +kernel
theorem dX11_withdraw_23 : decode cX11_withdraw 23 = .ok (.aload_n 2, 1) := by decide +kernel
theorem dX11_withdraw_24 : decode cX11_withdraw 24 = .ok (.getfield 114, 3) := by decide +kernel
theorem dX11_withdraw_27 : decode cX11_withdraw 27 = .ok (.ifCond .eq 13, 3) := by decide +kernel
theorem dX11_withdraw_30 : decode cX11_withdraw 30 = .ok (.new 94, 3) := by decide +kernel
theorem dX11_withdraw_33 : decode cX11_withdraw 33 = .ok (.dup, 1) := by decide +kernel
theorem dX11_withdraw_34 : decode cX11_withdraw 34 = .ok (.ldc 118, 2) := by decide +kernel
theorem dX11_withdraw_36 : decode cX11_withdraw 36 = .ok (.invokespecial 98, 3) := by decide +kernel
theorem dX11_withdraw_39 : decode cX11_withdraw 39 = .ok (.athrow, 1) := by decide +kernel
theorem dX11_withdraw_40 : decode cX11_withdraw 40 = .ok (.aload_n 2, 1) := by decide +kernel
theorem dX11_withdraw_41 : decode cX11_withdraw 41 = .ok (.iconst 1, 1) := by decide +kernel
theorem dX11_withdraw_42 : decode cX11_withdraw 42 = .ok (.putfield 114, 3) := by decide +kernel
theorem dX11_withdraw_45 : decode cX11_withdraw 45 = .ok (.return_, 1) := by decide +kernel
theorem dX11_unit_0 : decode cX11_unit 0 = .ok (.iload_n 1, 1) := by decide +kernel
theorem dX11_unit_1 : decode cX11_unit 1 = .ok (.iconst 1, 1) := by decide +kernel
theorem dX11_unit_2 : decode cX11_unit 2 = .ok (.sipush 1000, 3) := by decide +kernel
theorem dX11_unit_5 : decode cX11_unit 5 = .ok (.invokestatic 68, 3) := by decide +kernel
theorem dX11_unit_8 : decode cX11_unit 8 = .ok (.ifCond .ne 13, 3) := by decide +kernel
theorem dX11_unit_11 : decode cX11_unit 11 = .ok (.new 72, 3) := by decide +kernel
theorem dX11_unit_14 : decode cX11_unit 14 = .ok (.dup, 1) := by decide +kernel
theorem dX11_unit_15 : decode cX11_unit 15 = .ok (.ldc 120, 2) := by decide +kernel
theorem dX11_unit_17 : decode cX11_unit 17 = .ok (.invokespecial 76, 3) := by decide +kernel
theorem dX11_unit_20 : decode cX11_unit 20 = .ok (.athrow, 1) := by decide +kernel
theorem dX11_unit_21 : decode cX11_unit 21 = .ok (.aload_n 0, 1) := by decide +kernel
theorem dX11_unit_22 : decode cX11_unit 22 = .ok (.getfield 12, 3) := by decide +kernel
theorem dX11_unit_25 : decode cX11_unit 25 = .ok (.getfield 122, 3) := by decide +kernel
theorem dX11_unit_28 : decode cX11_unit 28 = .ok (.istore_n 2, 1) := by decide +kernel
theorem dX11_unit_29 : decode cX11_unit 29 = .ok (.aload_n 0, 1) := by decide +kernel
theorem dX11_unit_30 : decode cX11_unit 30 = .ok (.getfield 12, 3) := by decide +kernel
theorem dX11_unit_33 : decode cX11_unit 33 = .ok (.iload_n 1, 1) := by decide +kernel
theorem dX11_unit_34 : decode cX11_unit 34 = .ok (.putfield 122, 3) := by decide +kernel
theorem dX11_unit_37 : decode cX11_unit 37 = .ok (.iload_n 2, 1) := by decide +kernel
theorem dX11_unit_38 : decode cX11_unit 38 = .ok (.ireturn, 1) := by decide +kernel
theorem dX11_tax_0 : decode cX11_tax 0 = .ok (.iload_n 1, 1) := by decide +kernel
theorem dX11_tax_1 : decode cX11_tax 1 = .ok (.invokestatic 57, 3) := by decide +kernel
theorem dX11_tax_4 : decode cX11_tax 4 = .ok (.ifCond .ne 13, 3) := by decide +kernel
theorem dX11_tax_7 : decode cX11_tax 7 = .ok (.new 61, 3) := by decide +kernel
theorem dX11_tax_10 : decode cX11_tax 10 = .ok (.dup, 1) := by decide +kernel
theorem dX11_tax_11 : decode cX11_tax 11 = .ok (.ldc 63, 2) := by decide +kernel
theorem dX11_tax_13 : decode cX11_tax 13 = .ok (.invokespecial 65, 3) := by decide +kernel
theorem dX11_tax_16 : decode cX11_tax 16 = .ok (.athrow, 1) := by decide +kernel
theorem dX11_tax_17 : decode cX11_tax 17 = .ok (.iload_n 2, 1) := by decide +kernel
theorem dX11_tax_18 : decode cX11_tax 18 = .ok (.iconst 0, 1) := by decide +kernel
theorem dX11_tax_19 : decode cX11_tax 19 = .ok (.sipush 10000, 3) := by decide +kernel
theorem dX11_tax_22 : decode cX11_tax 22 = .ok (.invokestatic 68, 3) := by decide +kernel
theorem dX11_tax_25 : decode cX11_tax 25 = .ok (.ifCond .eq 14, 3) := by decide +kernel
theorem dX11_tax_28 : decode cX11_tax 28 = .ok (.iload_n 3, 1) := by decide +kernel
theorem dX11_tax_29 : decode cX11_tax 29 = .ok (.iconst 0, 1) := by decide +kernel
theorem dX11_tax_30 : decode cX11_tax 30 = .ok (.sipush 10000, 3) := by decide +kernel
theorem dX11_tax_33 : decode cX11_tax 33 = .ok (.invokestatic 68, 3) := by decide +kernel
theorem dX11_tax_36 : decode cX11_tax 36 = .ok (.ifCond .ne 13, 3) := by decide +kernel
theorem dX11_tax_39 : decode cX11_tax 39 = .ok (.new 72, 3) := by decide +kernel
theorem dX11_tax_42 : decode cX11_tax 42 = .ok (.dup, 1) := by decide +kernel
theorem dX11_tax_43 : decode cX11_tax 43 = .ok (.ldc 125, 2) := by decide +kernel
theorem dX11_tax_45 : decode cX11_tax 45 = .ok (.invokespecial 76, 3) := by decide +kernel
theorem dX11_tax_48 : decode cX11_tax 48 = .ok (.athrow, 1) := by decide +kernel
theorem dX11_tax_49 : decode cX11_tax 49 = .ok (.aload_n 0, 1) := by decide +kernel
theorem dX11_tax_50 : decode cX11_tax 50 = .ok (.getfield 12, 3) := by decide +kernel
theorem dX11_tax_53 : decode cX11_tax 53 = .ok (.iload_n 1, 1) := by decide +kernel
theorem dX11_tax_54 : decode cX11_tax 54 = .ok (.iload_n 2, 1) := by decide +kernel
theorem dX11_tax_55 : decode cX11_tax 55 = .ok (.iload_n 3, 1) := by decide +kernel
theorem dX11_tax_56 : decode cX11_tax 56 = .ok (.invokevirtual 127, 3) := by decide +kernel
theorem dX11_tax_59 : decode cX11_tax 59 = .ok (.return_, 1) := by decide +kernel
theorem dX11_weight_0 : decode cX11_weight 0 = .ok (.iload_n 1, 1) := by decide +kernel
theorem dX11_weight_1 : decode cX11_weight 1 = .ok (.invokestatic 57, 3) := by decide +kernel
theorem dX11_weight_4 : decode cX11_weight 4 = .ok (.ifCond .eq 10, 3) := by decide +kernel
theorem dX11_weight_7 : decode cX11_weight 7 = .ok (.iload_n 2, 1) := by decide +kernel
theorem dX11_weight_8 : decode cX11_weight 8 = .ok (.invokestatic 57, 3) := by decide +kernel
theorem dX11_weight_11 : decode cX11_weight 11 = .ok (.ifCond .ne 13, 3) := by decide +kernel
theorem dX11_weight_14 : decode cX11_weight 14 = .ok (.new 61, 3) := by decide +kernel
theorem dX11_weight_17 : decode cX11_weight 17 = .ok (.dup, 1) := by decide +kernel
theorem dX11_weight_18 : decode cX11_weight 18 = .ok (.ldc 63, 2) := by decide +kernel
theorem dX11_weight_20 : decode cX11_weight 20 = .ok (.invokespecial 65, 3) := by decide +kernel
theorem dX11_weight_23 : decode cX11_weight 23 = .ok (.athrow, 1) := by decide +kernel
theorem dX11_weight_24 : decode cX11_weight 24 = .ok (.iload_n 1, 1) := by decide +kernel
theorem dX11_weight_25 : decode cX11_weight 25 = .ok (.iload_n 2, 1) := by decide +kernel
theorem dX11_weight_26 : decode cX11_weight 26 = .ok (.if_icmp .eq 14, 3) := by decide +kernel
theorem dX11_weight_29 : decode cX11_weight 29 = .ok (.iload_n 3, 1) := by decide +kernel
theorem dX11_weight_30 : decode cX11_weight 30 = .ok (.iconst 0, 1) := by decide +kernel
theorem dX11_weight_31 : decode cX11_weight 31 = .ok (.sipush 9999, 3) := by decide +kernel
theorem dX11_weight_34 : decode cX11_weight 34 = .ok (.invokestatic 68, 3) := by decide +kernel
theorem dX11_weight_37 : decode cX11_weight 37 = .ok (.ifCond .ne 13, 3) := by decide +kernel
theorem dX11_weight_40 : decode cX11_weight 40 = .ok (.new 72, 3) := by decide +kernel
theorem dX11_weight_43 : decode cX11_weight 43 = .ok (.dup, 1) := by decide +kernel
theorem dX11_weight_44 : decode cX11_weight 44 = .ok (.ldc 131, 2) := by decide +kernel
theorem dX11_weight_46 : decode cX11_weight 46 = .ok (.invokespecial 76, 3) := by decide +kernel
theorem dX11_weight_49 : decode cX11_weight 49 = .ok (.athrow, 1) := by decide +kernel
theorem dX11_weight_50 : decode cX11_weight 50 = .ok (.aload_n 0, 1) := by decide +kernel
theorem dX11_weight_51 : decode cX11_weight 51 = .ok (.getfield 19, 3) := by decide +kernel
theorem dX11_weight_54 : decode cX11_weight 54 = .ok (.getfield 133, 3) := by decide +kernel
theorem dX11_weight_57 : decode cX11_weight 57 = .ok (.iload_n 1, 1) := by decide +kernel
theorem dX11_weight_58 : decode cX11_weight 58 = .ok (.iload_n 2, 1) := by decide +kernel
theorem dX11_weight_59 : decode cX11_weight 59 = .ok (.iload_n 3, 1) := by decide +kernel
theorem dX11_weight_60 : decode cX11_weight 60 = .ok (.invokevirtual 81, 3) := by decide +kernel
theorem dX11_weight_63 : decode cX11_weight 63 = .ok (.ireturn, 1) := by decide +kernel
theorem dX11_proviso_0 : decode cX11_proviso 0 = .ok (.iload_n 1, 1) := by decide +kernel
theorem dX11_proviso_1 : decode cX11_proviso 1 = .ok (.invokestatic 136, 3) := by decide +kernel
theorem dX11_proviso_4 : decode cX11_proviso 4 = .ok (.ifCond .eq 17, 3) := by decide +kernel
theorem dX11_proviso_7 : decode cX11_proviso 7 = .ok (.iload_n 2, 1) := by decide +kernel
theorem dX11_proviso_8 : decode cX11_proviso 8 = .ok (.invokestatic 57, 3) := by decide +kernel
theorem dX11_proviso_11 : decode cX11_proviso 11 = .ok (.ifCond .eq 10, 3) := by decide +kernel
theorem dX11_proviso_14 : decode cX11_proviso 14 = .ok (.iload_n 3, 1) := by decide +kernel
theorem dX11_proviso_15 : decode cX11_proviso 15 = .ok (.invokestatic 57, 3) := by decide +kernel
theorem dX11_proviso_18 : decode cX11_proviso 18 = .ok (.ifCond .ne 13, 3) := by decide +kernel
theorem dX11_proviso_21 : decode cX11_proviso 21 = .ok (.new 61, 3) := by decide +kernel
theorem dX11_proviso_24 : decode cX11_proviso 24 = .ok (.dup, 1) := by decide +kernel
theorem dX11_proviso_25 : decode cX11_proviso 25 = .ok (.ldc 139, 2) := by decide +kernel
theorem dX11_proviso_27 : decode cX11_proviso 27 = .ok (.invokespecial 65, 3) := by decide +kernel
theorem dX11_proviso_30 : decode cX11_proviso 30 = .ok (.athrow, 1) := by decide +kernel
theorem dX11_proviso_31 : decode cX11_proviso 31 = .ok (.iload_n 2, 1) := by decide +kernel
theorem dX11_proviso_32 : decode cX11_proviso 32 = .ok (.iload_n 3, 1) := by decide +kernel
theorem dX11_proviso_33 : decode cX11_proviso 33 = .ok (.if_icmp .eq 20, 3) := by decide +kernel
theorem dX11_proviso_36 : decode cX11_proviso 36 = .ok (.iload 4, 2) := by decide +kernel
theorem dX11_proviso_38 : decode cX11_proviso 38 = .ok (.iconst (-1), 1) := by decide +kernel
theorem dX11_proviso_39 : decode cX11_proviso 39 = .ok (.if_icmp .eq 24, 3) := by decide +kernel
theorem dX11_proviso_42 : decode cX11_proviso 42 = .ok (.iload 4, 2) := by decide +kernel
theorem dX11_proviso_44 : decode cX11_proviso 44 = .ok (.iconst 0, 1) := by decide +kernel
theorem dX11_proviso_45 : decode cX11_proviso 45 = .ok (.ldc 87, 2) := by decide +kernel
theorem dX11_proviso_47 : decode cX11_proviso 47 = .ok (.invokestatic 68, 3) := by decide +kernel
theorem dX11_proviso_50 : decode cX11_proviso 50 = .ok (.ifCond .ne 13, 3) := by decide +kernel
theorem dX11_proviso_53 : decode cX11_proviso 53 = .ok (.new 72, 3) := by decide +kernel
theorem dX11_proviso_56 : decode cX11_proviso 56 = .ok (.dup, 1) := by decide +kernel
theorem dX11_proviso_57 : decode cX11_proviso 57 = .ok (.ldc 141, 2) := by decide +kernel
theorem dX11_proviso_59 : decode cX11_proviso 59 = .ok (.invokespecial 76, 3) := by decide +kernel
theorem dX11_proviso_62 : decode cX11_proviso 62 = .ok (.athrow, 1) := by decide +kernel
theorem dX11_proviso_63 : decode cX11_proviso 63 = .ok (.aload_n 0, 1) := by decide +kernel
theorem dX11_proviso_64 : decode cX11_proviso 64 = .ok (.getfield 19, 3) := by decide +kernel
theorem dX11_proviso_67 : decode cX11_proviso 67 = .ok (.iload_n 1, 1) := by decide +kernel
theorem dX11_proviso_68 : decode cX11_proviso 68 = .ok (.iload_n 2, 1) := by decide +kernel
theorem dX11_proviso_69 : decode cX11_proviso 69 = .ok (.iload_n 3, 1) := by decide +kernel
theorem dX11_proviso_70 : decode cX11_proviso 70 = .ok (.iload 4, 2) := by decide +kernel
theorem dX11_proviso_72 : decode cX11_proviso 72 = .ok (.invokevirtual 143, 3) := by decide +kernel
theorem dX11_proviso_75 : decode cX11_proviso 75 = .ok (.ireturn, 1) := by decide +kernel
theorem dX11_penalty_0 : decode cX11_penalty 0 = .ok (.iload_n 1, 1) := by decide +kernel
theorem dX11_penalty_1 : decode cX11_penalty 1 = .ok (.iconst 0, 1) := by decide +kernel
theorem dX11_penalty_2 : decode cX11_penalty 2 = .ok (.bipush 100, 2) := by decide +kernel
theorem dX11_penalty_4 : decode cX11_penalty 4 = .ok (.invokestatic 68, 3) := by decide +kernel
theorem dX11_penalty_7 : decode cX11_penalty 7 = .ok (.ifCond .ne 13, 3) := by decide +kernel
theorem dX11_penalty_10 : decode cX11_penalty 10 = .ok (.new 72, 3) := by decide +kernel
theorem dX11_penalty_13 : decode cX11_penalty 13 = .ok (.dup, 1) := by decide +kernel
theorem dX11_penalty_14 : decode cX11_penalty 14 = .ok (.ldc 147, 2) := by decide +kernel
theorem dX11_penalty_16 : decode cX11_penalty 16 = .ok (.invokespecial 76, 3) := by decide +kernel
theorem dX11_penalty_19 : decode cX11_penalty 19 = .ok (.athrow, 1) := by decide +kernel
theorem dX11_penalty_20 : decode cX11_penalty 20 = .ok (.aload_n 0, 1) := by decide +kernel
theorem dX11_penalty_21 : decode cX11_penalty 21 = .ok (.getfield 149, 3) := by decide +kernel
theorem dX11_penalty_24 : decode cX11_penalty 24 = .ok (.istore_n 2, 1) := by decide +kernel
theorem dX11_penalty_25 : decode cX11_penalty 25 = .ok (.aload_n 0, 1) := by decide +kernel
theorem dX11_penalty_26 : decode cX11_penalty 26 = .ok (.iload_n 1, 1) := by decide +kernel
theorem dX11_penalty_27 : decode cX11_penalty 27 = .ok (.putfield 149, 3) := by decide +kernel
theorem dX11_penalty_30 : decode cX11_penalty 30 = .ok (.iload_n 2, 1) := by decide +kernel
theorem dX11_penalty_31 : decode cX11_penalty 31 = .ok (.ireturn, 1) := by decide +kernel
theorem dX11_leg_0 : decode cX11_leg 0 = .ok (.iload_n 1, 1) := by decide +kernel
theorem dX11_leg_1 : decode cX11_leg 1 = .ok (.invokestatic 57, 3) := by decide +kernel
theorem dX11_leg_4 : decode cX11_leg 4 = .ok (.ifCond .eq 17, 3) := by decide +kernel
theorem dX11_leg_7 : decode cX11_leg 7 = .ok (.iload_n 2, 1) := by decide +kernel
theorem dX11_leg_8 : decode cX11_leg 8 = .ok (.invokestatic 57, 3) := by decide +kernel
theorem dX11_leg_11 : decode cX11_leg 11 = .ok (.ifCond .eq 10, 3) := by decide +kernel
theorem dX11_leg_14 : decode cX11_leg 14 = .ok (.iload_n 3, 1) := by decide +kernel
theorem dX11_leg_15 : decode cX11_leg 15 = .ok (.invokestatic 136, 3) := by decide +kernel
theorem dX11_leg_18 : decode cX11_leg 18 = .ok (.ifCond .ne 13, 3) := by decide +kernel
theorem dX11_leg_21 : decode cX11_leg 21 = .ok (.new 61, 3) := by decide +kernel
theorem dX11_leg_24 : decode cX11_leg 24 = .ok (.dup, 1) := by decide +kernel
theorem dX11_leg_25 : decode cX11_leg 25 = .ok (.ldc 152, 2) := by decide +kernel
theorem dX11_leg_27 : decode cX11_leg 27 = .ok (.invokespecial 65, 3) := by decide +kernel
theorem dX11_leg_30 : decode cX11_leg 30 = .ok (.athrow, 1) := by decide +kernel
theorem dX11_leg_31 : decode cX11_leg 31 = .ok (.iload_n 1, 1) := by decide +kernel
theorem dX11_leg_32 : decode cX11_leg 32 = .ok (.iload_n 2, 1) := by decide +kernel
theorem dX11_leg_33 : decode cX11_leg 33 = .ok (.if_icmp .eq 21, 3) := by decide +kernel
theorem dX11_leg_36 : decode cX11_leg 36 = .ok (.iload 4, 2) := by decide +kernel
theorem dX11_leg_38 : decode cX11_leg 38 = .ok (.aload_n 0, 1) := by decide +kernel
theorem dX11_leg_39 : decode cX11_leg 39 = .ok (.getfield 12, 3) := by decide +kernel
theorem dX11_leg_42 : decode cX11_leg 42 = .ok (.getfield 154, 3) := by decide +kernel
theorem dX11_leg_45 : decode cX11_leg 45 = .ok (.sipush 999, 3) := by decide +kernel
theorem dX11_leg_48 : decode cX11_leg 48 = .ok (.invokestatic 68, 3) := by decide +kernel
theorem dX11_leg_51 : decode cX11_leg 51 = .ok (.ifCond .ne 13, 3) := by decide +kernel
theorem dX11_leg_54 : decode cX11_leg 54 = .ok (.new 72, 3) := by decide +kernel
theorem dX11_leg_57 : decode cX11_leg 57 = .ok (.dup, 1) := by decide +kernel
theorem dX11_leg_58 : decode cX11_leg 58 = .ok (.ldc 157, 2) := by decide +kernel
theorem dX11_leg_60 : decode cX11_leg 60 = .ok (.invokespecial 76, 3) := by decide +kernel
theorem dX11_leg_63 : decode cX11_leg 63 = .ok (.athrow, 1) := by decide +kernel
theorem dX11_leg_64 : decode cX11_leg 64 = .ok (.aload_n 0, 1) := by decide +kernel
theorem dX11_leg_65 : decode cX11_leg 65 = .ok (.getfield 26, 3) := by decide +kernel
theorem dX11_leg_68 : decode cX11_leg 68 = .ok (.iload_n 1, 1) := by decide +kernel
theorem dX11_leg_69 : decode cX11_leg 69 = .ok (.iload 4, 2) := by decide +kernel
theorem dX11_leg_71 : decode cX11_leg 71 = .ok (.invokevirtual 159, 3) := by decide +kernel
theorem dX11_leg_74 : decode cX11_leg 74 = .ok (.ifCond .eq 18, 3) := by decide +kernel
theorem dX11_leg_77 : decode cX11_leg 77 = .ok (.aload_n 0, 1) := by decide +kernel
theorem dX11_leg_78 : decode cX11_leg 78 = .ok (.getfield 12, 3) := by decide +kernel
theorem dX11_leg_81 : decode cX11_leg 81 = .ok (.getfield 77, 3) := by decide +kernel
theorem dX11_leg_84 : decode cX11_leg 84 = .ok (.iload_n 1, 1) := by decide +kernel
theorem dX11_leg_85 : decode cX11_leg 85 = .ok (.iload_n 2, 1) := by decide +kernel
theorem dX11_leg_86 : decode cX11_leg 86 = .ok (.invokevirtual 163, 3) := by decide +kernel
theorem dX11_leg_89 : decode cX11_leg 89 = .ok (.ifCond .ne 13, 3) := by decide +kernel
theorem dX11_leg_92 : decode cX11_leg 92 = .ok (.new 94, 3) := by decide +kernel
theorem dX11_leg_95 : decode cX11_leg 95 = .ok (.dup, 1) := by decide +kernel
theorem dX11_leg_96 : decode cX11_leg 96 = .ok (.ldc 167, 2) := by decide +kernel
theorem dX11_leg_98 : decode cX11_leg 98 = .ok (.invokespecial 98, 3) := by decide +kernel
theorem dX11_leg_101 : decode cX11_leg 101 = .ok (.athrow, 1) := by decide +kernel
theorem dX11_leg_102 : decode cX11_leg 102 = .ok (.aload_n 0, 1) := by decide +kernel
theorem dX11_leg_103 : decode cX11_leg 103 = .ok (.getfield 26, 3) := by decide +kernel
theorem dX11_leg_106 : decode cX11_leg 106 = .ok (.iload_n 1, 1) := by decide +kernel
theorem dX11_leg_107 : decode cX11_leg 107 = .ok (.iload_n 2, 1) := by decide +kernel
theorem dX11_leg_108 : decode cX11_leg 108 = .ok (.iload_n 3, 1) := by decide +kernel
theorem dX11_leg_109 : decode cX11_leg 109 = .ok (.iload 4, 2) := by decide +kernel
theorem dX11_leg_111 : decode cX11_leg 111 = .ok (.invokevirtual 169, 3) := by decide +kernel
theorem dX11_leg_114 : decode cX11_leg 114 = .ok (.ireturn, 1) := by decide +kernel
theorem dX11_wipe_0 : decode cX11_wipe 0 = .ok (.aload_n 0, 1) := by decide +kernel
theorem dX11_wipe_1 : decode cX11_wipe 1 = .ok (.getfield 26, 3) := by decide +kernel
theorem dX11_wipe_4 : decode cX11_wipe 4 = .ok (.invokevirtual 172, 3) := by decide +kernel
theorem dX11_wipe_7 : decode cX11_wipe 7 = .ok (.ireturn, 1) := by decide +kernel
theorem dX11_part_0 : decode cX11_part 0 = .ok (.aload_n 0, 1) := by decide +kernel
theorem dX11_part_1 : decode cX11_part 1 = .ok (.getfield 26, 3) := by decide +kernel
theorem dX11_part_4 : decode cX11_part 4 = .ok (.iload_n 1, 1) := by decide +kernel
theorem dX11_part_5 : decode cX11_part 5 = .ok (.invokevirtual 176, 3) := by decide +kernel
theorem dX11_part_8 : decode cX11_part 8 = .ok (.ifCond .eq 14, 3) := by decide +kernel
theorem dX11_part_11 : decode cX11_part 11 = .ok (.aload_n 0, 1) := by decide +kernel
theorem dX11_part_12 : decode cX11_part 12 = .ok (.getfield 26, 3) := by decide +kernel
theorem dX11_part_15 : decode cX11_part 15 = .ok (.iload_n 2, 1) := by decide +kernel
theorem dX11_part_16 : decode cX11_part 16 = .ok (.invokevirtual 176, 3) := by decide +kernel
theorem dX11_part_19 : decode cX11_part 19 = .ok (.ifCond .ne 13, 3) := by decide +kernel
theorem dX11_part_22 : decode cX11_part 22 = .ok (.new 61, 3) := by decide +kernel
theorem dX11_part_25 : decode cX11_part 25 = .ok (.dup, 1) := by decide +kernel
theorem dX11_part_26 : decode cX11_part 26 = .ok (.ldc 179, 2) := by decide +kernel
theorem dX11_part_28 : decode cX11_part 28 = .ok (.invokespecial 65, 3) := by decide +kernel
theorem dX11_part_31 : decode cX11_part 31 = .ok (.athrow, 1) := by decide +kernel
theorem dX11_part_32 : decode cX11_part 32 = .ok (.iload_n 2, 1) := by decide +kernel
theorem dX11_part_33 : decode cX11_part 33 = .ok (.iload_n 1, 1) := by decide +kernel
theorem dX11_part_34 : decode cX11_part 34 = .ok (.if_icmp .gt 13, 3) := by decide +kernel
theorem dX11_part_37 : decode cX11_part 37 = .ok (.new 72, 3) := by decide +kernel
theorem dX11_part_40 : decode cX11_part 40 = .ok (.dup, 1) := by decide +kernel
theorem dX11_part_41 : decode cX11_part 41 = .ok (.ldc 181, 2) := by decide +kernel
theorem dX11_part_43 : decode cX11_part 43 = .ok (.invokespecial 76, 3) := by decide +kernel
theorem dX11_part_46 : decode cX11_part 46 = .ok (.athrow, 1) := by decide +kernel
theorem dX11_part_47 : decode cX11_part 47 = .ok (.aload_n 0, 1) := by decide +kernel
theorem dX11_part_48 : decode cX11_part 48 = .ok (.getfield 26, 3) := by decide +kernel
theorem dX11_part_51 : decode cX11_part 51 = .ok (.aload_n 0, 1) := by decide +kernel
theorem dX11_part_52 : decode cX11_part 52 = .ok (.getfield 12, 3) := by decide +kernel
theorem dX11_part_55 : decode cX11_part 55 = .ok (.iload_n 1, 1) := by decide +kernel
theorem dX11_part_56 : decode cX11_part 56 = .ok (.iload_n 2, 1) := by decide +kernel
theorem dX11_part_57 : decode cX11_part 57 = .ok (.invokevirtual 183, 3) := by decide +kernel
theorem dX11_part_60 : decode cX11_part 60 = .ok (.ireturn, 1) := by decide +kernel
theorem dX11_price_0 : decode cX11_price 0 = .ok (.aload_n 0, 1) := by decide +kernel
theorem dX11_price_1 : decode cX11_price 1 = .ok (.getfield 33, 3) := by decide +kernel
theorem dX11_price_4 : decode cX11_price 4 = .ok (.aload_n 0, 1) := by decide +kernel
theorem dX11_price_5 : decode cX11_price 5 = .ok (.getfield 26, 3) := by decide +kernel
theorem dX11_price_8 : decode cX11_price 8 = .ok (.aload_n 0, 1) := by decide +kernel
theorem dX11_price_9 : decode cX11_price 9 = .ok (.getfield 12, 3) := by decide +kernel
theorem dX11_price_12 : decode cX11_price 12 = .ok (.invokevirtual 187, 3) := by decide +kernel
theorem dX11_price_15 : decode cX11_price 15 = .ok (.aload_n 0, 1) := by decide +kernel
theorem dX11_price_16 : decode cX11_price 16 = .ok (.getfield 33, 3) := by decide +kernel
theorem dX11_price_19 : decode cX11_price 19 = .ok (.getfield 191, 3) := by decide +kernel
theorem dX11_price_22 : decode cX11_price 22 = .ok (.ireturn, 1) := by decide +kernel
theorem dX11_priceAnew_0 : decode cX11_priceAnew 0 = .ok (.aload_n 0, 1) := by decide +kernel
theorem dX11_priceAnew_1 : decode cX11_priceAnew 1 = .ok (.getfield 33, 3) := by decide +kernel
theorem dX11_priceAnew_4 : decode cX11_priceAnew 4 = .ok (.aload_n 0, 1) := by decide +kernel
theorem dX11_priceAnew_5 : decode cX11_priceAnew 5 = .ok (.getfield 26, 3) := by decide +kernel
theorem dX11_priceAnew_8 : decode cX11_priceAnew 8 = .ok (.aload_n 0, 1) := by decide +kernel
theorem dX11_priceAnew_9 : decode cX11_priceAnew 9 = .ok (.getfield 12, 3) := by decide +kernel
theorem dX11_priceAnew_12 : decode cX11_priceAnew 12 = .ok (.invokevirtual 194, 3) := by decide +kernel
theorem dX11_priceAnew_15 : decode cX11_priceAnew 15 = .ok (.ireturn, 1) := by decide +kernel
theorem dX11_cuts_0 : decode cX11_cuts 0 = .ok (.aload_n 0, 1) := by decide +kernel
theorem dX11_cuts_1 : decode cX11_cuts 1 = .ok (.getfield 33, 3) := by decide +kernel
theorem dX11_cuts_4 : decode cX11_cuts 4 = .ok (.aload_n 0, 1) := by decide +kernel
theorem dX11_cuts_5 : decode cX11_cuts 5 = .ok (.getfield 26, 3) := by decide +kernel
theorem dX11_cuts_8 : decode cX11_cuts 8 = .ok (.aload_n 0, 1) := by decide +kernel
theorem dX11_cuts_9 : decode cX11_cuts 9 = .ok (.getfield 12, 3) := by decide +kernel
theorem dX11_cuts_12 : decode cX11_cuts 12 = .ok (.invokevirtual 187, 3) := by decide +kernel
theorem dX11_cuts_15 : decode cX11_cuts 15 = .ok (.aload_n 0, 1) := by decide +kernel
theorem dX11_cuts_16 : decode cX11_cuts 16 = .ok (.getfield 33, 3) := by decide +kernel
theorem dX11_cuts_19 : decode cX11_cuts 19 = .ok (.getfield 198, 3) := by decide +kernel
theorem dX11_cuts_22 : decode cX11_cuts 22 = .ok (.ireturn, 1) := by decide +kernel
theorem dX11_issue_0 : decode cX11_issue 0 = .ok (.iload_n 1, 1) := by decide +kernel
theorem dX11_issue_1 : decode cX11_issue 1 = .ok (.invokestatic 136, 3) := by decide +kernel
theorem dX11_issue_4 : decode cX11_issue 4 = .ok (.ifCond .ne 13, 3) := by decide +kernel
theorem dX11_issue_7 : decode cX11_issue 7 = .ok (.new 61, 3) := by decide +kernel
theorem dX11_issue_10 : decode cX11_issue 10 = .ok (.dup, 1) := by decide +kernel
theorem dX11_issue_11 : decode cX11_issue 11 = .ok (.ldc 201, 2) := by decide +kernel
theorem dX11_issue_13 : decode cX11_issue 13 = .ok (.invokespecial 65, 3) := by decide +kernel
theorem dX11_issue_16 : decode cX11_issue 16 = .ok (.athrow, 1) := by decide +kernel
theorem dX11_issue_17 : decode cX11_issue 17 = .ok (.aload_n 0, 1) := by decide +kernel
theorem dX11_issue_18 : decode cX11_issue 18 = .ok (.getfield 33, 3) := by decide +kernel
theorem dX11_issue_21 : decode cX11_issue 21 = .ok (.aload_n 0, 1) := by decide +kernel
theorem dX11_issue_22 : decode cX11_issue 22 = .ok (.getfield 26, 3) := by decide +kernel
theorem dX11_issue_25 : decode cX11_issue 25 = .ok (.aload_n 0, 1) := by decide +kernel
theorem dX11_issue_26 : decode cX11_issue 26 = .ok (.getfield 12, 3) := by decide +kernel
theorem dX11_issue_29 : decode cX11_issue 29 = .ok (.invokevirtual 187, 3) := by decide +kernel
theorem dX11_issue_32 : decode cX11_issue 32 = .ok (.aload_n 0, 1) := by decide +kernel
theorem dX11_issue_33 : decode cX11_issue 33 = .ok (.invokevirtual 203, 3) := by decide +kernel
theorem dX11_issue_36 : decode cX11_issue 36 = .ok (.ifCond .ne 13, 3) := by decide +kernel
theorem dX11_issue_39 : decode cX11_issue 39 = .ok (.new 94, 3) := by decide +kernel
theorem dX11_issue_42 : decode cX11_issue 42 = .ok (.dup, 1) := by decide +kernel
theorem dX11_issue_43 : decode cX11_issue 43 = .ok (.ldc 207, 2) := by decide +kernel
theorem dX11_issue_45 : decode cX11_issue 45 = .ok (.invokespecial 98, 3) := by decide +kernel
theorem dX11_issue_48 : decode cX11_issue 48 = .ok (.athrow, 1) := by decide +kernel
theorem dX11_issue_49 : decode cX11_issue 49 = .ok (.aload_n 0, 1) := by decide +kernel
theorem dX11_issue_50 : decode cX11_issue 50 = .ok (.iload_n 1, 1) := by decide +kernel
theorem dX11_issue_51 : decode cX11_issue 51 = .ok (.invokevirtual 209, 3) := by decide +kernel
theorem dX11_issue_54 : decode cX11_issue 54 = .ok (.astore_n 2, 1) := by decide +kernel
theorem dX11_issue_55 : decode cX11_issue 55 = .ok (.aload_n 0, 1) := by decide +kernel
theorem dX11_issue_56 : decode cX11_issue 56 = .ok (.aload_n 2, 1) := by decide +kernel
theorem dX11_issue_57 : decode cX11_issue 57 = .ok (.aload_n 2, 1) := by decide +kernel
theorem dX11_issue_58 : decode cX11_issue 58 = .ok (.getfield 213, 3) := by decide +kernel
theorem dX11_issue_61 : decode cX11_issue 61 = .ok (.aload_n 2, 1) := by decide +kernel
theorem dX11_issue_62 : decode cX11_issue 62 = .ok (.getfield 216, 3) := by decide +kernel
theorem dX11_issue_65 : decode cX11_issue 65 = .ok (.iadd, 1) := by decide +kernel
theorem dX11_issue_66 : decode cX11_issue 66 = .ok (.invokevirtual 219, 3) := by decide +kernel
theorem dX11_issue_69 : decode cX11_issue 69 = .ok (.aload_n 0, 1) := by decide +kernel
theorem dX11_issue_70 : decode cX11_issue 70 = .ok (.getfield 223, 3) := by decide +kernel
theorem dX11_issue_73 : decode cX11_issue 73 = .ok (.iconst 1, 1) := by decide +kernel
theorem dX11_issue_74 : decode cX11_issue 74 = .ok (.isub, 1) := by decide +kernel
theorem dX11_issue_75 : decode cX11_issue 75 = .ok (.ireturn, 1) := by decide +kernel
theorem dX11_fly_0 : decode cX11_fly 0 = .ok (.aload_n 0, 1) := by decide +kernel
theorem dX11_fly_1 : decode cX11_fly 1 = .ok (.iload_n 1, 1) := by decide +kernel
theorem dX11_fly_2 : decode cX11_fly 2 = .ok (.invokevirtual 226, 3) := by decide +kernel
theorem dX11_fly_5 : decode cX11_fly 5 = .ok (.astore_n 3, 1) := by decide +kernel
theorem dX11_fly_6 : decode cX11_fly 6 = .ok (.aload_n 3, 1) := by decide +kernel
theorem dX11_fly_7 : decode cX11_fly 7 = .ok (.ifnonnull 7, 3) := by decide +kernel
theorem dX11_fly_10 : decode cX11_fly 10 = .ok (.aconst_null, 1) := by decide +kernel
theorem dX11_fly_11 : decode cX11_fly 11 = .ok (.goto 8, 3) := by decide +kernel
theorem dX11_fly_14 : decode cX11_fly 14 = .ok (.aload_n 3, 1) := by decide +kernel
theorem dX11_fly_15 : decode cX11_fly 15 = .ok (.iload_n 2, 1) := by decide +kernel
theorem dX11_fly_16 : decode cX11_fly 16 = .ok (.invokevirtual 229, 3) := by decide +kernel
theorem dX11_fly_19 : decode cX11_fly 19 = .ok (.astore 4, 2) := by decide +kernel
theorem dX11_fly_21 : decode cX11_fly 21 = .ok (.aload_n 3, 1) := by decide +kernel
theorem dX11_fly_22 : decode cX11_fly 22 = .ok (.ifnull 8, 3) := by decide +kernel
theorem dX11_fly_25 : decode cX11_fly 25 = .ok (.aload 4, 2) := by decide +kernel
theorem dX11_fly_27 : decode cX11_fly 27 = .ok (.ifnonnull 13, 3) := by decide +kernel
theorem dX11_fly_30 : decode cX11_fly 30 = .ok (.new 61, 3) := by decide +kernel
theorem dX11_fly_33 : decode cX11_fly 33 = .ok (.dup, 1) := by decide +kernel
theorem dX11_fly_34 : decode cX11_fly 34 = .ok (.ldc 233, 2) := by decide +kernel
theorem dX11_fly_36 : decode cX11_fly 36 = .ok (.invokespecial 65, 3) := by decide +kernel
theorem dX11_fly_39 : decode cX11_fly 39 = .ok (.athrow, 1) := by decide +kernel
theorem dX11_fly_40 : decode cX11_fly 40 = .ok (.aload 4, 2) := by decide +kernel
theorem dX11_fly_42 : decode cX11_fly 42 = .ok (.getfield 235, 3) := by decide +kernel
theorem dX11_fly_45 : decode cX11_fly 45 = .ok (.ifCond .ne 18, 3) := by decide +kernel
theorem dX11_fly_48 : decode cX11_fly 48 = .ok (.aload 4, 2) := by decide +kernel
theorem dX11_fly_50 : decode cX11_fly 50 = .ok (.getfield 240, 3) := by decide +kernel
theorem dX11_fly_53 : decode cX11_fly 53 = .ok (.aload_n 0, 1) := by decide +kernel
theorem dX11_fly_54 : decode cX11_fly 54 = .ok (.getfield 12, 3) := by decide +kernel
theorem dX11_fly_57 : decode cX11_fly 57 = .ok (.getfield 154, 3) := by decide +kernel
theorem dX11_fly_60 : decode cX11_fly 60 = .ok (.if_icmp .le 13, 3) := by decide +kernel
theorem dX11_fly_63 : decode cX11_fly 63 = .ok (.new 94, 3) := by decide +kernel
theorem dX11_fly_66 : decode cX11_fly 66 = .ok (.dup, 1) := by decide +kernel
theorem dX11_fly_67 : decode cX11_fly 67 = .ok (.ldc 243, 2) := by decide +kernel
theorem dX11_fly_69 : decode cX11_fly 69 = .ok (.invokespecial 98, 3) := by decide +kernel
theorem dX11_fly_72 : decode cX11_fly 72 = .ok (.athrow, 1) := by decide +kernel
theorem dX11_fly_73 : decode cX11_fly 73 = .ok (.aload 4, 2) := by decide +kernel
theorem dX11_fly_75 : decode cX11_fly 75 = .ok (.iconst 1, 1) := by decide +kernel
theorem dX11_fly_76 : decode cX11_fly 76 = .ok (.putfield 235, 3) := by decide +kernel
theorem dX11_fly_79 : decode cX11_fly 79 = .ok (.aload_n 3, 1) := by decide +kernel
theorem dX11_fly_80 : decode cX11_fly 80 = .ok (.iload_n 2, 1) := by decide +kernel
theorem dX11_fly_81 : decode cX11_fly 81 = .ok (.iconst 2, 1) := by decide +kernel
theorem dX11_fly_82 : decode cX11_fly 82 = .ok (.invokevirtual 245, 3) := by decide +kernel
theorem dX11_fly_85 : decode cX11_fly 85 = .ok (.aload_n 0, 1) := by decide +kernel
theorem dX11_fly_86 : decode cX11_fly 86 = .ok (.aload_n 3, 1) := by decide +kernel
theorem dX11_fly_87 : decode cX11_fly 87 = .ok (.getfield 249, 3) := by decide +kernel
theorem dX11_fly_90 : decode cX11_fly 90 = .ok (.aload 4, 2) := by decide +kernel
theorem dX11_fly_92 : decode cX11_fly 92 = .ok (.getfield 252, 3) := by decide +kernel
theorem dX11_fly_95 : decode cX11_fly 95 = .ok (.ineg, 1) := by decide +kernel
theorem dX11_fly_96 : decode cX11_fly 96 = .ok (.i2l, 1) := by decide +kernel
theorem dX11_fly_97 : decode cX11_fly 97 = .ok (.invokevirtual 255, 3) := by decide +kernel
theorem dX11_fly_100 : decode cX11_fly 100 = .ok (.aload 4, 2) := by decide +kernel
theorem dX11_fly_102 : decode cX11_fly 102 = .ok (.getfield 259, 3) := by decide +kernel
theorem dX11_fly_105 : decode cX11_fly 105 = .ok (.invokestatic 57, 3) := by decide +kernel
theorem dX11_fly_108 : decode cX11_fly 108 = .ok (.ifCond .eq 22, 3) := by decide +kernel
theorem dX11_fly_111 : decode cX11_fly 111 = .ok (.aload_n 0, 1) := by decide +kernel
theorem dX11_fly_112 : decode cX11_fly 112 = .ok (.getfield 54, 3) := by decide +kernel
theorem dX11_fly_115 : decode cX11_fly 115 = .ok (.aload 4, 2) := by decide +kernel
theorem dX11_fly_117 : decode cX11_fly 117 = .ok (.getfield 259, 3) := by decide +kernel
theorem dX11_fly_120 : decode cX11_fly 120 = .ok (.dup2, 1) := by decide +kernel
theorem dX11_fly_121 : decode cX11_fly 121 = .ok (.laload, 1) := by decide +kernel
theorem dX11_fly_122 : decode cX11_fly 122 = .ok (.aload 4, 2) := by decide +kernel
theorem dX11_fly_124 : decode cX11_fly 124 = .ok (.getfield 252, 3) := by decide +kernel
theorem dX11_fly_127 : decode cX11_fly 127 = .ok (.i2l, 1) := by decide +kernel
theorem dX11_fly_128 : decode cX11_fly 128 = .ok (.ladd, 1) := by decide +kernel
theorem dX11_fly_129 : decode cX11_fly 129 = .ok (.lastore, 1) := by decide +kernel
theorem dX11_fly_130 : decode cX11_fly 130 = .ok (.aload 4, 2) := by decide +kernel
theorem dX11_fly_132 : decode cX11_fly 132 = .ok (.getfield 262, 3) := by decide +kernel
theorem dX11_fly_135 : decode cX11_fly 135 = .ok (.aload_n 3, 1) := by decide +kernel
theorem dX11_fly_136 : decode cX11_fly 136 = .ok (.getfield 249, 3) := by decide +kernel
theorem dX11_fly_139 : decode cX11_fly 139 = .ok (.if_icmp .eq 29, 3) := by decide +kernel
theorem dX11_fly_142 : decode cX11_fly 142 = .ok (.aload 4, 2) := by decide +kernel
theorem dX11_fly_144 : decode cX11_fly 144 = .ok (.aload_n 0, 1) := by decide +kernel
theorem dX11_fly_145 : decode cX11_fly 145 = .ok (.getfield 40, 3) := by decide +kernel
theorem dX11_fly_148 : decode cX11_fly 148 = .ok (.aload_n 3, 1) := by decide +kernel
theorem dX11_fly_149 : decode cX11_fly 149 = .ok (.getfield 249, 3) := by decide +kernel
theorem dX11_fly_152 : decode cX11_fly 152 = .ok (.aload 4, 2) := by decide +kernel
theorem dX11_fly_154 : decode cX11_fly 154 = .ok (.getfield 262, 3) := by decide +kernel
theorem dX11_fly_157 : decode cX11_fly 157 = .ok (.aload 4, 2) := by decide +kernel
theorem dX11_fly_159 : decode cX11_fly 159 = .ok (.getfield 265, 3) := by decide +kernel
theorem dX11_fly_162 : decode cX11_fly 162 = .ok (.invokevirtual 268, 3) := by decide +kernel
theorem dX11_fly_165 : decode cX11_fly 165 = .ok (.putfield 271, 3) := by decide +kernel
theorem dX11_fly_168 : decode cX11_fly 168 = .ok (.aload 4, 2) := by decide +kernel
theorem dX11_fly_170 : decode cX11_fly 170 = .ok (.getfield 271, 3) := by decide +kernel
theorem dX11_fly_173 : decode cX11_fly 173 = .ok (.ireturn, 1) := by decide +kernel
theorem dX11_endorse_0 : decode cX11_endorse 0 = .ok (.aload_n 0, 1) := by decide +kernel
theorem dX11_endorse_1 : decode cX11_endorse 1 = .ok (.iload_n 1, 1) := by decide +kernel
theorem dX11_endorse_2 : decode cX11_endorse 2 = .ok (.invokevirtual 226, 3) := by decide +kernel
theorem dX11_endorse_5 : decode cX11_endorse 5 = .ok (.astore 4, 2) := by decide +kernel
theorem dX11_endorse_7 : decode cX11_endorse 7 = .ok (.aload 4, 2) := by decide +kernel
theorem dX11_endorse_9 : decode cX11_endorse 9 = .ok (.ifnonnull 7, 3) := by decide +kernel
theorem dX11_endorse_12 : decode cX11_endorse 12 = .ok (.aconst_null, 1) := by decide +kernel
theorem dX11_endorse_13 : decode cX11_endorse 13 = .ok (.goto 9, 3) := by decide +kernel
theorem dX11_endorse_16 : decode cX11_endorse 16 = .ok (.aload 4, 2) := by decide +kernel
theorem dX11_endorse_18 : decode cX11_endorse 18 = .ok (.iload_n 2, 1) := by decide +kernel
theorem dX11_endorse_19 : decode cX11_endorse 19 = .ok (.invokevirtual 229, 3) := by decide +kernel
theorem dX11_endorse_22 : decode cX11_endorse 22 = .ok (.astore 5, 2) := by decide +kernel
theorem dX11_endorse_24 : decode cX11_endorse 24 = .ok (.aload 5, 2) := by decide +kernel
theorem dX11_endorse_26 : decode cX11_endorse 26 = .ok (.ifnull 10, 3) := by decide +kernel
theorem dX11_endorse_29 : decode cX11_endorse 29 = .ok (.iload_n 3, 1) := by decide +kernel
theorem dX11_endorse_30 : decode cX11_endorse 30 = .ok (.invokestatic 136, 3) := by decide +kernel
theorem dX11_endorse_33 : decode cX11_endorse 33 = .ok (.ifCond .ne 14, 3) := by decide +kernel
theorem dX11_endorse_36 : decode cX11_endorse 36 = .ok (.new 61, 3) := by decide +kernel
theorem dX11_endorse_39 : decode cX11_endorse 39 = .ok (.dup, 1) := by decide +kernel
theorem dX11_endorse_40 : decode cX11_endorse 40 = .ok (.ldc_w 274, 3) := by decide +kernel
theorem dX11_endorse_43 : decode cX11_endorse 43 = .ok (.invokespecial 65, 3) := by decide +kernel
theorem dX11_endorse_46 : decode cX11_endorse 46 = .ok (.athrow, 1) := by decide +kernel
theorem dX11_endorse_47 : decode cX11_endorse 47 = .ok (.aload 5, 2) := by decide +kernel
theorem dX11_endorse_49 : decode cX11_endorse 49 = .ok (.getfield 235, 3) := by decide +kernel
theorem dX11_endorse_52 : decode cX11_endorse 52 = .ok (.ifCond .ne 12, 3) := by decide +kernel
theorem dX11_endorse_55 : decode cX11_endorse 55 = .ok (.aload 5, 2) := by decide +kernel
theorem dX11_endorse_57 : decode cX11_endorse 57 = .ok (.getfield 262, 3) := by decide +kernel
theorem dX11_endorse_60 : decode cX11_endorse 60 = .ok (.iload_n 3, 1) := by decide +kernel
theorem dX11_endorse_61 : decode cX11_endorse 61 = .ok (.if_icmp .ne 14, 3) := by decide +kernel
theorem dX11_endorse_64 : decode cX11_endorse 64 = .ok (.new 94, 3) := by decide +kernel
theorem dX11_endorse_67 : decode cX11_endorse 67 = .ok (.dup, 1) := by decide +kernel
theorem dX11_endorse_68 : decode cX11_endorse 68 = .ok (.ldc_w 276, 3) := by decide +kernel
theorem dX11_endorse_71 : decode cX11_endorse 71 = .ok (.invokespecial 98, 3) := by decide +kernel
theorem dX11_endorse_74 : decode cX11_endorse 74 = .ok (.athrow, 1) := by decide +kernel
theorem dX11_endorse_75 : decode cX11_endorse 75 = .ok (.aload 5, 2) := by decide +kernel
theorem dX11_endorse_77 : decode cX11_endorse 77 = .ok (.getfield 262, 3) := by decide +kernel
theorem dX11_endorse_80 : decode cX11_endorse 80 = .ok (.istore 6, 2) := by decide +kernel
theorem dX11_endorse_82 : decode cX11_endorse 82 = .ok (.aload 5, 2) := by decide +kernel
theorem dX11_endorse_84 : decode cX11_endorse 84 = .ok (.iload_n 3, 1) := by decide +kernel
theorem dX11_endorse_85 : decode cX11_endorse 85 = .ok (.putfield 262, 3) := by decide +kernel
theorem dX11_endorse_88 : decode cX11_endorse 88 = .ok (.iload 6, 2) := by decide +kernel
theorem dX11_endorse_90 : decode cX11_endorse 90 = .ok (.ireturn, 1) := by decide +kernel
theorem dX11_refund_0 : decode cX11_refund 0 = .ok (.aload_n 0, 1) := by decide +kernel
theorem dX11_refund_1 : decode cX11_refund 1 = .ok (.iload_n 1, 1) := by decide +kernel
theorem dX11_refund_2 : decode cX11_refund 2 = .ok (.invokevirtual 226, 3) := by decide +kernel
theorem dX11_refund_5 : decode cX11_refund 5 = .ok (.astore_n 2, 1) := by decide +kernel
theorem dX11_refund_6 : decode cX11_refund 6 = .ok (.aload_n 2, 1) := by decide +kernel
theorem dX11_refund_7 : decode cX11_refund 7 = .ok (.ifnonnull 14, 3) := by decide +kernel
theorem dX11_refund_10 : decode cX11_refund 10 = .ok (.new 61, 3) := by decide +kernel
theorem dX11_refund_13 : decode cX11_refund 13 = .ok (.dup, 1) := by decide +kernel
theorem dX11_refund_14 : decode cX11_refund 14 = .ok (.ldc_w 278, 3) := by decide +kernel
theorem dX11_refund_17 : decode cX11_refund 17 = .ok (.invokespecial 65, 3) := by decide +kernel
theorem dX11_refund_20 : decode cX11_refund 20 = .ok (.athrow, 1) := by decide +kernel
theorem dX11_refund_21 : decode cX11_refund 21 = .ok (.aload_n 2, 1) := by decide +kernel
theorem dX11_refund_22 : decode cX11_refund 22 = .ok (.invokevirtual 280, 3) := by decide +kernel
theorem dX11_refund_25 : decode cX11_refund 25 = .ok (.ifCond .ne 14, 3) := by decide +kernel
theorem dX11_refund_28 : decode cX11_refund 28 = .ok (.new 94, 3) := by decide +kernel
theorem dX11_refund_31 : decode cX11_refund 31 = .ok (.dup, 1) := by decide +kernel
theorem dX11_refund_32 : decode cX11_refund 32 = .ok (.ldc_w 283, 3) := by decide +kernel
theorem dX11_refund_35 : decode cX11_refund 35 = .ok (.invokespecial 98, 3) := by decide +kernel
theorem dX11_refund_38 : decode cX11_refund 38 = .ok (.athrow, 1) := by decide +kernel
theorem dX11_refund_39 : decode cX11_refund 39 = .ok (.aload_n 2, 1) := by decide +kernel
theorem dX11_refund_40 : decode cX11_refund 40 = .ok (.invokevirtual 285, 3) := by decide +kernel
theorem dX11_refund_43 : decode cX11_refund 43 = .ok (.istore_n 3, 1) := by decide +kernel
theorem dX11_refund_44 : decode cX11_refund 44 = .ok (.iload_n 3, 1) := by decide +kernel
theorem dX11_refund_45 : decode cX11_refund 45 = .ok (.i2l, 1) := by decide +kernel
theorem dX11_refund_46 : decode cX11_refund 46 = .ok (.aload_n 0, 1) := by decide +kernel
theorem dX11_refund_47 : decode cX11_refund 47 = .ok (.getfield 149, 3) := by decide +kernel
theorem dX11_refund_50 : decode cX11_refund 50 = .ok (.i2l, 1) := by decide +kernel
theorem dX11_refund_51 : decode cX11_refund 51 = .ok (.lmul, 1) := by decide +kernel
theorem dX11_refund_52 : decode cX11_refund 52 = .ok (.ldc2_w 288, 3) := by decide +kernel
theorem dX11_refund_55 : decode cX11_refund 55 = .ok (.ladd, 1) := by decide +kernel
theorem dX11_refund_56 : decode cX11_refund 56 = .ok (.lconst 1, 1) := by decide +kernel
theorem dX11_refund_57 : decode cX11_refund 57 = .ok (.lsub, 1) := by decide +kernel
theorem dX11_refund_58 : decode cX11_refund 58 = .ok (.ldc2_w 288, 3) := by decide +kernel
theorem dX11_refund_61 : decode cX11_refund 61 = .ok (.ldiv, 1) := by decide +kernel
theorem dX11_refund_62 : decode cX11_refund 62 = .ok (.l2i, 1) := by decide +kernel
theorem dX11_refund_63 : decode cX11_refund 63 = .ok (.istore 4, 2) := by decide +kernel
theorem dX11_refund_65 : decode cX11_refund 65 = .ok (.iload_n 3, 1) := by decide +kernel
theorem dX11_refund_66 : decode cX11_refund 66 = .ok (.iload 4, 2) := by decide +kernel
theorem dX11_refund_68 : decode cX11_refund 68 = .ok (.isub, 1) := by decide +kernel
theorem dX11_refund_69 : decode cX11_refund 69 = .ok (.aload_n 2, 1) := by decide +kernel
theorem dX11_refund_70 : decode cX11_refund 70 = .ok (.invokevirtual 290, 3) := by decide +kernel
theorem dX11_refund_73 : decode cX11_refund 73 = .ok (.iadd, 1) := by decide +kernel
theorem dX11_refund_74 : decode cX11_refund 74 = .ok (.istore 5, 2) := by decide +kernel
theorem dX11_refund_76 : decode cX11_refund 76 = .ok (.aload_n 2, 1) := by decide +kernel
theorem dX11_refund_77 : decode cX11_refund 77 = .ok (.aload_n 2, 1) := by decide +kernel
theorem dX11_refund_78 : decode cX11_refund 78 = .ok (.getfield 293, 3) := by decide +kernel
theorem dX11_refund_81 : decode cX11_refund 81 = .ok (.iconst 3, 1) := by decide +kernel
theorem dX11_refund_82 : decode cX11_refund 82 = .ok (.invokevirtual 245, 3) := by decide +kernel
theorem dX11_refund_85 : decode cX11_refund 85 = .ok (.aload_n 0, 1) := by decide +kernel
theorem dX11_refund_86 : decode cX11_refund 86 = .ok (.aload_n 2, 1) := by decide +kernel
theorem dX11_refund_87 : decode cX11_refund 87 = .ok (.iload 5, 2) := by decide +kernel
theorem dX11_refund_89 : decode cX11_refund 89 = .ok (.ineg, 1) := by decide +kernel
theorem dX11_refund_90 : decode cX11_refund 90 = .ok (.invokevirtual 219, 3) := by decide +kernel
theorem dX11_refund_93 : decode cX11_refund 93 = .ok (.iload 5, 2) := by decide +kernel
theorem dX11_refund_95 : decode cX11_refund 95 = .ok (.ireturn, 1) := by decide +kernel
theorem dX11_reissue_0 : decode cX11_reissue 0 = .ok (.aload_n 0, 1) := by decide +kernel
theorem dX11_reissue_1 : decode cX11_reissue 1 = .ok (.iload_n 1, 1) := by decide +kernel
theorem dX11_reissue_2 : decode cX11_reissue 2 = .ok (.invokevirtual 226, 3) := by decide +kernel
theorem dX11_reissue_5 : decode cX11_reissue 5 = .ok (.astore_n 2, 1) := by decide +kernel
theorem dX11_reissue_6 : decode cX11_reissue 6 = .ok (.aload_n 2, 1) := by decide +kernel
theorem dX11_reissue_7 : decode cX11_reissue 7 = .ok (.ifnonnull 14, 3) := by decide +kernel
theorem dX11_reissue_10 : decode cX11_reissue 10 = .ok (.new 61, 3) := by decide +kernel
theorem dX11_reissue_13 : decode cX11_reissue 13 = .ok (.dup, 1) := by decide +kernel
theorem dX11_reissue_14 : decode cX11_reissue 14 = .ok (.ldc_w 278, 3) := by decide +kernel
theorem dX11_reissue_17 : decode cX11_reissue 17 = .ok (.invokespecial 65, 3) := by decide +kernel
theorem dX11_reissue_20 : decode cX11_reissue 20 = .ok (.athrow, 1) := by decide +kernel
theorem dX11_reissue_21 : decode cX11_reissue 21 = .ok (.aload_n 0, 1) := by decide +kernel
theorem dX11_reissue_22 : decode cX11_reissue 22 = .ok (.getfield 33, 3) := by decide +kernel
theorem dX11_reissue_25 : decode cX11_reissue 25 = .ok (.aload_n 0, 1) := by decide +kernel
theorem dX11_reissue_26 : decode cX11_reissue 26 = .ok (.getfield 26, 3) := by decide +kernel
theorem dX11_reissue_29 : decode cX11_reissue 29 = .ok (.aload_n 0, 1) := by decide +kernel
theorem dX11_reissue_30 : decode cX11_reissue 30 = .ok (.getfield 12, 3) := by decide +kernel
theorem dX11_reissue_33 : decode cX11_reissue 33 = .ok (.invokevirtual 187, 3) := by decide +kernel
theorem dX11_reissue_36 : decode cX11_reissue 36 = .ok (.aload_n 2, 1) := by decide +kernel
theorem dX11_reissue_37 : decode cX11_reissue 37 = .ok (.invokevirtual 280, 3) := by decide +kernel
theorem dX11_reissue_40 : decode cX11_reissue 40 = .ok (.ifCond .eq 10, 3) := by decide +kernel
theorem dX11_reissue_43 : decode cX11_reissue 43 = .ok (.aload_n 0, 1) := by decide +kernel
theorem dX11_reissue_44 : decode cX11_reissue 44 = .ok (.invokevirtual 203, 3) := by decide +kernel
theorem dX11_reissue_47 : decode cX11_reissue 47 = .ok (.ifCond .ne 14, 3) := by decide +kernel
theorem dX11_reissue_50 : decode cX11_reissue 50 = .ok (.new 94, 3) := by decide +kernel
theorem dX11_reissue_53 : decode cX11_reissue 53 = .ok (.dup, 1) := by decide +kernel
theorem dX11_reissue_54 : decode cX11_reissue 54 = .ok (.ldc_w 296, 3) := by decide +kernel
theorem dX11_reissue_57 : decode cX11_reissue 57 = .ok (.invokespecial 98, 3) := by decide +kernel
theorem dX11_reissue_60 : decode cX11_reissue 60 = .ok (.athrow, 1) := by decide +kernel
theorem dX11_reissue_61 : decode cX11_reissue 61 = .ok (.aload_n 2, 1) := by decide +kernel
theorem dX11_reissue_62 : decode cX11_reissue 62 = .ok (.invokevirtual 285, 3) := by decide +kernel
theorem dX11_reissue_65 : decode cX11_reissue 65 = .ok (.aload_n 2, 1) := by decide +kernel
theorem dX11_reissue_66 : decode cX11_reissue 66 = .ok (.invokevirtual 290, 3) := by decide +kernel
theorem dX11_reissue_69 : decode cX11_reissue 69 = .ok (.iadd, 1) := by decide +kernel
theorem dX11_reissue_70 : decode cX11_reissue 70 = .ok (.istore_n 3, 1) := by decide +kernel
theorem dX11_reissue_71 : decode cX11_reissue 71 = .ok (.aload_n 2, 1) := by decide +kernel
theorem dX11_reissue_72 : decode cX11_reissue 72 = .ok (.aload_n 2, 1) := by decide +kernel
theorem dX11_reissue_73 : decode cX11_reissue 73 = .ok (.getfield 293, 3) := by decide +kernel
theorem dX11_reissue_76 : decode cX11_reissue 76 = .ok (.iconst 4, 1) := by decide +kernel
theorem dX11_reissue_77 : decode cX11_reissue 77 = .ok (.invokevirtual 245, 3) := by decide +kernel
theorem dX11_reissue_80 : decode cX11_reissue 80 = .ok (.aload_n 0, 1) := by decide +kernel
theorem dX11_reissue_81 : decode cX11_reissue 81 = .ok (.aload_n 2, 1) := by decide +kernel
theorem dX11_reissue_82 : decode cX11_reissue 82 = .ok (.getfield 249, 3) := by decide +kernel
theorem dX11_reissue_85 : decode cX11_reissue 85 = .ok (.invokevirtual 209, 3) := by decide +kernel
theorem dX11_reissue_88 : decode cX11_reissue 88 = .ok (.astore 4, 2) := by decide +kernel
theorem dX11_reissue_90 : decode cX11_reissue 90 = .ok (.aload 4, 2) := by decide +kernel
theorem dX11_reissue_92 : decode cX11_reissue 92 = .ok (.getfield 213, 3) := by decide +kernel
theorem dX11_reissue_95 : decode cX11_reissue 95 = .ok (.aload 4, 2) := by decide +kernel
theorem dX11_reissue_97 : decode cX11_reissue 97 = .ok (.getfield 216, 3) := by decide +kernel
theorem dX11_reissue_100 : decode cX11_reissue 100 = .ok (.iadd, 1) := by decide +kernel
theorem dX11_reissue_101 : decode cX11_reissue 101 = .ok (.iload_n 3, 1) := by decide +kernel
theorem dX11_reissue_102 : decode cX11_reissue 102 = .ok (.isub, 1) := by decide +kernel
theorem dX11_reissue_103 : decode cX11_reissue 103 = .ok (.istore 5, 2) := by decide +kernel
theorem dX11_reissue_105 : decode cX11_reissue 105 = .ok (.aload_n 0, 1) := by decide +kernel
theorem dX11_reissue_106 : decode cX11_reissue 106 = .ok (.aload 4, 2) := by decide +kernel
theorem dX11_reissue_108 : decode cX11_reissue 108 = .ok (.iload 5, 2) := by decide +kernel
theorem dX11_reissue_110 : decode cX11_reissue 110 = .ok (.invokevirtual 219, 3) := by decide +kernel
theorem dX11_reissue_113 : decode cX11_reissue 113 = .ok (.iload 5, 2) := by decide +kernel
theorem dX11_reissue_115 : decode cX11_reissue 115 = .ok (.ireturn, 1) := by decide +kernel
theorem dX11_pass_0 : decode cX11_pass 0 = .ok (.iload_n 1, 1) := by decide +kernel
theorem dX11_pass_1 : decode cX11_pass 1 = .ok (.iconst 1, 1) := by decide +kernel
theorem dX11_pass_2 : decode cX11_pass 2 = .ok (.bipush 100, 2) := by decide +kernel
theorem dX11_pass_4 : decode cX11_pass 4 = .ok (.invokestatic 68, 3) := by decide +kernel
theorem dX11_pass_7 : decode cX11_pass 7 = .ok (.ifCond .ne 14, 3) := by decide +kernel
theorem dX11_pass_10 : decode cX11_pass 10 = .ok (.new 72, 3) := by decide +kernel
theorem dX11_pass_13 : decode cX11_pass 13 = .ok (.dup, 1) := by decide +kernel
theorem dX11_pass_14 : decode cX11_pass 14 = .ok (.ldc_w 298, 3) := by decide +kernel
theorem dX11_pass_17 : decode cX11_pass 17 = .ok (.invokespecial 76, 3) := by decide +kernel
theorem dX11_pass_20 : decode cX11_pass 20 = .ok (.athrow, 1) := by decide +kernel
theorem dX11_pass_21 : decode cX11_pass 21 = .ok (.aload_n 0, 1) := by decide +kernel
theorem dX11_pass_22 : decode cX11_pass 22 = .ok (.getfield 12, 3) := by decide +kernel
theorem dX11_pass_25 : decode cX11_pass 25 = .ok (.getfield 154, 3) := by decide +kernel
theorem dX11_pass_28 : decode cX11_pass 28 = .ok (.iload_n 1, 1) := by decide +kernel
theorem dX11_pass_29 : decode cX11_pass 29 = .ok (.iadd, 1) := by decide +kernel
theorem dX11_pass_30 : decode cX11_pass 30 = .ok (.sipush 999, 3) := by decide +kernel
theorem dX11_pass_33 : decode cX11_pass 33 = .ok (.if_icmp .le 14, 3) := by decide +kernel
theorem dX11_pass_36 : decode cX11_pass 36 = .ok (.new 94, 3) := by decide +kernel
theorem dX11_pass_39 : decode cX11_pass 39 = .ok (.dup, 1) := by decide +kernel
theorem dX11_pass_40 : decode cX11_pass 40 = .ok (.ldc_w 300, 3) := by decide +kernel
theorem dX11_pass_43 : decode cX11_pass 43 = .ok (.invokespecial 98, 3) := by decide +kernel
theorem dX11_pass_46 : decode cX11_pass 46 = .ok (.athrow, 1) := by decide +kernel
theorem dX11_pass_47 : decode cX11_pass 47 = .ok (.aload_n 0, 1) := by decide +kernel
theorem dX11_pass_48 : decode cX11_pass 48 = .ok (.getfield 12, 3) := by decide +kernel
theorem dX11_pass_51 : decode cX11_pass 51 = .ok (.dup, 1) := by decide +kernel
theorem dX11_pass_52 : decode cX11_pass 52 = .ok (.getfield 154, 3) := by decide +kernel
theorem dX11_pass_55 : decode cX11_pass 55 = .ok (.iload_n 1, 1) := by decide +kernel
theorem dX11_pass_56 : decode cX11_pass 56 = .ok (.iadd, 1) := by decide +kernel
theorem dX11_pass_57 : decode cX11_pass 57 = .ok (.putfield 154, 3) := by decide +kernel
theorem dX11_pass_60 : decode cX11_pass 60 = .ok (.aload_n 0, 1) := by decide +kernel
theorem dX11_pass_61 : decode cX11_pass 61 = .ok (.getfield 12, 3) := by decide +kernel
theorem dX11_pass_64 : decode cX11_pass 64 = .ok (.getfield 154, 3) := by decide +kernel
theorem dX11_pass_67 : decode cX11_pass 67 = .ok (.ireturn, 1) := by decide +kernel
theorem dX11_clear_0 : decode cX11_clear 0 = .ok (.aload_n 0, 1) := by decide +kernel
theorem dX11_clear_1 : decode cX11_clear 1 = .ok (.getfield 40, 3) := by decide +kernel
theorem dX11_clear_4 : decode cX11_clear 4 = .ok (.invokevirtual 302, 3) := by decide +kernel
theorem dX11_clear_7 : decode cX11_clear 7 = .ok (.aload_n 0, 1) := by decide +kernel
theorem dX11_clear_8 : decode cX11_clear 8 = .ok (.invokevirtual 305, 3) := by decide +kernel
theorem dX11_clear_11 : decode cX11_clear 11 = .ok (.aload_n 0, 1) := by decide +kernel
theorem dX11_clear_12 : decode cX11_clear 12 = .ok (.getfield 40, 3) := by decide +kernel
theorem dX11_clear_15 : decode cX11_clear 15 = .ok (.invokevirtual 308, 3) := by decide +kernel
theorem dX11_clear_18 : decode cX11_clear 18 = .ok (.lreturn, 1) := by decide +kernel
theorem dX11_reject_0 : decode cX11_reject 0 = .ok (.aload_n 0, 1) := by decide +kernel
theorem dX11_reject_1 : decode cX11_reject 1 = .ok (.getfield 40, 3) := by decide +kernel
theorem dX11_reject_4 : decode cX11_reject 4 = .ok (.iload_n 1, 1) := by decide +kernel
theorem dX11_reject_5 : decode cX11_reject 5 = .ok (.invokevirtual 312, 3) := by decide +kernel
theorem dX11_reject_8 : decode cX11_reject 8 = .ok (.astore_n 2, 1) := by decide +kernel
theorem dX11_reject_9 : decode cX11_reject 9 = .ok (.aload_n 2, 1) := by decide +kernel
theorem dX11_reject_10 : decode cX11_reject 10 = .ok (.ifnonnull 14, 3) := by decide +kernel
theorem dX11_reject_13 : decode cX11_reject 13 = .ok (.new 61, 3) := by decide +kernel
theorem dX11_reject_16 : decode cX11_reject 16 = .ok (.dup, 1) := by decide +kernel
theorem dX11_reject_17 : decode cX11_reject 17 = .ok (.ldc_w 316, 3) := by decide +kernel
theorem dX11_reject_20 : decode cX11_reject 20 = .ok (.invokespecial 65, 3) := by decide +kernel
theorem dX11_reject_23 : decode cX11_reject 23 = .ok (.athrow, 1) := by decide +kernel
theorem dX11_reject_24 : decode cX11_reject 24 = .ok (.aload_n 2, 1) := by decide +kernel
theorem dX11_reject_25 : decode cX11_reject 25 = .ok (.getfield 318, 3) := by decide +kernel
theorem dX11_reject_28 : decode cX11_reject 28 = .ok (.iconst 1, 1) := by decide +kernel
theorem dX11_reject_29 : decode cX11_reject 29 = .ok (.if_icmp .ne 19, 3) := by decide +kernel
theorem dX11_reject_32 : decode cX11_reject 32 = .ok (.aload_n 2, 1) := by decide +kernel
theorem dX11_reject_33 : decode cX11_reject 33 = .ok (.getfield 321, 3) := by decide +kernel
theorem dX11_reject_36 : decode cX11_reject 36 = .ok (.aload_n 0, 1) := by decide +kernel
theorem dX11_reject_37 : decode cX11_reject 37 = .ok (.getfield 40, 3) := by decide +kernel
theorem dX11_reject_40 : decode cX11_reject 40 = .ok (.getfield 324, 3) := by decide +kernel
theorem dX11_reject_43 : decode cX11_reject 43 = .ok (.iconst 1, 1) := by decide +kernel
theorem dX11_reject_44 : decode cX11_reject 44 = .ok (.isub, 1) := by decide +kernel
theorem dX11_reject_45 : decode cX11_reject 45 = .ok (.if_icmp .ge 14, 3) := by decide +kernel
theorem dX11_reject_48 : decode cX11_reject 48 = .ok (.new 94, 3) := by decide +kernel
theorem dX11_reject_51 : decode cX11_reject 51 = .ok (.dup, 1) := by decide +kernel
theorem dX11_reject_52 : decode cX11_reject 52 = .ok (.ldc_w 327, 3) := by decide +kernel
theorem dX11_reject_55 : decode cX11_reject 55 = .ok (.invokespecial 98, 3) := by decide +kernel
theorem dX11_reject_58 : decode cX11_reject 58 = .ok (.athrow, 1) := by decide +kernel
theorem dX11_reject_59 : decode cX11_reject 59 = .ok (.aload_n 2, 1) := by decide +kernel
theorem dX11_reject_60 : decode cX11_reject 60 = .ok (.iconst 2, 1) := by decide +kernel
theorem dX11_reject_61 : decode cX11_reject 61 = .ok (.putfield 318, 3) := by decide +kernel
theorem dX11_reject_64 : decode cX11_reject 64 = .ok (.aload_n 2, 1) := by decide +kernel
theorem dX11_reject_65 : decode cX11_reject 65 = .ok (.dup, 1) := by decide +kernel
theorem dX11_reject_66 : decode cX11_reject 66 = .ok (.getfield 329, 3) := by decide +kernel
theorem dX11_reject_69 : decode cX11_reject 69 = .ok (.iconst 1, 1) := by decide +kernel
theorem dX11_reject_70 : decode cX11_reject 70 = .ok (.iadd, 1) := by decide +kernel
theorem dX11_reject_71 : decode cX11_reject 71 = .ok (.putfield 329, 3) := by decide +kernel
theorem dX11_reject_74 : decode cX11_reject 74 = .ok (.aload_n 2, 1) := by decide +kernel
theorem dX11_reject_75 : decode cX11_reject 75 = .ok (.getfield 329, 3) := by decide +kernel
theorem dX11_reject_78 : decode cX11_reject 78 = .ok (.ireturn, 1) := by decide +kernel
theorem dX11_rebill_0 : decode cX11_rebill 0 = .ok (.aload_n 0, 1) := by decide +kernel
theorem dX11_rebill_1 : decode cX11_rebill 1 = .ok (.getfield 40, 3) := by decide +kernel
theorem dX11_rebill_4 : decode cX11_rebill 4 = .ok (.iload_n 1, 1) := by decide +kernel
theorem dX11_rebill_5 : decode cX11_rebill 5 = .ok (.invokevirtual 312, 3) := by decide +kernel
theorem dX11_rebill_8 : decode cX11_rebill 8 = .ok (.astore_n 2, 1) := by decide +kernel
theorem dX11_rebill_9 : decode cX11_rebill 9 = .ok (.aload_n 2, 1) := by decide +kernel
theorem dX11_rebill_10 : decode cX11_rebill 10 = .ok (.ifnonnull 14, 3) := by decide +kernel
theorem dX11_rebill_13 : decode cX11_rebill 13 = .ok (.new 61, 3) := by decide +kernel
theorem dX11_rebill_16 : decode cX11_rebill 16 = .ok (.dup, 1) := by decide +kernel
theorem dX11_rebill_17 : decode cX11_rebill 17 = .ok (.ldc_w 316, 3) := by decide +kernel
theorem dX11_rebill_20 : decode cX11_rebill 20 = .ok (.invokespecial 65, 3) := by decide +kernel
theorem dX11_rebill_23 : decode cX11_rebill 23 = .ok (.athrow, 1) := by decide +kernel
theorem dX11_rebill_24 : decode cX11_rebill 24 = .ok (.aload_n 2, 1) := by decide +kernel
theorem dX11_rebill_25 : decode cX11_rebill 25 = .ok (.getfield 318, 3) := by decide +kernel
theorem dX11_rebill_28 : decode cX11_rebill 28 = .ok (.iconst 3, 1) := by decide +kernel
theorem dX11_rebill_29 : decode cX11_rebill 29 = .ok (.if_icmp .eq 14, 3) := by decide +kernel
theorem dX11_rebill_32 : decode cX11_rebill 32 = .ok (.new 94, 3) := by decide +kernel
theorem dX11_rebill_35 : decode cX11_rebill 35 = .ok (.dup, 1) := by decide +kernel
theorem dX11_rebill_36 : decode cX11_rebill 36 = .ok (.ldc_w 332, 3) := by decide +kernel
theorem dX11_rebill_39 : decode cX11_rebill 39 = .ok (.invokespecial 98, 3) := by decide +kernel
theorem dX11_rebill_42 : decode cX11_rebill 42 = .ok (.athrow, 1) := by decide +kernel
theorem dX11_rebill_43 : decode cX11_rebill 43 = .ok (.aload_n 2, 1) := by decide +kernel
theorem dX11_rebill_44 : decode cX11_rebill 44 = .ok (.iconst 0, 1) := by decide +kernel
theorem dX11_rebill_45 : decode cX11_rebill 45 = .ok (.putfield 318, 3) := by decide +kernel
theorem dX11_rebill_48 : decode cX11_rebill 48 = .ok (.return_, 1) := by decide +kernel
theorem dX11_fails_0 : decode cX11_fails 0 = .ok (.iload_n 1, 1) := by decide +kernel
theorem dX11_fails_1 : decode cX11_fails 1 = .ok (.invokestatic 136, 3) := by decide +kernel
theorem dX11_fails_4 : decode cX11_fails 4 = .ok (.ifCond .ne 13, 3) := by decide +kernel
theorem dX11_fails_7 : decode cX11_fails 7 = .ok (.new 61, 3) := by decide +kernel
theorem dX11_fails_10 : decode cX11_fails 10 = .ok (.dup, 1) := by decide +kernel
theorem dX11_fails_11 : decode cX11_fails 11 = .ok (.ldc 201, 2) := by decide +kernel
theorem dX11_fails_13 : decode cX11_fails 13 = .ok (.invokespecial 65, 3) := by decide +kernel
theorem dX11_fails_16 : decode cX11_fails 16 = .ok (.athrow, 1) := by decide +kernel
theorem dX11_fails_17 : decode cX11_fails 17 = .ok (.aload_n 0, 1) := by decide +kernel
theorem dX11_fails_18 : decode cX11_fails 18 = .ok (.getfield 40, 3) := by decide +kernel
theorem dX11_fails_21 : decode cX11_fails 21 = .ok (.iload_n 1, 1) := by decide +kernel
theorem dX11_fails_22 : decode cX11_fails 22 = .ok (.invokevirtual 334, 3) := by decide +kernel
theorem dX11_fails_25 : decode cX11_fails 25 = .ok (.istore_n 3, 1) := by decide +kernel
theorem dX11_fails_26 : decode cX11_fails 26 = .ok (.aload_n 0, 1) := by decide +kernel
theorem dX11_fails_27 : decode cX11_fails 27 = .ok (.getfield 40, 3) := by decide +kernel
theorem dX11_fails_30 : decode cX11_fails 30 = .ok (.iload_n 1, 1) := by decide +kernel
theorem dX11_fails_31 : decode cX11_fails 31 = .ok (.iload_n 2, 1) := by decide +kernel
theorem dX11_fails_32 : decode cX11_fails 32 = .ok (.invokevirtual 337, 3) := by decide +kernel
theorem dX11_fails_35 : decode cX11_fails 35 = .ok (.iload_n 3, 1) := by decide +kernel
theorem dX11_fails_36 : decode cX11_fails 36 = .ok (.ifCond .ne 7, 3) := by decide +kernel
theorem dX11_fails_39 : decode cX11_fails 39 = .ok (.iload_n 2, 1) := by decide +kernel
theorem dX11_fails_40 : decode cX11_fails 40 = .ok (.ifCond .ne 5, 3) := by decide +kernel
theorem dX11_fails_43 : decode cX11_fails 43 = .ok (.iconst 0, 1) := by decide +kernel
theorem dX11_fails_44 : decode cX11_fails 44 = .ok (.ireturn, 1) := by decide +kernel
theorem dX11_fails_45 : decode cX11_fails 45 = .ok (.aload_n 0, 1) := by decide +kernel
theorem dX11_fails_46 : decode cX11_fails 46 = .ok (.getfield 40, 3) := by decide +kernel
theorem dX11_fails_49 : decode cX11_fails 49 = .ok (.iload_n 1, 1) := by decide +kernel
theorem dX11_fails_50 : decode cX11_fails 50 = .ok (.invokevirtual 341, 3) := by decide +kernel
theorem dX11_fails_53 : decode cX11_fails 53 = .ok (.istore 4, 2) := by decide +kernel
theorem dX11_fails_55 : decode cX11_fails 55 = .ok (.aload_n 0, 1) := by decide +kernel
theorem dX11_fails_56 : decode cX11_fails 56 = .ok (.invokevirtual 305, 3) := by decide +kernel
theorem dX11_fails_59 : decode cX11_fails 59 = .ok (.iload 4, 2) := by decide +kernel
theorem dX11_fails_61 : decode cX11_fails 61 = .ok (.ireturn, 1) := by decide +kernel
theorem dX11_ofTicket_0 : decode cX11_ofTicket 0 = .ok (.aload_n 0, 1) := by decide +kernel
theorem dX11_ofTicket_1 : decode cX11_ofTicket 1 = .ok (.iload_n 1, 1) := by decide +kernel
theorem dX11_ofTicket_2 : decode cX11_ofTicket 2 = .ok (.invokevirtual 226, 3) := by decide +kernel
theorem dX11_ofTicket_5 : decode cX11_ofTicket 5 = .ok (.astore_n 3, 1) := by decide +kernel
theorem dX11_ofTicket_6 : decode cX11_ofTicket 6 = .ok (.aload_n 3, 1) := by decide +kernel
theorem dX11_ofTicket_7 : decode cX11_ofTicket 7 = .ok (.ifnonnull 14, 3) := by decide +kernel
theorem dX11_ofTicket_10 : decode cX11_ofTicket 10 = .ok (.new 61, 3) := by decide +kernel
theorem dX11_ofTicket_13 : decode cX11_ofTicket 13 = .ok (.dup, 1) := by decide +kernel
theorem dX11_ofTicket_14 : decode cX11_ofTicket 14 = .ok (.ldc_w 278, 3) := by decide +kernel
theorem dX11_ofTicket_17 : decode cX11_ofTicket 17 = .ok (.invokespecial 65, 3) := by decide +kernel
theorem dX11_ofTicket_20 : decode cX11_ofTicket 20 = .ok (.athrow, 1) := by decide +kernel
theorem dX11_ofTicket_21 : decode cX11_ofTicket 21 = .ok (.iload_n 2, 1) := by decide +kernel
theorem dX11_ofTicket_22 : decode cX11_ofTicket 22 = .ok (.tableswitch 68 0 5 #[38, 43, 48, 53, 58, 63], 38) := by decide +kernel
theorem dX11_ofTicket_60 : decode cX11_ofTicket 60 = .ok (.aload_n 3, 1) := by decide +kernel
theorem dX11_ofTicket_61 : decode cX11_ofTicket 61 = .ok (.getfield 213, 3) := by decide +kernel
theorem dX11_ofTicket_64 : decode cX11_ofTicket 64 = .ok (.ireturn, 1) := by decide +kernel
theorem dX11_ofTicket_65 : decode cX11_ofTicket 65 = .ok (.aload_n 3, 1) := by decide +kernel
theorem dX11_ofTicket_66 : decode cX11_ofTicket 66 = .ok (.getfield 216, 3) := by decide +kernel
theorem dX11_ofTicket_69 : decode cX11_ofTicket 69 = .ok (.ireturn, 1) := by decide +kernel
theorem dX11_ofTicket_70 : decode cX11_ofTicket 70 = .ok (.aload_n 3, 1) := by decide +kernel
theorem dX11_ofTicket_71 : decode cX11_ofTicket 71 = .ok (.getfield 249, 3) := by decide +kernel
theorem dX11_ofTicket_74 : decode cX11_ofTicket 74 = .ok (.ireturn, 1) := by decide +kernel
theorem dX11_ofTicket_75 : decode cX11_ofTicket 75 = .ok (.aload_n 3, 1) := by decide +kernel
theorem dX11_ofTicket_76 : decode cX11_ofTicket 76 = .ok (.getfield 293, 3) := by decide +kernel
theorem dX11_ofTicket_79 : decode cX11_ofTicket 79 = .ok (.ireturn, 1) := by decide +kernel
theorem dX11_ofTicket_80 : decode cX11_ofTicket 80 = .ok (.aload_n 3, 1) := by decide +kernel
theorem dX11_ofTicket_81 : decode cX11_ofTicket 81 = .ok (.getfield 345, 3) := by decide +kernel
theorem dX11_ofTicket_84 : decode cX11_ofTicket 84 = .ok (.ireturn, 1) := by decide +kernel
theorem dX11_ofTicket_85 : decode cX11_ofTicket 85 = .ok (.aload_n 3, 1) := by decide +kernel
theorem dX11_ofTicket_86 : decode cX11_ofTicket 86 = .ok (.getfield 348, 3) := by decide +kernel
theorem dX11_ofTicket_89 : decode cX11_ofTicket 89 = .ok (.ireturn, 1) := by decide +kernel
theorem dX11_ofTicket_90 : decode cX11_ofTicket 90 = .ok (.new 72, 3) := by decide +kernel
theorem dX11_ofTicket_93 : decode cX11_ofTicket 93 = .ok (.dup, 1) := by decide +kernel
theorem dX11_ofTicket_94 : decode cX11_ofTicket 94 = .ok (.ldc_w 351, 3) := by decide +kernel
theorem dX11_ofTicket_97 : decode cX11_ofTicket 97 = .ok (.invokespecial 76, 3) := by decide +kernel
theorem dX11_ofTicket_100 : decode cX11_ofTicket 100 = .ok (.athrow, 1) := by decide +kernel
theorem dX11_ofCoupon_0 : decode cX11_ofCoupon 0 = .ok (.aload_n 0, 1) := by decide +kernel
theorem dX11_ofCoupon_1 : decode cX11_ofCoupon 1 = .ok (.iload_n 1, 1) := by decide +kernel
theorem dX11_ofCoupon_2 : decode cX11_ofCoupon 2 = .ok (.invokevirtual 226, 3) := by decide +kernel
theorem dX11_ofCoupon_5 : decode cX11_ofCoupon 5 = .ok (.astore 4, 2) := by decide +kernel
theorem dX11_ofCoupon_7 : decode cX11_ofCoupon 7 = .ok (.aload 4, 2) := by decide +kernel
theorem dX11_ofCoupon_9 : decode cX11_ofCoupon 9 = .ok (.ifnonnull 7, 3) := by decide +kernel
theorem dX11_ofCoupon_12 : decode cX11_ofCoupon 12 = .ok (.aconst_null, 1) := by decide +kernel
theorem dX11_ofCoupon_13 : decode cX11_ofCoupon 13 = .ok (.goto 9, 3) := by decide +kernel
theorem dX11_ofCoupon_16 : decode cX11_ofCoupon 16 = .ok (.aload 4, 2) := by decide +kernel
theorem dX11_ofCoupon_18 : decode cX11_ofCoupon 18 = .ok (.iload_n 2, 1) := by decide +kernel
theorem dX11_ofCoupon_19 : decode cX11_ofCoupon 19 = .ok (.invokevirtual 229, 3) := by decide +kernel
theorem dX11_ofCoupon_22 : decode cX11_ofCoupon 22 = .ok (.astore 5, 2) := by decide +kernel
theorem dX11_ofCoupon_24 : decode cX11_ofCoupon 24 = .ok (.aload 5, 2) := by decide +kernel
theorem dX11_ofCoupon_26 : decode cX11_ofCoupon 26 = .ok (.ifnonnull 13, 3) := by decide +kernel
theorem dX11_ofCoupon_29 : decode cX11_ofCoupon 29 = .ok (.new 61, 3) := by decide +kernel
theorem dX11_ofCoupon_32 : decode cX11_ofCoupon 32 = .ok (.dup, 1) := by decide +kernel
theorem dX11_ofCoupon_33 : decode cX11_ofCoupon 33 = .ok (.ldc 233, 2) := by decide +kernel
theorem dX11_ofCoupon_35 : decode cX11_ofCoupon 35 = .ok (.invokespecial 65, 3) := by decide +kernel
theorem dX11_ofCoupon_38 : decode cX11_ofCoupon 38 = .ok (.athrow, 1) := by decide +kernel
theorem dX11_ofCoupon_39 : decode cX11_ofCoupon 39 = .ok (.iload_n 3, 1) := by decide +kernel
theorem dX11_ofCoupon_40 : decode cX11_ofCoupon 40 = .ok (.tableswitch 76 0 5 #[40, 46, 52, 58, 64, 70], 40) := by decide +kernel
theorem dX11_ofCoupon_80 : decode cX11_ofCoupon 80 = .ok (.aload 5, 2) := by decide +kernel
theorem dX11_ofCoupon_82 : decode cX11_ofCoupon 82 = .ok (.getfield 235, 3) := by decide +kernel
theorem dX11_ofCoupon_85 : decode cX11_ofCoupon 85 = .ok (.ireturn, 1) := by decide +kernel
theorem dX11_ofCoupon_86 : decode cX11_ofCoupon 86 = .ok (.aload 5, 2) := by decide +kernel
theorem dX11_ofCoupon_88 : decode cX11_ofCoupon 88 = .ok (.getfield 265, 3) := by decide +kernel
theorem dX11_ofCoupon_91 : decode cX11_ofCoupon 91 = .ok (.ireturn, 1) := by decide +kernel
theorem dX11_ofCoupon_92 : decode cX11_ofCoupon 92 = .ok (.aload 5, 2) := by decide +kernel
theorem dX11_ofCoupon_94 : decode cX11_ofCoupon 94 = .ok (.getfield 252, 3) := by decide +kernel
theorem dX11_ofCoupon_97 : decode cX11_ofCoupon 97 = .ok (.ireturn, 1) := by decide +kernel
theorem dX11_ofCoupon_98 : decode cX11_ofCoupon 98 = .ok (.aload 5, 2) := by decide +kernel
theorem dX11_ofCoupon_100 : decode cX11_ofCoupon 100 = .ok (.getfield 262, 3) := by decide +kernel
theorem dX11_ofCoupon_103 : decode cX11_ofCoupon 103 = .ok (.ireturn, 1) := by decide +kernel
theorem dX11_ofCoupon_104 : decode cX11_ofCoupon 104 = .ok (.aload 5, 2) := by decide +kernel
theorem dX11_ofCoupon_106 : decode cX11_ofCoupon 106 = .ok (.getfield 240, 3) := by decide +kernel
theorem dX11_ofCoupon_109 : decode cX11_ofCoupon 109 = .ok (.ireturn, 1) := by decide +kernel
theorem dX11_ofCoupon_110 : decode cX11_ofCoupon 110 = .ok (.aload 5, 2) := by decide +kernel
theorem dX11_ofCoupon_112 : decode cX11_ofCoupon 112 = .ok (.getfield 271, 3) := by decide +kernel
theorem dX11_ofCoupon_115 : decode cX11_ofCoupon 115 = .ok (.ireturn, 1) := by decide +kernel
theorem dX11_ofCoupon_116 : decode cX11_ofCoupon 116 = .ok (.new 72, 3) := by decide +kernel
theorem dX11_ofCoupon_119 : decode cX11_ofCoupon 119 = .ok (.dup, 1) := by decide +kernel
theorem dX11_ofCoupon_120 : decode cX11_ofCoupon 120 = .ok (.ldc_w 351, 3) := by decide +kernel
theorem dX11_ofCoupon_123 : decode cX11_ofCoupon 123 = .ok (.invokespecial 76, 3) := by decide +kernel
theorem dX11_ofCoupon_126 : decode cX11_ofCoupon 126 = .ok (.athrow, 1) := by decide +kernel
theorem dX11_ofBill_0 : decode cX11_ofBill 0 = .ok (.aload_n 0, 1) := by decide +kernel
theorem dX11_ofBill_1 : decode cX11_ofBill 1 = .ok (.getfield 40, 3) := by decide +kernel
theorem dX11_ofBill_4 : decode cX11_ofBill 4 = .ok (.iload_n 1, 1) := by decide +kernel
theorem dX11_ofBill_5 : decode cX11_ofBill 5 = .ok (.invokevirtual 312, 3) := by decide +kernel
theorem dX11_ofBill_8 : decode cX11_ofBill 8 = .ok (.astore_n 3, 1) := by decide +kernel
theorem dX11_ofBill_9 : decode cX11_ofBill 9 = .ok (.aload_n 3, 1) := by decide +kernel
theorem dX11_ofBill_10 : decode cX11_ofBill 10 = .ok (.ifnonnull 14, 3) := by decide +kernel
theorem dX11_ofBill_13 : decode cX11_ofBill 13 = .ok (.new 61, 3) := by decide +kernel
theorem dX11_ofBill_16 : decode cX11_ofBill 16 = .ok (.dup, 1) := by decide +kernel
theorem dX11_ofBill_17 : decode cX11_ofBill 17 = .ok (.ldc_w 316, 3) := by decide +kernel
theorem dX11_ofBill_20 : decode cX11_ofBill 20 = .ok (.invokespecial 65, 3) := by decide +kernel
theorem dX11_ofBill_23 : decode cX11_ofBill 23 = .ok (.athrow, 1) := by decide +kernel
theorem dX11_ofBill_24 : decode cX11_ofBill 24 = .ok (.iload_n 2, 1) := by decide +kernel
theorem dX11_ofBill_25 : decode cX11_ofBill 25 = .ok (.tableswitch 69 0 5 #[39, 44, 49, 54, 59, 64], 39) := by decide +kernel
theorem dX11_ofBill_64 : decode cX11_ofBill 64 = .ok (.aload_n 3, 1) := by decide +kernel
theorem dX11_ofBill_65 : decode cX11_ofBill 65 = .ok (.getfield 318, 3) := by decide +kernel
theorem dX11_ofBill_68 : decode cX11_ofBill 68 = .ok (.ireturn, 1) := by decide +kernel
theorem dX11_ofBill_69 : decode cX11_ofBill 69 = .ok (.aload_n 3, 1) := by decide +kernel
theorem dX11_ofBill_70 : decode cX11_ofBill 70 = .ok (.getfield 353, 3) := by decide +kernel
theorem dX11_ofBill_73 : decode cX11_ofBill 73 = .ok (.ireturn, 1) := by decide +kernel
theorem dX11_ofBill_74 : decode cX11_ofBill 74 = .ok (.aload_n 3, 1) := by decide +kernel
theorem dX11_ofBill_75 : decode cX11_ofBill 75 = .ok (.getfield 356, 3) := by decide +kernel
theorem dX11_ofBill_78 : decode cX11_ofBill 78 = .ok (.ireturn, 1) := by decide +kernel
theorem dX11_ofBill_79 : decode cX11_ofBill 79 = .ok (.aload_n 3, 1) := by decide +kernel
theorem dX11_ofBill_80 : decode cX11_ofBill 80 = .ok (.getfield 359, 3) := by decide +kernel
theorem dX11_ofBill_83 : decode cX11_ofBill 83 = .ok (.ireturn, 1) := by decide +kernel
theorem dX11_ofBill_84 : decode cX11_ofBill 84 = .ok (.aload_n 3, 1) := by decide +kernel
theorem dX11_ofBill_85 : decode cX11_ofBill 85 = .ok (.getfield 329, 3) := by decide +kernel
theorem dX11_ofBill_88 : decode cX11_ofBill 88 = .ok (.ireturn, 1) := by decide +kernel
theorem dX11_ofBill_89 : decode cX11_ofBill 89 = .ok (.aload_n 3, 1) := by decide +kernel
theorem dX11_ofBill_90 : decode cX11_ofBill 90 = .ok (.getfield 321, 3) := by decide +kernel
theorem dX11_ofBill_93 : decode cX11_ofBill 93 = .ok (.ireturn, 1) := by decide +kernel
theorem dX11_ofBill_94 : decode cX11_ofBill 94 = .ok (.new 72, 3) := by decide +kernel
theorem dX11_ofBill_97 : decode cX11_ofBill 97 = .ok (.dup, 1) := by decide +kernel
theorem dX11_ofBill_98 : decode cX11_ofBill 98 = .ok (.ldc_w 351, 3) := by decide +kernel
theorem dX11_ofBill_101 : decode cX11_ofBill 101 = .ok (.invokespecial 76, 3) := by decide +kernel
theorem dX11_ofBill_104 : decode cX11_ofBill 104 = .ok (.athrow, 1) := by decide +kernel
theorem dX11_cash_0 : decode cX11_cash 0 = .ok (.iload_n 1, 1) := by decide +kernel
theorem dX11_cash_1 : decode cX11_cash 1 = .ok (.invokestatic 136, 3) := by decide +kernel
theorem dX11_cash_4 : decode cX11_cash 4 = .ok (.ifCond .ne 13, 3) := by decide +kernel
theorem dX11_cash_7 : decode cX11_cash 7 = .ok (.new 61, 3) := by decide +kernel
theorem dX11_cash_10 : decode cX11_cash 10 = .ok (.dup, 1) := by decide +kernel
theorem dX11_cash_11 : decode cX11_cash 11 = .ok (.ldc 201, 2) := by decide +kernel
theorem dX11_cash_13 : decode cX11_cash 13 = .ok (.invokespecial 65, 3) := by decide +kernel
theorem dX11_cash_16 : decode cX11_cash 16 = .ok (.athrow, 1) := by decide +kernel
theorem dX11_cash_17 : decode cX11_cash 17 = .ok (.aload_n 0, 1) := by decide +kernel
theorem dX11_cash_18 : decode cX11_cash 18 = .ok (.getfield 50, 3) := by decide +kernel
theorem dX11_cash_21 : decode cX11_cash 21 = .ok (.iload_n 1, 1) := by decide +kernel
theorem dX11_cash_22 : decode cX11_cash 22 = .ok (.laload, 1) := by decide +kernel
theorem dX11_cash_23 : decode cX11_cash 23 = .ok (.lreturn, 1) := by decide +kernel
theorem dX11_cashAnew_0 : decode cX11_cashAnew 0 = .ok (.iload_n 1, 1) := by decide +kernel
theorem dX11_cashAnew_1 : decode cX11_cashAnew 1 = .ok (.invokestatic 136, 3) := by decide +kernel
theorem dX11_cashAnew_4 : decode cX11_cashAnew 4 = .ok (.ifCond .ne 13, 3) := by decide +kernel
theorem dX11_cashAnew_7 : decode cX11_cashAnew 7 = .ok (.new 61, 3) := by decide +kernel
theorem dX11_cashAnew_10 : decode cX11_cashAnew 10 = .ok (.dup, 1) := by decide +kernel
theorem dX11_cashAnew_11 : decode cX11_cashAnew 11 = .ok (.ldc 201, 2) := by decide +kernel
theorem dX11_cashAnew_13 : decode cX11_cashAnew 13 = .ok (.invokespecial 65, 3) := by decide +kernel
theorem dX11_cashAnew_16 : decode cX11_cashAnew 16 = .ok (.athrow, 1) := by decide +kernel
theorem dX11_cashAnew_17 : decode cX11_cashAnew 17 = .ok (.aload_n 0, 1) := by decide +kernel
theorem dX11_cashAnew_18 : decode cX11_cashAnew 18 = .ok (.getfield 40, 3) := by decide +kernel
theorem dX11_cashAnew_21 : decode cX11_cashAnew 21 = .ok (.iload_n 1, 1) := by decide +kernel
theorem dX11_cashAnew_22 : decode cX11_cashAnew 22 = .ok (.invokevirtual 362, 3) := by decide +kernel
theorem dX11_cashAnew_25 : decode cX11_cashAnew 25 = .ok (.lstore_n 2, 1) := by decide +kernel
theorem dX11_cashAnew_26 : decode cX11_cashAnew 26 = .ok (.iconst 0, 1) := by decide +kernel
theorem dX11_cashAnew_27 : decode cX11_cashAnew 27 = .ok (.istore 4, 2) := by decide +kernel
theorem dX11_cashAnew_29 : decode cX11_cashAnew 29 = .ok (.iload 4, 2) := by decide +kernel
theorem dX11_cashAnew_31 : decode cX11_cashAnew 31 = .ok (.aload_n 0, 1) := by decide +kernel
theorem dX11_cashAnew_32 : decode cX11_cashAnew 32 = .ok (.getfield 223, 3) := by decide +kernel
theorem dX11_cashAnew_35 : decode cX11_cashAnew 35 = .ok (.if_icmp .ge 46, 3) := by decide +kernel
theorem dX11_cashAnew_38 : decode cX11_cashAnew 38 = .ok (.aload_n 0, 1) := by decide +kernel
theorem dX11_cashAnew_39 : decode cX11_cashAnew 39 = .ok (.iload 4, 2) := by decide +kernel
theorem dX11_cashAnew_41 : decode cX11_cashAnew 41 = .ok (.invokevirtual 226, 3) := by decide +kernel
theorem dX11_cashAnew_44 : decode cX11_cashAnew 44 = .ok (.astore 5, 2) := by decide +kernel
theorem dX11_cashAnew_46 : decode cX11_cashAnew 46 = .ok (.aload 5, 2) := by decide +kernel
theorem dX11_cashAnew_48 : decode cX11_cashAnew 48 = .ok (.ifnull 27, 3) := by decide +kernel
theorem dX11_cashAnew_51 : decode cX11_cashAnew 51 = .ok (.aload 5, 2) := by decide +kernel
theorem dX11_cashAnew_53 : decode cX11_cashAnew 53 = .ok (.getfield 249, 3) := by decide +kernel
theorem dX11_cashAnew_56 : decode cX11_cashAnew 56 = .ok (.iload_n 1, 1) := by decide +kernel
theorem dX11_cashAnew_57 : decode cX11_cashAnew 57 = .ok (.if_icmp .ne 18, 3) := by decide +kernel
theorem dX11_cashAnew_60 : decode cX11_cashAnew 60 = .ok (.lload_n 2, 1) := by decide +kernel
theorem dX11_cashAnew_61 : decode cX11_cashAnew 61 = .ok (.aload 5, 2) := by decide +kernel
theorem dX11_cashAnew_63 : decode cX11_cashAnew 63 = .ok (.getfield 366, 3) := by decide +kernel
theorem dX11_cashAnew_66 : decode cX11_cashAnew 66 = .ok (.aload 5, 2) := by decide +kernel
theorem dX11_cashAnew_68 : decode cX11_cashAnew 68 = .ok (.invokevirtual 370, 3) := by decide +kernel
theorem dX11_cashAnew_71 : decode cX11_cashAnew 71 = .ok (.i2l, 1) := by decide +kernel
theorem dX11_cashAnew_72 : decode cX11_cashAnew 72 = .ok (.lsub, 1) := by decide +kernel
theorem dX11_cashAnew_73 : decode cX11_cashAnew 73 = .ok (.ladd, 1) := by decide +kernel
theorem dX11_cashAnew_74 : decode cX11_cashAnew 74 = .ok (.lstore_n 2, 1) := by decide +kernel
theorem dX11_cashAnew_75 : decode cX11_cashAnew 75 = .ok (.iinc 4 1, 3) := by decide +kernel
theorem dX11_cashAnew_78 : decode cX11_cashAnew 78 = .ok (.goto (-49), 3) := by decide +kernel
theorem dX11_cashAnew_81 : decode cX11_cashAnew 81 = .ok (.lload_n 2, 1) := by decide +kernel
theorem dX11_cashAnew_82 : decode cX11_cashAnew 82 = .ok (.lreturn, 1) := by decide +kernel
theorem dX11_state_0 : decode cX11_state 0 = .ok (.iload_n 1, 1) := by decide +kernel
theorem dX11_state_1 : decode cX11_state 1 = .ok (.invokestatic 57, 3) := by decide +kernel
theorem dX11_state_4 : decode cX11_state 4 = .ok (.ifCond .ne 13, 3) := by decide +kernel
theorem dX11_state_7 : decode cX11_state 7 = .ok (.new 61, 3) := by decide +kernel
theorem dX11_state_10 : decode cX11_state 10 = .ok (.dup, 1) := by decide +kernel
theorem dX11_state_11 : decode cX11_state 11 = .ok (.ldc 63, 2) := by decide +kernel
theorem dX11_state_13 : decode cX11_state 13 = .ok (.invokespecial 65, 3) := by decide +kernel
theorem dX11_state_16 : decode cX11_state 16 = .ok (.athrow, 1) := by decide +kernel
theorem dX11_state_17 : decode cX11_state 17 = .ok (.aload_n 0, 1) := by decide +kernel
theorem dX11_state_18 : decode cX11_state 18 = .ok (.getfield 54, 3) := by decide +kernel
theorem dX11_state_21 : decode cX11_state 21 = .ok (.iload_n 1, 1) := by decide +kernel
theorem dX11_state_22 : decode cX11_state 22 = .ok (.laload, 1) := by decide +kernel
theorem dX11_state_23 : decode cX11_state 23 = .ok (.lreturn, 1) := by decide +kernel
theorem dX11_paid_0 : decode cX11_paid 0 = .ok (.aload_n 0, 1) := by decide +kernel
theorem dX11_paid_1 : decode cX11_paid 1 = .ok (.getfield 373, 3) := by decide +kernel
theorem dX11_paid_4 : decode cX11_paid 4 = .ok (.lreturn, 1) := by decide +kernel
theorem dX11_of_0 : decode cX11_of 0 = .ok (.iload_n 1, 1) := by decide +kernel
theorem dX11_of_1 : decode cX11_of 1 = .ok (.tableswitch 84 0 5 #[39, 47, 55, 60, 68, 76], 39) := by decide +kernel
theorem dX11_of_40 : decode cX11_of 40 = .ok (.aload_n 0, 1) := by decide +kernel
theorem dX11_of_41 : decode cX11_of 41 = .ok (.getfield 12, 3) := by decide +kernel
theorem dX11_of_44 : decode cX11_of 44 = .ok (.getfield 154, 3) := by decide +kernel
theorem dX11_of_47 : decode cX11_of 47 = .ok (.ireturn, 1) := by decide +kernel
theorem dX11_of_48 : decode cX11_of 48 = .ok (.aload_n 0, 1) := by decide +kernel
theorem dX11_of_49 : decode cX11_of 49 = .ok (.getfield 26, 3) := by decide +kernel
theorem dX11_of_52 : decode cX11_of 52 = .ok (.getfield 376, 3) := by decide +kernel
theorem dX11_of_55 : decode cX11_of 55 = .ok (.ireturn, 1) := by decide +kernel
theorem dX11_of_56 : decode cX11_of 56 = .ok (.aload_n 0, 1) := by decide +kernel
theorem dX11_of_57 : decode cX11_of 57 = .ok (.getfield 223, 3) := by decide +kernel
theorem dX11_of_60 : decode cX11_of 60 = .ok (.ireturn, 1) := by decide +kernel
theorem dX11_of_61 : decode cX11_of 61 = .ok (.aload_n 0, 1) := by decide +kernel
theorem dX11_of_62 : decode cX11_of 62 = .ok (.getfield 40, 3) := by decide +kernel
theorem dX11_of_65 : decode cX11_of 65 = .ok (.getfield 377, 3) := by decide +kernel
theorem dX11_of_68 : decode cX11_of 68 = .ok (.ireturn, 1) := by decide +kernel
theorem dX11_of_69 : decode cX11_of 69 = .ok (.aload_n 0, 1) := by decide +kernel
theorem dX11_of_70 : decode cX11_of 70 = .ok (.getfield 40, 3) := by decide +kernel
theorem dX11_of_73 : decode cX11_of 73 = .ok (.getfield 324, 3) := by decide +kernel
theorem dX11_of_76 : decode cX11_of 76 = .ok (.ireturn, 1) := by decide +kernel
theorem dX11_of_77 : decode cX11_of 77 = .ok (.aload_n 0, 1) := by decide +kernel
theorem dX11_of_78 : decode cX11_of 78 = .ok (.getfield 40, 3) := by decide +kernel
theorem dX11_of_81 : decode cX11_of 81 = .ok (.getfield 378, 3) := by decide +kernel
theorem dX11_of_84 : decode cX11_of 84 = .ok (.ireturn, 1) := by decide +kernel
theorem dX11_of_85 : decode cX11_of 85 = .ok (.new 72, 3) := by decide +kernel
theorem dX11_of_88 : decode cX11_of 88 = .ok (.dup, 1) := by decide +kernel
theorem dX11_of_89 : decode cX11_of 89 = .ok (.ldc_w 351, 3) := by decide +kernel
theorem dX11_of_92 : decode cX11_of 92 = .ok (.invokespecial 76, 3) := by decide +kernel
theorem dX11_of_95 : decode cX11_of 95 = .ok (.athrow, 1) := by decide +kernel
theorem dX11_isWithin_0 : decode cX11_isWithin 0 = .ok (.iload_n 0, 1) := by decide +kernel
theorem dX11_isWithin_1 : decode cX11_isWithin 1 = .ok (.iload_n 1, 1) := by decide +kernel
theorem dX11_isWithin_2 : decode cX11_isWithin 2 = .ok (.if_icmp .lt 12, 3) := by decide +kernel
theorem dX11_isWithin_5 : decode cX11_isWithin 5 = .ok (.iload_n 0, 1) := by decide +kernel
theorem dX11_isWithin_6 : decode cX11_isWithin 6 = .ok (.iload_n 2, 1) := by decide +kernel
theorem dX11_isWithin_7 : decode cX11_isWithin 7 = .ok (.if_icmp .gt 7, 3) := by decide +kernel
theorem dX11_isWithin_10 : decode cX11_isWithin 10 = .ok (.iconst 1, 1) := by decide +kernel
theorem dX11_isWithin_11 : decode cX11_isWithin 11 = .ok (.goto 4, 3) := by decide +kernel
theorem dX11_isWithin_14 : decode cX11_isWithin 14 = .ok (.iconst 0, 1) := by decide +kernel
theorem dX11_isWithin_15 : decode cX11_isWithin 15 = .ok (.ireturn, 1) := by decide +kernel
theorem dX11_isPlace_0 : decode cX11_isPlace 0 = .ok (.iload_n 0, 1) := by decide +kernel
theorem dX11_isPlace_1 : decode cX11_isPlace 1 = .ok (.ifCond .lt 13, 3) := by decide +kernel
theorem dX11_isPlace_4 : decode cX11_isPlace 4 = .ok (.iload_n 0, 1) := by decide +kernel
theorem dX11_isPlace_5 : decode cX11_isPlace 5 = .ok (.bipush 10, 2) := by decide +kernel
theorem dX11_isPlace_7 : decode cX11_isPlace 7 = .ok (.if_icmp .ge 7, 3) := by decide +kernel
theorem dX11_isPlace_10 : decode cX11_isPlace 10 = .ok (.iconst 1, 1) := by decide +kernel
theorem dX11_isPlace_11 : decode cX11_isPlace 11 = .ok (.goto 4, 3) := by decide +kernel
theorem dX11_isPlace_14 : decode cX11_isPlace 14 = .ok (.iconst 0, 1) := by decide +kernel
theorem dX11_isPlace_15 : decode cX11_isPlace 15 = .ok (.ireturn, 1) := by decide +kernel
theorem dX11_isCarrier_0 : decode cX11_isCarrier 0 = .ok (.iload_n 0, 1) := by decide +kernel
theorem dX11_isCarrier_1 : decode cX11_isCarrier 1 = .ok (.ifCond .lt 12, 3) := by decide +kernel
theorem dX11_isCarrier_4 : decode cX11_isCarrier 4 = .ok (.iload_n 0, 1) := by decide +kernel
theorem dX11_isCarrier_5 : decode cX11_isCarrier 5 = .ok (.iconst 5, 1) := by decide +kernel
theorem dX11_isCarrier_6 : decode cX11_isCarrier 6 = .ok (.if_icmp .ge 7, 3) := by decide +kernel
theorem dX11_isCarrier_9 : decode cX11_isCarrier 9 = .ok (.iconst 1, 1) := by decide +kernel
theorem dX11_isCarrier_10 : decode cX11_isCarrier 10 = .ok (.goto 4, 3) := by decide +kernel
theorem dX11_isCarrier_13 : decode cX11_isCarrier 13 = .ok (.iconst 0, 1) := by decide +kernel
theorem dX11_isCarrier_14 : decode cX11_isCarrier 14 = .ok (.ireturn, 1) := by decide +kernel
theorem dX11_ticketAt_0 : decode cX11_ticketAt 0 = .ok (.iload_n 1, 1) := by decide +kernel
theorem dX11_ticketAt_1 : decode cX11_ticketAt 1 = .ok (.ifCond .lt 21, 3) := by decide +kernel
theorem dX11_ticketAt_4 : decode cX11_ticketAt 4 = .ok (.iload_n 1, 1) := by decide +kernel
theorem dX11_ticketAt_5 : decode cX11_ticketAt 5 = .ok (.aload_n 0, 1) := by decide +kernel
theorem dX11_ticketAt_6 : decode cX11_ticketAt 6 = .ok (.getfield 223, 3) := by decide +kernel
theorem dX11_ticketAt_9 : decode cX11_ticketAt 9 = .ok (.if_icmp .ge 13, 3) := by decide +kernel
theorem dX11_ticketAt_12 : decode cX11_ticketAt 12 = .ok (.iload_n 1, 1) := by decide +kernel
theorem dX11_ticketAt_13 : decode cX11_ticketAt 13 = .ok (.bipush 30, 2) := by decide +kernel
theorem dX11_ticketAt_15 : decode cX11_ticketAt 15 = .ok (.if_icmp .ge 7, 3) := by decide +kernel
theorem dX11_ticketAt_18 : decode cX11_ticketAt 18 = .ok (.iconst 1, 1) := by decide +kernel
theorem dX11_ticketAt_19 : decode cX11_ticketAt 19 = .ok (.goto 4, 3) := by decide +kernel
theorem dX11_ticketAt_22 : decode cX11_ticketAt 22 = .ok (.iconst 0, 1) := by decide +kernel
theorem dX11_ticketAt_23 : decode cX11_ticketAt 23 = .ok (.istore_n 2, 1) := by decide +kernel
theorem dX11_ticketAt_24 : decode cX11_ticketAt 24 = .ok (.iload_n 2, 1) := by decide +kernel
theorem dX11_ticketAt_25 : decode cX11_ticketAt 25 = .ok (.ifCond .eq 12, 3) := by decide +kernel
theorem dX11_ticketAt_28 : decode cX11_ticketAt 28 = .ok (.aload_n 0, 1) := by decide +kernel
theorem dX11_ticketAt_29 : decode cX11_ticketAt 29 = .ok (.getfield 46, 3) := by decide +kernel
theorem dX11_ticketAt_32 : decode cX11_ticketAt 32 = .ok (.iload_n 1, 1) := by decide +kernel
theorem dX11_ticketAt_33 : decode cX11_ticketAt 33 = .ok (.aaload, 1) := by decide +kernel
theorem dX11_ticketAt_34 : decode cX11_ticketAt 34 = .ok (.goto 4, 3) := by decide +kernel
theorem dX11_ticketAt_37 : decode cX11_ticketAt 37 = .ok (.aconst_null, 1) := by decide +kernel
theorem dX11_ticketAt_38 : decode cX11_ticketAt 38 = .ok (.areturn, 1) := by decide +kernel
theorem dX11_canBeIssued_0 : decode cX11_canBeIssued 0 = .ok (.aload_n 0, 1) := by decide +kernel
theorem dX11_canBeIssued_1 : decode cX11_canBeIssued 1 = .ok (.getfield 33, 3) := by decide +kernel
theorem dX11_canBeIssued_4 : decode cX11_canBeIssued 4 = .ok (.getfield 191, 3) := by decide +kernel
theorem dX11_canBeIssued_7 : decode cX11_canBeIssued 7 = .ok (.iconst (-1), 1) := by decide +kernel
theorem dX11_canBeIssued_8 : decode cX11_canBeIssued 8 = .ok (.if_icmp .eq 33, 3) := by decide +kernel
theorem dX11_canBeIssued_11 : decode cX11_canBeIssued 11 = .ok (.aload_n 0, 1) := by decide +kernel
theorem dX11_canBeIssued_12 : decode cX11_canBeIssued 12 = .ok (.getfield 26, 3) := by decide +kernel
theorem dX11_canBeIssued_15 : decode cX11_canBeIssued 15 = .ok (.aload_n 0, 1) := by decide +kernel
theorem dX11_canBeIssued_16 : decode cX11_canBeIssued 16 = .ok (.getfield 12, 3) := by decide +kernel
theorem dX11_canBeIssued_19 : decode cX11_canBeIssued 19 = .ok (.getfield 154, 3) := by decide +kernel
theorem dX11_canBeIssued_22 : decode cX11_canBeIssued 22 = .ok (.invokevirtual 381, 3) := by decide +kernel
theorem dX11_canBeIssued_25 : decode cX11_canBeIssued 25 = .ok (.ifCond .ne 16, 3) := by decide +kernel
theorem dX11_canBeIssued_28 : decode cX11_canBeIssued 28 = .ok (.aload_n 0, 1) := by decide +kernel
theorem dX11_canBeIssued_29 : decode cX11_canBeIssued 29 = .ok (.getfield 223, 3) := by decide +kernel
theorem dX11_canBeIssued_32 : decode cX11_canBeIssued 32 = .ok (.bipush 30, 2) := by decide +kernel
theorem dX11_canBeIssued_34 : decode cX11_canBeIssued 34 = .ok (.if_icmp .ge 7, 3) := by decide +kernel
theorem dX11_canBeIssued_37 : decode cX11_canBeIssued 37 = .ok (.iconst 1, 1) := by decide +kernel
theorem dX11_canBeIssued_38 : decode cX11_canBeIssued 38 = .ok (.goto 4, 3) := by decide +kernel
theorem dX11_canBeIssued_41 : decode cX11_canBeIssued 41 = .ok (.iconst 0, 1) := by decide +kernel
theorem dX11_canBeIssued_42 : decode cX11_canBeIssued 42 = .ok (.ireturn, 1) := by decide +kernel
theorem dX11_issued_0 : decode cX11_issued 0 = .ok (.new 44, 3) := by decide +kernel
theorem dX11_issued_3 : decode cX11_issued 3 = .ok (.dup, 1) := by decide +kernel
theorem dX11_issued_4 : decode cX11_issued 4 = .ok (.iload_n 1, 1) := by decide +kernel
theorem dX11_issued_5 : decode cX11_issued 5 = .ok (.aload_n 0, 1) := by decide +kernel
theorem dX11_issued_6 : decode cX11_issued 6 = .ok (.getfield 33, 3) := by decide +kernel
theorem dX11_issued_9 : decode cX11_issued 9 = .ok (.getfield 191, 3) := by decide +kernel
theorem dX11_issued_12 : decode cX11_issued 12 = .ok (.aload_n 0, 1) := by decide +kernel
theorem dX11_issued_13 : decode cX11_issued 13 = .ok (.getfield 33, 3) := by decide +kernel
theorem dX11_issued_16 : decode cX11_issued 16 = .ok (.getfield 198, 3) := by decide +kernel
theorem dX11_issued_19 : decode cX11_issued 19 = .ok (.invokespecial 384, 3) := by decide +kernel
theorem dX11_issued_22 : decode cX11_issued 22 = .ok (.astore_n 2, 1) := by decide +kernel
theorem dX11_issued_23 : decode cX11_issued 23 = .ok (.iconst 0, 1) := by decide +kernel
theorem dX11_issued_24 : decode cX11_issued 24 = .ok (.istore_n 3, 1) := by decide +kernel
theorem dX11_issued_25 : decode cX11_issued 25 = .ok (.iload_n 3, 1) := by decide +kernel
theorem dX11_issued_26 : decode cX11_issued 26 = .ok (.aload_n 0, 1) := by decide +kernel
theorem dX11_issued_27 : decode cX11_issued 27 = .ok (.getfield 26, 3) := by decide +kernel
theorem dX11_issued_30 : decode cX11_issued 30 = .ok (.getfield 376, 3) := by decide +kernel
theorem dX11_issued_33 : decode cX11_issued 33 = .ok (.if_icmp .ge 69, 3) := by decide +kernel
theorem dX11_issued_36 : decode cX11_issued 36 = .ok (.aload_n 0, 1) := by decide +kernel
theorem dX11_issued_37 : decode cX11_issued 37 = .ok (.getfield 26, 3) := by decide +kernel
theorem dX11_issued_40 : decode cX11_issued 40 = .ok (.iload_n 3, 1) := by decide +kernel
theorem dX11_issued_41 : decode cX11_issued 41 = .ok (.invokevirtual 386, 3) := by decide +kernel
theorem dX11_issued_44 : decode cX11_issued 44 = .ok (.astore 4, 2) := by decide +kernel
theorem dX11_issued_46 : decode cX11_issued 46 = .ok (.aload 4, 2) := by decide +kernel
theorem dX11_issued_48 : decode cX11_issued 48 = .ok (.ifnull 48, 3) := by decide +kernel
theorem dX11_issued_51 : decode cX11_issued 51 = .ok (.aload_n 2, 1) := by decide +kernel
theorem dX11_issued_52 : decode cX11_issued 52 = .ok (.new 236, 3) := by decide +kernel
theorem dX11_issued_55 : decode cX11_issued 55 = .ok (.dup, 1) := by decide +kernel
theorem dX11_issued_56 : decode cX11_issued 56 = .ok (.aload 4, 2) := by decide +kernel
theorem dX11_issued_58 : decode cX11_issued 58 = .ok (.aload_n 0, 1) := by decide +kernel
theorem dX11_issued_59 : decode cX11_issued 59 = .ok (.getfield 12, 3) := by decide +kernel
theorem dX11_issued_62 : decode cX11_issued 62 = .ok (.aload 4, 2) := by decide +kernel
theorem dX11_issued_64 : decode cX11_issued 64 = .ok (.getfield 390, 3) := by decide +kernel
theorem dX11_issued_67 : decode cX11_issued 67 = .ok (.iload_n 3, 1) := by decide +kernel
theorem dX11_issued_68 : decode cX11_issued 68 = .ok (.ifCond .eq 14, 3) := by decide +kernel
theorem dX11_issued_71 : decode cX11_issued 71 = .ok (.aload_n 0, 1) := by decide +kernel
theorem dX11_issued_72 : decode cX11_issued 72 = .ok (.getfield 26, 3) := by decide +kernel
theorem dX11_issued_75 : decode cX11_issued 75 = .ok (.iload_n 3, 1) := by decide +kernel
theorem dX11_issued_76 : decode cX11_issued 76 = .ok (.invokevirtual 393, 3) := by decide +kernel
theorem dX11_issued_79 : decode cX11_issued 79 = .ok (.ifCond .eq 7, 3) := by decide +kernel
theorem dX11_issued_82 : decode cX11_issued 82 = .ok (.iconst 1, 1) := by decide +kernel
theorem dX11_issued_83 : decode cX11_issued 83 = .ok (.goto 4, 3) := by decide +kernel
theorem dX11_issued_86 : decode cX11_issued 86 = .ok (.iconst 0, 1) := by decide +kernel
theorem dX11_issued_87 : decode cX11_issued 87 = .ok (.invokevirtual 396, 3) := by decide +kernel
theorem dX11_issued_90 : decode cX11_issued 90 = .ok (.invokespecial 400, 3) := by decide +kernel
theorem dX11_issued_93 : decode cX11_issued 93 = .ok (.invokevirtual 403, 3) := by decide +kernel
theorem dX11_issued_96 : decode cX11_issued 96 = .ok (.iinc 3 1, 3) := by decide +kernel
theorem dX11_issued_99 : decode cX11_issued 99 = .ok (.goto (-74), 3) := by decide +kernel
theorem dX11_issued_102 : decode cX11_issued 102 = .ok (.aload_n 0, 1) := by decide +kernel
theorem dX11_issued_103 : decode cX11_issued 103 = .ok (.aload_n 2, 1) := by decide +kernel
theorem dX11_issued_104 : decode cX11_issued 104 = .ok (.invokevirtual 406, 3) := by decide +kernel
theorem dX11_issued_107 : decode cX11_issued 107 = .ok (.aload_n 0, 1) := by decide +kernel
theorem dX11_issued_108 : decode cX11_issued 108 = .ok (.getfield 223, 3) := by decide +kernel
theorem dX11_issued_111 : decode cX11_issued 111 = .ok (.bipush 30, 2) := by decide +kernel
theorem dX11_issued_113 : decode cX11_issued 113 = .ok (.if_icmp .ge 23, 3) := by decide +kernel
theorem dX11_issued_116 : decode cX11_issued 116 = .ok (.aload_n 0, 1) := by decide +kernel
theorem dX11_issued_117 : decode cX11_issued 117 = .ok (.getfield 46, 3) := by decide +kernel
theorem dX11_issued_120 : decode cX11_issued 120 = .ok (.aload_n 0, 1) := by decide +kernel
theorem dX11_issued_121 : decode cX11_issued 121 = .ok (.getfield 223, 3) := by decide +kernel
theorem dX11_issued_124 : decode cX11_issued 124 = .ok (.aload_n 2, 1) := by decide +kernel
theorem dX11_issued_125 : decode cX11_issued 125 = .ok (.aastore, 1) := by decide +kernel
theorem dX11_issued_126 : decode cX11_issued 126 = .ok (.aload_n 0, 1) := by decide +kernel
theorem dX11_issued_127 : decode cX11_issued 127 = .ok (.dup, 1) := by decide +kernel
theorem dX11_issued_128 : decode cX11_issued 128 = .ok (.getfield 223, 3) := by decide +kernel
theorem dX11_issued_131 : decode cX11_issued 131 = .ok (.iconst 1, 1) := by decide +kernel
theorem dX11_issued_132 : decode cX11_issued 132 = .ok (.iadd, 1) := by decide +kernel
theorem dX11_issued_133 : decode cX11_issued 133 = .ok (.putfield 223, 3) := by decide +kernel
theorem dX11_issued_136 : decode cX11_issued 136 = .ok (.aload_n 0, 1) := by decide +kernel
theorem dX11_issued_137 : decode cX11_issued 137 = .ok (.getfield 26, 3) := by decide +kernel
theorem dX11_issued_140 : decode cX11_issued 140 = .ok (.invokevirtual 172, 3) := by decide +kernel
theorem dX11_issued_143 : decode cX11_issued 143 = .ok (.pop, 1) := by decide +kernel
theorem dX11_issued_144 : decode cX11_issued 144 = .ok (.aload_n 2, 1) := by decide +kernel
theorem dX11_issued_145 : decode cX11_issued 145 = .ok (.areturn, 1) := by decide +kernel
theorem dX11_shareOut_0 : decode cX11_shareOut 0 = .ok (.iconst 0, 1) := by decide +kernel
theorem dX11_shareOut_1 : decode cX11_shareOut 1 = .ok (.istore_n 2, 1) := by decide +kernel
theorem dX11_shareOut_2 : decode cX11_shareOut 2 = .ok (.iconst 1, 1) := by decide +kernel
theorem dX11_shareOut_3 : decode cX11_shareOut 3 = .ok (.istore_n 3, 1) := by decide +kernel
theorem dX11_shareOut_4 : decode cX11_shareOut 4 = .ok (.iload_n 3, 1) := by decide +kernel
theorem dX11_shareOut_5 : decode cX11_shareOut 5 = .ok (.aload_n 1, 1) := by decide +kernel
theorem dX11_shareOut_6 : decode cX11_shareOut 6 = .ok (.getfield 293, 3) := by decide +kernel
theorem dX11_shareOut_9 : decode cX11_shareOut 9 = .ok (.if_icmp .gt 74, 3) := by decide +kernel
theorem dX11_shareOut_12 : decode cX11_shareOut 12 = .ok (.iload_n 3, 1) := by decide +kernel
theorem dX11_shareOut_13 : decode cX11_shareOut 13 = .ok (.aload_n 1, 1) := by decide +kernel
theorem dX11_shareOut_14 : decode cX11_shareOut 14 = .ok (.getfield 293, 3) := by decide +kernel
theorem dX11_shareOut_17 : decode cX11_shareOut 17 = .ok (.if_icmp .eq 15, 3) := by decide +kernel
theorem dX11_shareOut_20 : decode cX11_shareOut 20 = .ok (.aload_n 1, 1) := by decide +kernel
theorem dX11_shareOut_21 : decode cX11_shareOut 21 = .ok (.getfield 345, 3) := by decide +kernel
theorem dX11_shareOut_24 : decode cX11_shareOut 24 = .ok (.iload_n 3, 1) := by decide +kernel
theorem dX11_shareOut_25 : decode cX11_shareOut 25 = .ok (.ishr, 1) := by decide +kernel
theorem dX11_shareOut_26 : decode cX11_shareOut 26 = .ok (.iconst 1, 1) := by decide +kernel
theorem dX11_shareOut_27 : decode cX11_shareOut 27 = .ok (.iand, 1) := by decide +kernel
theorem dX11_shareOut_28 : decode cX11_shareOut 28 = .ok (.iconst 1, 1) := by decide +kernel
theorem dX11_shareOut_29 : decode cX11_shareOut 29 = .ok (.if_icmp .ne 48, 3) := by decide +kernel
theorem dX11_shareOut_32 : decode cX11_shareOut 32 = .ok (.aload_n 0, 1) := by decide +kernel
theorem dX11_shareOut_33 : decode cX11_shareOut 33 = .ok (.getfield 26, 3) := by decide +kernel
theorem dX11_shareOut_36 : decode cX11_shareOut 36 = .ok (.aload_n 0, 1) := by decide +kernel
theorem dX11_shareOut_37 : decode cX11_shareOut 37 = .ok (.getfield 12, 3) := by decide +kernel
theorem dX11_shareOut_40 : decode cX11_shareOut 40 = .ok (.iload_n 2, 1) := by decide +kernel
theorem dX11_shareOut_41 : decode cX11_shareOut 41 = .ok (.iload_n 3, 1) := by decide +kernel
theorem dX11_shareOut_42 : decode cX11_shareOut 42 = .ok (.invokevirtual 183, 3) := by decide +kernel
theorem dX11_shareOut_45 : decode cX11_shareOut 45 = .ok (.istore 4, 2) := by decide +kernel
theorem dX11_shareOut_47 : decode cX11_shareOut 47 = .ok (.aload_n 1, 1) := by decide +kernel
theorem dX11_shareOut_48 : decode cX11_shareOut 48 = .ok (.dup, 1) := by decide +kernel
theorem dX11_shareOut_49 : decode cX11_shareOut 49 = .ok (.getfield 348, 3) := by decide +kernel
theorem dX11_shareOut_52 : decode cX11_shareOut 52 = .ok (.aload_n 0, 1) := by decide +kernel
theorem dX11_shareOut_53 : decode cX11_shareOut 53 = .ok (.getfield 19, 3) := by decide +kernel
theorem dX11_shareOut_56 : decode cX11_shareOut 56 = .ok (.aload_n 1, 1) := by decide +kernel
theorem dX11_shareOut_57 : decode cX11_shareOut 57 = .ok (.iload_n 2, 1) := by decide +kernel
theorem dX11_shareOut_58 : decode cX11_shareOut 58 = .ok (.iload_n 3, 1) := by decide +kernel
theorem dX11_shareOut_59 : decode cX11_shareOut 59 = .ok (.iload 4, 2) := by decide +kernel
theorem dX11_shareOut_61 : decode cX11_shareOut 61 = .ok (.aload_n 0, 1) := by decide +kernel
theorem dX11_shareOut_62 : decode cX11_shareOut 62 = .ok (.getfield 12, 3) := by decide +kernel
theorem dX11_shareOut_65 : decode cX11_shareOut 65 = .ok (.getfield 77, 3) := by decide +kernel
theorem dX11_shareOut_68 : decode cX11_shareOut 68 = .ok (.invokevirtual 410, 3) := by decide +kernel
theorem dX11_shareOut_71 : decode cX11_shareOut 71 = .ok (.iadd, 1) := by decide +kernel
theorem dX11_shareOut_72 : decode cX11_shareOut 72 = .ok (.putfield 348, 3) := by decide +kernel
theorem dX11_shareOut_75 : decode cX11_shareOut 75 = .ok (.iload_n 3, 1) := by decide +kernel
theorem dX11_shareOut_76 : decode cX11_shareOut 76 = .ok (.istore_n 2, 1) := by decide +kernel
theorem dX11_shareOut_77 : decode cX11_shareOut 77 = .ok (.iinc 3 1, 3) := by decide +kernel
theorem dX11_shareOut_80 : decode cX11_shareOut 80 = .ok (.goto (-76), 3) := by decide +kernel
theorem dX11_shareOut_83 : decode cX11_shareOut 83 = .ok (.return_, 1) := by decide +kernel
theorem dX11_receive_0 : decode cX11_receive 0 = .ok (.aload_n 1, 1) := by decide +kernel
theorem dX11_receive_1 : decode cX11_receive 1 = .ok (.dup, 1) := by decide +kernel
theorem dX11_receive_2 : decode cX11_receive 2 = .ok (.getfield 366, 3) := by decide +kernel
theorem dX11_receive_5 : decode cX11_receive 5 = .ok (.iload_n 2, 1) := by decide +kernel
theorem dX11_receive_6 : decode cX11_receive 6 = .ok (.i2l, 1) := by decide +kernel
theorem dX11_receive_7 : decode cX11_receive 7 = .ok (.ladd, 1) := by decide +kernel
theorem dX11_receive_8 : decode cX11_receive 8 = .ok (.putfield 366, 3) := by decide +kernel
theorem dX11_receive_11 : decode cX11_receive 11 = .ok (.aload_n 0, 1) := by decide +kernel
theorem dX11_receive_12 : decode cX11_receive 12 = .ok (.dup, 1) := by decide +kernel
theorem dX11_receive_13 : decode cX11_receive 13 = .ok (.getfield 373, 3) := by decide +kernel
theorem dX11_receive_16 : decode cX11_receive 16 = .ok (.iload_n 2, 1) := by decide +kernel
theorem dX11_receive_17 : decode cX11_receive 17 = .ok (.i2l, 1) := by decide +kernel
theorem dX11_receive_18 : decode cX11_receive 18 = .ok (.ladd, 1) := by decide +kernel
theorem dX11_receive_19 : decode cX11_receive 19 = .ok (.putfield 373, 3) := by decide +kernel
theorem dX11_receive_22 : decode cX11_receive 22 = .ok (.aload_n 0, 1) := by decide +kernel
theorem dX11_receive_23 : decode cX11_receive 23 = .ok (.aload_n 1, 1) := by decide +kernel
theorem dX11_receive_24 : decode cX11_receive 24 = .ok (.getfield 249, 3) := by decide +kernel
theorem dX11_receive_27 : decode cX11_receive 27 = .ok (.iload_n 2, 1) := by decide +kernel
theorem dX11_receive_28 : decode cX11_receive 28 = .ok (.i2l, 1) := by decide +kernel
theorem dX11_receive_29 : decode cX11_receive 29 = .ok (.invokevirtual 255, 3) := by decide +kernel
theorem dX11_receive_32 : decode cX11_receive 32 = .ok (.return_, 1) := by decide +kernel
theorem dX11_addCash_0 : decode cX11_addCash 0 = .ok (.iload_n 1, 1) := by decide +kernel
theorem dX11_addCash_1 : decode cX11_addCash 1 = .ok (.invokestatic 136, 3) := by decide +kernel
theorem dX11_addCash_4 : decode cX11_addCash 4 = .ok (.ifCond .eq 13, 3) := by decide +kernel
theorem dX11_addCash_7 : decode cX11_addCash 7 = .ok (.aload_n 0, 1) := by decide +kernel
theorem dX11_addCash_8 : decode cX11_addCash 8 = .ok (.getfield 50, 3) := by decide +kernel
theorem dX11_addCash_11 : decode cX11_addCash 11 = .ok (.iload_n 1, 1) := by decide +kernel
theorem dX11_addCash_12 : decode cX11_addCash 12 = .ok (.dup2, 1) := by decide +kernel
theorem dX11_addCash_13 : decode cX11_addCash 13 = .ok (.laload, 1) := by decide +kernel
theorem dX11_addCash_14 : decode cX11_addCash 14 = .ok (.lload_n 2, 1) := by decide +kernel
theorem dX11_addCash_15 : decode cX11_addCash 15 = .ok (.ladd, 1) := by decide +kernel
theorem dX11_addCash_16 : decode cX11_addCash 16 = .ok (.lastore, 1) := by decide +kernel
theorem dX11_addCash_17 : decode cX11_addCash 17 = .ok (.return_, 1) := by decide +kernel
theorem dX11_moveNets_0 : decode cX11_moveNets 0 = .ok (.iconst 0, 1) := by decide +kernel
theorem dX11_moveNets_1 : decode cX11_moveNets 1 = .ok (.istore_n 1, 1) := by decide +kernel
theorem dX11_moveNets_2 : decode cX11_moveNets 2 = .ok (.iload_n 1, 1) := by decide +kernel
theorem dX11_moveNets_3 : decode cX11_moveNets 3 = .ok (.iconst 5, 1) := by decide +kernel
theorem dX11_moveNets_4 : decode cX11_moveNets 4 = .ok (.if_icmp .ge 22, 3) := by decide +kernel
theorem dX11_moveNets_7 : decode cX11_moveNets 7 = .ok (.aload_n 0, 1) := by decide +kernel
theorem dX11_moveNets_8 : decode cX11_moveNets 8 = .ok (.iload_n 1, 1) := by decide +kernel
theorem dX11_moveNets_9 : decode cX11_moveNets 9 = .ok (.aload_n 0, 1) := by decide +kernel
theorem dX11_moveNets_10 : decode cX11_moveNets 10 = .ok (.getfield 40, 3) := by decide +kernel
theorem dX11_moveNets_13 : decode cX11_moveNets 13 = .ok (.iload_n 1, 1) := by decide +kernel
theorem dX11_moveNets_14 : decode cX11_moveNets 14 = .ok (.invokevirtual 413, 3) := by decide +kernel
theorem dX11_moveNets_17 : decode cX11_moveNets 17 = .ok (.invokevirtual 255, 3) := by decide +kernel
theorem dX11_moveNets_20 : decode cX11_moveNets 20 = .ok (.iinc 1 1, 3) := by decide +kernel
theorem dX11_moveNets_23 : decode cX11_moveNets 23 = .ok (.goto (-21), 3) := by decide +kernel
theorem dX11_moveNets_26 : decode cX11_moveNets 26 = .ok (.return_, 1) := by decide +kernel
theorem dX12_init_0 : decode cX12_init 0 = .ok (.aload_n 0, 1) := by decide +kernel
theorem dX12_init_1 : decode cX12_init 1 = .ok (.invokespecial 1, 3) := by decide +kernel
theorem dX12_init_4 : decode cX12_init 4 = .ok (.aload_n 0, 1) := by decide +kernel
theorem dX12_init_5 : decode cX12_init 5 = .ok (.bipush 100, 2) := by decide +kernel
theorem dX12_init_7 : decode cX12_init 7 = .ok (.newarray .int, 2) := by decide +kernel
theorem dX12_init_9 : decode cX12_init 9 = .ok (.putfield 7, 3) := by decide +kernel
theorem dX12_init_12 : decode cX12_init 12 = .ok (.aload_n 0, 1) := by decide +kernel
theorem dX12_init_13 : decode cX12_init 13 = .ok (.bipush 100, 2) := by decide +kernel
theorem dX12_init_15 : decode cX12_init 15 = .ok (.newarray .int, 2) := by decide +kernel
theorem dX12_init_17 : decode cX12_init 17 = .ok (.putfield 13, 3) := by decide +kernel
theorem dX12_init_20 : decode cX12_init 20 = .ok (.aload_n 0, 1) := by decide +kernel
theorem dX12_init_21 : decode cX12_init 21 = .ok (.sipush 500, 3) := by decide +kernel
theorem dX12_init_24 : decode cX12_init 24 = .ok (.newarray .int, 2) := by decide +kernel
theorem dX12_init_26 : decode cX12_init 26 = .ok (.putfield 16, 3) := by decide +kernel
theorem dX12_init_29 : decode cX12_init 29 = .ok (.aload_n 0, 1) := by decide +kernel
theorem dX12_init_30 : decode cX12_init 30 = .ok (.bipush 10, 2) := by decide +kernel
theorem dX12_init_32 : decode cX12_init 32 = .ok (.newarray .int, 2) := by decide +kernel
theorem dX12_init_34 : decode cX12_init 34 = .ok (.putfield 19, 3) := by decide +kernel
theorem dX12_init_37 : decode cX12_init 37 = .ok (.aload_n 0, 1) := by decide +kernel
theorem dX12_init_38 : decode cX12_init 38 = .ok (.bipush 10, 2) := by decide +kernel
theorem dX12_init_40 : decode cX12_init 40 = .ok (.newarray .int, 2) := by decide +kernel
theorem dX12_init_42 : decode cX12_init 42 = .ok (.putfield 22, 3) := by decide +kernel
theorem dX12_init_45 : decode cX12_init 45 = .ok (.aload_n 0, 1) := by decide +kernel
theorem dX12_init_46 : decode cX12_init 46 = .ok (.bipush 40, 2) := by decide +kernel
theorem dX12_init_48 : decode cX12_init 48 = .ok (.newarray .int, 2) := by decide +kernel
theorem dX12_init_50 : decode cX12_init 50 = .ok (.putfield 25, 3) := by decide +kernel
theorem dX12_init_53 : decode cX12_init 53 = .ok (.aload_n 0, 1) := by decide +kernel
theorem dX12_init_54 : decode cX12_init 54 = .ok (.bipush 40, 2) := by decide +kernel
theorem dX12_init_56 : decode cX12_init 56 = .ok (.newarray .int, 2) := by decide +kernel
theorem dX12_init_58 : decode cX12_init 58 = .ok (.putfield 28, 3) := by decide +kernel
theorem dX12_init_61 : decode cX12_init 61 = .ok (.aload_n 0, 1) := by decide +kernel
theorem dX12_init_62 : decode cX12_init 62 = .ok (.bipush 40, 2) := by decide +kernel
theorem dX12_init_64 : decode cX12_init 64 = .ok (.newarray .int, 2) := by decide +kernel
theorem dX12_init_66 : decode cX12_init 66 = .ok (.putfield 31, 3) := by decide +kernel
theorem dX12_init_69 : decode cX12_init 69 = .ok (.aload_n 0, 1) := by decide +kernel
theorem dX12_init_70 : decode cX12_init 70 = .ok (.bipush 40, 2) := by decide +kernel
theorem dX12_init_72 : decode cX12_init 72 = .ok (.newarray .int, 2) := by decide +kernel
theorem dX12_init_74 : decode cX12_init 74 = .ok (.putfield 34, 3) := by decide +kernel
theorem dX12_init_77 : decode cX12_init 77 = .ok (.aload_n 0, 1) := by decide +kernel
theorem dX12_init_78 : decode cX12_init 78 = .ok (.bipush 40, 2) := by decide +kernel
theorem dX12_init_80 : decode cX12_init 80 = .ok (.newarray .int, 2) := by decide +kernel
theorem dX12_init_82 : decode cX12_init 82 = .ok (.putfield 37, 3) := by decide +kernel
theorem dX12_init_85 : decode cX12_init 85 = .ok (.aload_n 0, 1) := by decide +kernel
theorem dX12_init_86 : decode cX12_init 86 = .ok (.bipush 40, 2) := by decide +kernel
theorem dX12_init_88 : decode cX12_init 88 = .ok (.newarray .int, 2) := by decide +kernel
theorem dX12_init_90 : decode cX12_init 90 = .ok (.putfield 40, 3) := by decide +kernel
theorem dX12_init_93 : decode cX12_init 93 = .ok (.aload_n 0, 1) := by decide +kernel
theorem dX12_init_94 : decode cX12_init 94 = .ok (.bipush 40, 2) := by decide +kernel
theorem dX12_init_96 : decode cX12_init 96 = .ok (.newarray .boolean, 2) := by decide +kernel
theorem dX12_init_98 : decode cX12_init 98 = .ok (.putfield 43, 3) := by decide +kernel
theorem dX12_init_101 : decode cX12_init 101 = .ok (.aload_n 0, 1) := by decide +kernel
theorem dX12_init_102 : decode cX12_init 102 = .ok (.bipush 8, 2) := by decide +kernel
theorem dX12_init_104 : decode cX12_init 104 = .ok (.newarray .int, 2) := by decide +kernel
theorem dX12_init_106 : decode cX12_init 106 = .ok (.putfield 47, 3) := by decide +kernel
theorem dX12_init_109 : decode cX12_init 109 = .ok (.aload_n 0, 1) := by decide +kernel
theorem dX12_init_110 : decode cX12_init 110 = .ok (.bipush 8, 2) := by decide +kernel
theorem dX12_init_112 : decode cX12_init 112 = .ok (.newarray .int, 2) := by decide +kernel
theorem dX12_init_114 : decode cX12_init 114 = .ok (.putfield 50, 3) := by decide +kernel
theorem dX12_init_117 : decode cX12_init 117 = .ok (.aload_n 0, 1) := by decide +kernel
theorem dX12_init_118 : decode cX12_init 118 = .ok (.bipush 8, 2) := by decide +kernel
theorem dX12_init_120 : decode cX12_init 120 = .ok (.newarray .int, 2) := by decide +kernel
theorem dX12_init_122 : decode cX12_init 122 = .ok (.putfield 53, 3) := by decide +kernel
theorem dX12_init_125 : decode cX12_init 125 = .ok (.aload_n 0, 1) := by decide +kernel
theorem dX12_init_126 : decode cX12_init 126 = .ok (.bipush 8, 2) := by decide +kernel
theorem dX12_init_128 : decode cX12_init 128 = .ok (.newarray .int, 2) := by decide +kernel
theorem dX12_init_130 : decode cX12_init 130 = .ok (.putfield 56, 3) := by decide +kernel
theorem dX12_init_133 : decode cX12_init 133 = .ok (.aload_n 0, 1) := by decide +kernel
theorem dX12_init_134 : decode cX12_init 134 = .ok (.bipush 30, 2) := by decide +kernel
theorem dX12_init_136 : decode cX12_init 136 = .ok (.newarray .int, 2) := by decide +kernel
theorem dX12_init_138 : decode cX12_init 138 = .ok (.putfield 59, 3) := by decide +kernel
theorem dX12_init_141 : decode cX12_init 141 = .ok (.aload_n 0, 1) := by decide +kernel
theorem dX12_init_142 : decode cX12_init 142 = .ok (.bipush 30, 2) := by decide +kernel
theorem dX12_init_144 : decode cX12_init 144 = .ok (.newarray .int, 2) := by decide +kernel
theorem dX12_init_146 : decode cX12_init 146 = .ok (.putfield 62, 3) := by decide +kernel
theorem dX12_init_149 : decode cX12_init 149 = .ok (.aload_n 0, 1) := by decide +kernel
theorem dX12_init_150 : decode cX12_init 150 = .ok (.bipush 30, 2) := by decide +kernel
theorem dX12_init_152 : decode cX12_init 152 = .ok (.newarray .int, 2) := by decide +kernel
theorem dX12_init_154 : decode cX12_init 154 = .ok (.putfield 65, 3) := by decide +kernel
theorem dX12_init_157 : decode cX12_init 157 = .ok (.aload_n 0, 1) := by decide +kernel
theorem dX12_init_158 : decode cX12_init 158 = .ok (.bipush 30, 2) := by decide +kernel
theorem dX12_init_160 : decode cX12_init 160 = .ok (.newarray .int, 2) := by decide +kernel
theorem dX12_init_162 : decode cX12_init 162 = .ok (.putfield 68, 3) := by decide +kernel
theorem dX12_init_165 : decode cX12_init 165 = .ok (.aload_n 0, 1) := by decide +kernel
theorem dX12_init_166 : decode cX12_init 166 = .ok (.bipush 30, 2) := by decide +kernel
theorem dX12_init_168 : decode cX12_init 168 = .ok (.newarray .int, 2) := by decide +kernel
theorem dX12_init_170 : decode cX12_init 170 = .ok (.putfield 71, 3) := by decide +kernel
theorem dX12_init_173 : decode cX12_init 173 = .ok (.aload_n 0, 1) := by decide +kernel
theorem dX12_init_174 : decode cX12_init 174 = .ok (.sipush 240, 3) := by decide +kernel
theorem dX12_init_177 : decode cX12_init 177 = .ok (.newarray .int, 2) := by decide +kernel
theorem dX12_init_179 : decode cX12_init 179 = .ok (.putfield 74, 3) := by decide +kernel
theorem dX12_init_182 : decode cX12_init 182 = .ok (.aload_n 0, 1) := by decide +kernel
theorem dX12_init_183 : decode cX12_init 183 = .ok (.sipush 240, 3) := by decide +kernel
theorem dX12_init_186 : decode cX12_init 186 = .ok (.newarray .int, 2) := by decide +kernel
theorem dX12_init_188 : decode cX12_init 188 = .ok (.putfield 77, 3) := by decide +kernel
theorem dX12_init_191 : decode cX12_init 191 = .ok (.aload_n 0, 1) := by decide +kernel
theorem dX12_init_192 : decode cX12_init 192 = .ok (.sipush 240, 3) := by decide +kernel
theorem dX12_init_195 : decode cX12_init 195 = .ok (.newarray .int, 2) := by decide +kernel
theorem dX12_init_197 : decode cX12_init 197 = .ok (.putfield 80, 3) := by decide +kernel
theorem dX12_init_200 : decode cX12_init 200 = .ok (.aload_n 0, 1) := by decide +kernel
theorem dX12_init_201 : decode cX12_init 201 = .ok (.sipush 240, 3) := by decide +kernel
theorem dX12_init_204 : decode cX12_init 204 = .ok (.newarray .int, 2) := by decide +kernel
theorem dX12_init_206 : decode cX12_init 206 = .ok (.putfield 83, 3) := by decide +kernel
theorem dX12_init_209 : decode cX12_init 209 = .ok (.aload_n 0, 1) := by decide +kernel
theorem dX12_init_210 : decode cX12_init 210 = .ok (.sipush 240, 3) := by decide +kernel
theorem dX12_init_213 : decode cX12_init 213 = .ok (.newarray .int, 2) := by decide +kernel
theorem dX12_init_215 : decode cX12_init 215 = .ok (.putfield 86, 3) := by decide +kernel
theorem dX12_init_218 : decode cX12_init 218 = .ok (.aload_n 0, 1) := by decide +kernel
theorem dX12_init_219 : decode cX12_init 219 = .ok (.sipush 240, 3) := by decide +kernel
theorem dX12_init_222 : decode cX12_init 222 = .ok (.newarray .int, 2) := by decide +kernel
theorem dX12_init_224 : decode cX12_init 224 = .ok (.putfield 89, 3) := by decide +kernel
theorem dX12_init_227 : decode cX12_init 227 = .ok (.aload_n 0, 1) := by decide +kernel
theorem dX12_init_228 : decode cX12_init 228 = .ok (.sipush 240, 3) := by decide +kernel
theorem dX12_init_231 : decode cX12_init 231 = .ok (.newarray .int, 2) := by decide +kernel
theorem dX12_init_233 : decode cX12_init 233 = .ok (.putfield 92, 3) := by decide +kernel
theorem dX12_init_236 : decode cX12_init 236 = .ok (.aload_n 0, 1) := by decide +kernel
theorem dX12_init_237 : decode cX12_init 237 = .ok (.sipush 240, 3) := by decide +kernel
theorem dX12_init_240 : decode cX12_init 240 = .ok (.newarray .int, 2) := by decide +kernel
theorem dX12_init_242 : decode cX12_init 242 = .ok (.putfield 95, 3) := by decide +kernel
theorem dX12_init_245 : decode cX12_init 245 = .ok (.aload_n 0, 1) := by decide +kernel
theorem dX12_init_246 : decode cX12_init 246 = .ok (.sipush 240, 3) := by decide +kernel
theorem dX12_init_249 : decode cX12_init 249 = .ok (.newarray .int, 2) := by decide +kernel
theorem dX12_init_251 : decode cX12_init 251 = .ok (.putfield 98, 3) := by decide +kernel
theorem dX12_init_254 : decode cX12_init 254 = .ok (.aload_n 0, 1) := by decide +kernel
theorem dX12_init_255 : decode cX12_init 255 = .ok (.sipush 240, 3) := by decide +kernel
theorem dX12_init_258 : decode cX12_init 258 = .ok (.newarray .int, 2) := by decide +kernel
theorem dX12_init_260 : decode cX12_init 260 = .ok (.putfield 101, 3) := by decide +kernel
theorem dX12_init_263 : decode cX12_init 263 = .ok (.aload_n 0, 1) := by decide +kernel
theorem dX12_init_264 : decode cX12_init 264 = .ok (.sipush 240, 3) := by decide +kernel
theorem dX12_init_267 : decode cX12_init 267 = .ok (.newarray .int, 2) := by decide +kernel
theorem dX12_init_269 : decode cX12_init 269 = .ok (.putfield 104, 3) := by decide +kernel
theorem dX12_init_272 : decode cX12_init 272 = .ok (.aload_n 0, 1) := by decide +kernel
theorem dX12_init_273 : decode cX12_init 273 = .ok (.sipush 240, 3) := by decide +kernel
theorem dX12_init_276 : decode cX12_init 276 = .ok (.newarray .int, 2) := by decide +kernel
theorem dX12_init_278 : decode cX12_init 278 = .ok (.putfield 107, 3) := by decide +kernel
theorem dX12_init_281 : decode cX12_init 281 = .ok (.aload_n 0, 1) := by decide +kernel
theorem dX12_init_282 : decode cX12_init 282 = .ok (.sipush 240, 3) := by decide +kernel
theorem dX12_init_285 : decode cX12_init 285 = .ok (.newarray .int, 2) := by decide +kernel
theorem dX12_init_287 : decode cX12_init 287 = .ok (.putfield 110, 3) := by decide +kernel
theorem dX12_init_290 : decode cX12_init 290 = .ok (.aload_n 0, 1) := by decide +kernel
theorem dX12_init_291 : decode cX12_init 291 = .ok (.iconst 5, 1) := by decide +kernel
theorem dX12_init_292 : decode cX12_init 292 = .ok (.newarray .boolean, 2) := by decide +kernel
theorem dX12_init_294 : decode cX12_init 294 = .ok (.putfield 113, 3) := by decide +kernel
theorem dX12_init_297 : decode cX12_init 297 = .ok (.aload_n 0, 1) := by decide +kernel
theorem dX12_init_298 : decode cX12_init 298 = .ok (.iconst 5, 1) := by decide +kernel
theorem dX12_init_299 : decode cX12_init 299 = .ok (.newarray .long, 2) := by decide +kernel
theorem dX12_init_301 : decode cX12_init 301 = .ok (.putfield 116, 3) := by decide +kernel
theorem dX12_init_304 : decode cX12_init 304 = .ok (.aload_n 0, 1) := by decide +kernel
theorem dX12_init_305 : decode cX12_init 305 = .ok (.iconst 5, 1) := by decide +kernel
theorem dX12_init_306 : decode cX12_init 306 = .ok (.newarray .long, 2) := by decide +kernel
theorem dX12_init_308 : decode cX12_init 308 = .ok (.putfield 120, 3) := by decide +kernel
theorem dX12_init_311 : decode cX12_init 311 = .ok (.aload_n 0, 1) := by decide +kernel
theorem dX12_init_312 : decode cX12_init 312 = .ok (.bipush 10, 2) := by decide +kernel
theorem dX12_init_314 : decode cX12_init 314 = .ok (.newarray .long, 2) := by decide +kernel
theorem dX12_init_316 : decode cX12_init 316 = .ok (.putfield 123, 3) := by decide +kernel
theorem dX12_init_319 : decode cX12_init 319 = .ok (.aload_n 0, 1) := by decide +kernel
theorem dX12_init_320 : decode cX12_init 320 = .ok (.iconst 1, 1) := by decide +kernel
theorem dX12_init_321 : decode cX12_init 321 = .ok (.putfield 126, 3) := by decide +kernel
theorem dX12_init_324 : decode cX12_init 324 = .ok (.return_, 1) := by decide +kernel
theorem dX12_thrown_0 : decode cX12_thrown 0 = .ok (.aload_n 0, 1) := by decide +kernel
theorem dX12_thrown_1 : decode cX12_thrown 1 = .ok (.getfield 130, 3) := by decide +kernel
theorem dX12_thrown_4 : decode cX12_thrown 4 = .ok (.ireturn, 1) := by decide +kernel
theorem dX12_in_0 : decode cX12_in 0 = .ok (.iload_n 0, 1) := by decide +kernel
theorem dX12_in_1 : decode cX12_in 1 = .ok (.iload_n 1, 1) := by decide +kernel
theorem dX12_in_2 : decode cX12_in 2 = .ok (.if_icmp .lt 12, 3) := by decide +kernel
theorem dX12_in_5 : decode cX12_in 5 = .ok (.iload_n 0, 1) := by decide +kernel
theorem dX12_in_6 : decode cX12_in 6 = .ok (.iload_n 2, 1) := by decide +kernel
theorem dX12_in_7 : decode cX12_in 7 = .ok (.if_icmp .gt 7, 3) := by decide +kernel
theorem dX12_in_10 : decode cX12_in 10 = .ok (.iconst 1, 1) := by decide +kernel
theorem dX12_in_11 : decode cX12_in 11 = .ok (.goto 4, 3) := by decide +kernel
theorem dX12_in_14 : decode cX12_in 14 = .ok (.iconst 0, 1) := by decide +kernel
theorem dX12_in_15 : decode cX12_in 15 = .ok (.ireturn, 1) := by decide +kernel
theorem dX12_goes_0 : decode cX12_goes 0 = .ok (.aload_n 0, 1) := by decide +kernel
theorem dX12_goes_1 : decode cX12_goes 1 = .ok (.iload_n 1, 1) := by decide +kernel
theorem dX12_goes_2 : decode cX12_goes 2 = .ok (.ifCond .ne 7, 3) := by decide +kernel
theorem dX12_goes_5 : decode cX12_goes 5 = .ok (.iconst 1, 1) := by decide +kernel
theorem dX12_goes_6 : decode cX12_goes 6 = .ok (.goto 20, 3) := by decide +kernel
theorem dX12_goes_9 : decode cX12_goes 9 = .ok (.iload_n 2, 1) := by decide +kernel
theorem dX12_goes_10 : decode cX12_goes 10 = .ok (.ifCond .ne 7, 3) := by decide +kernel
theorem dX12_goes_13 : decode cX12_goes 13 = .ok (.iconst 2, 1) := by decide +kernel
theorem dX12_goes_14 : decode cX12_goes 14 = .ok (.goto 12, 3) := by decide +kernel
theorem dX12_goes_17 : decode cX12_goes 17 = .ok (.iload_n 3, 1) := by decide +kernel
theorem dX12_goes_18 : decode cX12_goes 18 = .ok (.ifCond .ne 7, 3) := by decide +kernel
theorem dX12_goes_21 : decode cX12_goes 21 = .ok (.iconst 3, 1) := by decide +kernel
theorem dX12_goes_22 : decode cX12_goes 22 = .ok (.goto 4, 3) := by decide +kernel
theorem dX12_goes_25 : decode cX12_goes 25 = .ok (.iconst 0, 1) := by decide +kernel
theorem dX12_goes_26 : decode cX12_goes 26 = .ok (.putfield 130, 3) := by decide +kernel
theorem dX12_goes_29 : decode cX12_goes 29 = .ok (.aload_n 0, 1) := by decide +kernel
theorem dX12_goes_30 : decode cX12_goes 30 = .ok (.getfield 130, 3) := by decide +kernel
theorem dX12_goes_33 : decode cX12_goes 33 = .ok (.ifCond .ne 7, 3) := by decide +kernel
theorem dX12_goes_36 : decode cX12_goes 36 = .ok (.iconst 1, 1) := by decide +kernel
theorem dX12_goes_37 : decode cX12_goes 37 = .ok (.goto 4, 3) := by decide +kernel
theorem dX12_goes_40 : decode cX12_goes 40 = .ok (.iconst 0, 1) := by decide +kernel
theorem dX12_goes_41 : decode cX12_goes 41 = .ok (.ireturn, 1) := by decide +kernel
theorem dX12_isPlace_0 : decode cX12_isPlace 0 = .ok (.iload_n 0, 1) := by decide +kernel
theorem dX12_isPlace_1 : decode cX12_isPlace 1 = .ok (.iconst 0, 1) := by decide +kernel
theorem dX12_isPlace_2 : decode cX12_isPlace 2 = .ok (.bipush 9, 2) := by decide +kernel
theorem dX12_isPlace_4 : decode cX12_isPlace 4 = .ok (.invokestatic 133, 3) := by decide +kernel
theorem dX12_isPlace_7 : decode cX12_isPlace 7 = .ok (.ireturn, 1) := by decide +kernel
theorem dX12_isCarrier_0 : decode cX12_isCarrier 0 = .ok (.iload_n 0, 1) := by decide +kernel
theorem dX12_isCarrier_1 : decode cX12_isCarrier 1 = .ok (.iconst 0, 1) := by decide +kernel
theorem dX12_isCarrier_2 : decode cX12_isCarrier 2 = .ok (.iconst 4, 1) := by decide +kernel
theorem dX12_isCarrier_3 : decode cX12_isCarrier 3 = .ok (.invokestatic 133, 3) := by decide +kernel
theorem dX12_isCarrier_6 : decode cX12_isCarrier 6 = .ok (.ireturn, 1) := by decide +kernel
theorem dX12_miles_0 : decode cX12_miles 0 = .ok (.aload_n 0, 1) := by decide +kernel
theorem dX12_miles_1 : decode cX12_miles 1 = .ok (.iload_n 1, 1) := by decide +kernel
theorem dX12_miles_2 : decode cX12_miles 2 = .ok (.invokestatic 137, 3) := by decide +kernel
theorem dX12_miles_5 : decode cX12_miles 5 = .ok (.ifCond .eq 14, 3) := by decide +kernel
theorem dX12_miles_8 : decode cX12_miles 8 = .ok (.iload_n 2, 1) := by decide +kernel
theorem dX12_miles_9 : decode cX12_miles 9 = .ok (.invokestatic 137, 3) := by decide +kernel
theorem dX12_miles_12 : decode cX12_miles 12 = .ok (.ifCond .eq 7, 3) := by decide +kernel
theorem dX12_miles_15 : decode cX12_miles 15 = .ok (.iconst 1, 1) := by decide +kernel
theorem dX12_miles_16 : decode cX12_miles 16 = .ok (.goto 4, 3) := by decide +kernel
theorem dX12_miles_19 : decode cX12_miles 19 = .ok (.iconst 0, 1) := by decide +kernel
theorem dX12_miles_20 : decode cX12_miles 20 = .ok (.iload_n 1, 1) := by decide +kernel
theorem dX12_miles_21 : decode cX12_miles 21 = .ok (.iload_n 2, 1) := by decide +kernel
theorem dX12_miles_22 : decode cX12_miles 22 = .ok (.if_icmp .eq 18, 3) := by decide +kernel
theorem dX12_miles_25 : decode cX12_miles 25 = .ok (.iload_n 3, 1) := by decide +kernel
theorem dX12_miles_26 : decode cX12_miles 26 = .ok (.iconst 1, 1) := by decide +kernel
theorem dX12_miles_27 : decode cX12_miles 27 = .ok (.sipush 9999, 3) := by decide +kernel
theorem dX12_miles_30 : decode cX12_miles 30 = .ok (.invokestatic 133, 3) := by decide +kernel
theorem dX12_miles_33 : decode cX12_miles 33 = .ok (.ifCond .eq 7, 3) := by decide +kernel
theorem dX12_miles_36 : decode cX12_miles 36 = .ok (.iconst 1, 1) := by decide +kernel
theorem dX12_miles_37 : decode cX12_miles 37 = .ok (.goto 4, 3) := by decide +kernel
theorem dX12_miles_40 : decode cX12_miles 40 = .ok (.iconst 0, 1) := by decide +kernel
theorem dX12_miles_41 : decode cX12_miles 41 = .ok (.iconst 1, 1) := by decide +kernel
theorem dX12_miles_42 : decode cX12_miles 42 = .ok (.invokevirtual 141, 3) := by decide +kernel
theorem dX12_miles_45 : decode cX12_miles 45 = .ok (.ifCond .ne 5, 3) := by decide +kernel
theorem dX12_miles_48 : decode cX12_miles 48 = .ok (.iconst 0, 1) := by decide +kernel
theorem dX12_miles_49 : decode cX12_miles 49 = .ok (.ireturn, 1) := by decide +kernel
theorem dX12_miles_50 : decode cX12_miles 50 = .ok (.aload_n 0, 1) := by decide +kernel
theorem dX12_miles_51 : decode cX12_miles 51 = .ok (.getfield 7, 3) := by decide +kernel
theorem dX12_miles_54 : decode cX12_miles 54 = .ok (.bipush 10, 2) := by decide +kernel
theorem dX12_miles_56 : decode cX12_miles 56 = .ok (.iload_n 1, 1) := by decide +kernel
theorem dX12_miles_57 : decode cX12_miles 57 = .ok (.imul, 1) := by decide +kernel
theorem dX12_miles_58 : decode cX12_miles 58 = .ok (.iload_n 2, 1) := by decide +kernel
theorem dX12_miles_59 : decode cX12_miles 59 = .ok (.iadd, 1) := by decide +kernel
theorem dX12_miles_60 : decode cX12_miles 60 = .ok (.iaload, 1) := by decide +kernel
theorem dX12_miles_61 : decode cX12_miles 61 = .ok (.istore 4, 2) := by decide +kernel
theorem dX12_miles_63 : decode cX12_miles 63 = .ok (.aload_n 0, 1) := by decide +kernel
theorem dX12_miles_64 : decode cX12_miles 64 = .ok (.getfield 7, 3) := by decide +kernel
theorem dX12_miles_67 : decode cX12_miles 67 = .ok (.bipush 10, 2) := by decide +kernel
theorem dX12_miles_69 : decode cX12_miles 69 = .ok (.iload_n 1, 1) := by decide +kernel
theorem dX12_miles_70 : decode cX12_miles 70 = .ok (.imul, 1) := by decide +kernel
theorem dX12_miles_71 : decode cX12_miles 71 = .ok (.iload_n 2, 1) := by decide +kernel
theorem dX12_miles_72 : decode cX12_miles 72 = .ok (.iadd, 1) := by decide +kernel
theorem dX12_miles_73 : decode cX12_miles 73 = .ok (.iload_n 3, 1) := by decide +kernel
theorem dX12_miles_74 : decode cX12_miles 74 = .ok (.iastore, 1) := by decide +kernel
theorem dX12_miles_75 : decode cX12_miles 75 = .ok (.aload_n 0, 1) := by decide +kernel
theorem dX12_miles_76 : decode cX12_miles 76 = .ok (.getfield 7, 3) := by decide +kernel
theorem dX12_miles_79 : decode cX12_miles 79 = .ok (.bipush 10, 2) := by decide +kernel
theorem dX12_miles_81 : decode cX12_miles 81 = .ok (.iload_n 2, 1) := by decide +kernel
theorem dX12_miles_82 : decode cX12_miles 82 = .ok (.imul, 1) := by decide +kernel
theorem dX12_miles_83 : decode cX12_miles 83 = .ok (.iload_n 1, 1) := by decide +kernel
theorem dX12_miles_84 : decode cX12_miles 84 = .ok (.iadd, 1) := by decide +kernel
theorem dX12_miles_85 : decode cX12_miles 85 = .ok (.iload_n 3, 1) := by decide +kernel
theorem dX12_miles_86 : decode cX12_miles 86 = .ok (.iastore, 1) := by decide +kernel
theorem dX12_miles_87 : decode cX12_miles 87 = .ok (.iload 4, 2) := by decide +kernel
theorem dX12_miles_89 : decode cX12_miles 89 = .ok (.ireturn, 1) := by decide +kernel
theorem dX12_fare_0 : decode cX12_fare 0 = .ok (.iload_n 1, 1) := by decide +kernel
theorem dX12_fare_1 : decode cX12_fare 1 = .ok (.iload_n 2, 1) := by decide +kernel
theorem dX12_fare_2 : decode cX12_fare 2 = .ok (.if_icmp .eq 53, 3) := by decide +kernel
theorem dX12_fare_5 : decode cX12_fare 5 = .ok (.iload_n 3, 1) := by decide +kernel
theorem dX12_fare_6 : decode cX12_fare 6 = .ok (.iconst 1, 1) := by decide +kernel
theorem dX12_fare_7 : decode cX12_fare 7 = .ok (.ldc 145, 2) := by decide +kernel
theorem dX12_fare_9 : decode cX12_fare 9 = .ok (.invokestatic 133, 3) := by decide +kernel
theorem dX12_fare_12 : decode cX12_fare 12 = .ok (.ifCond .eq 43, 3) := by decide +kernel
theorem dX12_fare_15 : decode cX12_fare 15 = .ok (.iload 4, 2) := by decide +kernel
theorem dX12_fare_17 : decode cX12_fare 17 = .ok (.iconst 0, 1) := by decide +kernel
theorem dX12_fare_18 : decode cX12_fare 18 = .ok (.sipush 999, 3) := by decide +kernel
theorem dX12_fare_21 : decode cX12_fare 21 = .ok (.invokestatic 133, 3) := by decide +kernel
theorem dX12_fare_24 : decode cX12_fare 24 = .ok (.ifCond .eq 31, 3) := by decide +kernel
theorem dX12_fare_27 : decode cX12_fare 27 = .ok (.iload 5, 2) := by decide +kernel
theorem dX12_fare_29 : decode cX12_fare 29 = .ok (.iload 4, 2) := by decide +kernel
theorem dX12_fare_31 : decode cX12_fare 31 = .ok (.sipush 999, 3) := by decide +kernel
theorem dX12_fare_34 : decode cX12_fare 34 = .ok (.invokestatic 133, 3) := by decide +kernel
theorem dX12_fare_37 : decode cX12_fare 37 = .ok (.ifCond .eq 18, 3) := by decide +kernel
theorem dX12_fare_40 : decode cX12_fare 40 = .ok (.iload 6, 2) := by decide +kernel
theorem dX12_fare_42 : decode cX12_fare 42 = .ok (.iconst 0, 1) := by decide +kernel
theorem dX12_fare_43 : decode cX12_fare 43 = .ok (.bipush 7, 2) := by decide +kernel
theorem dX12_fare_45 : decode cX12_fare 45 = .ok (.invokestatic 133, 3) := by decide +kernel
theorem dX12_fare_48 : decode cX12_fare 48 = .ok (.ifCond .eq 7, 3) := by decide +kernel
theorem dX12_fare_51 : decode cX12_fare 51 = .ok (.iconst 1, 1) := by decide +kernel
theorem dX12_fare_52 : decode cX12_fare 52 = .ok (.goto 4, 3) := by decide +kernel
theorem dX12_fare_55 : decode cX12_fare 55 = .ok (.iconst 0, 1) := by decide +kernel
theorem dX12_fare_56 : decode cX12_fare 56 = .ok (.istore 7, 2) := by decide +kernel
theorem dX12_fare_58 : decode cX12_fare 58 = .ok (.aload_n 0, 1) := by decide +kernel
theorem dX12_fare_59 : decode cX12_fare 59 = .ok (.iload_n 1, 1) := by decide +kernel
theorem dX12_fare_60 : decode cX12_fare 60 = .ok (.invokestatic 137, 3) := by decide +kernel
theorem dX12_fare_63 : decode cX12_fare 63 = .ok (.ifCond .eq 14, 3) := by decide +kernel
theorem dX12_fare_66 : decode cX12_fare 66 = .ok (.iload_n 2, 1) := by decide +kernel
theorem dX12_fare_67 : decode cX12_fare 67 = .ok (.invokestatic 137, 3) := by decide +kernel
theorem dX12_fare_70 : decode cX12_fare 70 = .ok (.ifCond .eq 7, 3) := by decide +kernel
theorem dX12_fare_73 : decode cX12_fare 73 = .ok (.iconst 1, 1) := by decide +kernel
theorem dX12_fare_74 : decode cX12_fare 74 = .ok (.goto 4, 3) := by decide +kernel
theorem dX12_fare_77 : decode cX12_fare 77 = .ok (.iconst 0, 1) := by decide +kernel
theorem dX12_fare_78 : decode cX12_fare 78 = .ok (.iload 7, 2) := by decide +kernel
theorem dX12_fare_80 : decode cX12_fare 80 = .ok (.aload_n 0, 1) := by decide +kernel
theorem dX12_fare_81 : decode cX12_fare 81 = .ok (.getfield 146, 3) := by decide +kernel
theorem dX12_fare_84 : decode cX12_fare 84 = .ok (.bipush 40, 2) := by decide +kernel
theorem dX12_fare_86 : decode cX12_fare 86 = .ok (.if_icmp .ge 7, 3) := by decide +kernel
theorem dX12_fare_89 : decode cX12_fare 89 = .ok (.iconst 1, 1) := by decide +kernel
theorem dX12_fare_90 : decode cX12_fare 90 = .ok (.goto 4, 3) := by decide +kernel
theorem dX12_fare_93 : decode cX12_fare 93 = .ok (.iconst 0, 1) := by decide +kernel
theorem dX12_fare_94 : decode cX12_fare 94 = .ok (.invokevirtual 141, 3) := by decide +kernel
theorem dX12_fare_97 : decode cX12_fare 97 = .ok (.ifCond .ne 5, 3) := by decide +kernel
theorem dX12_fare_100 : decode cX12_fare 100 = .ok (.iconst 0, 1) := by decide +kernel
theorem dX12_fare_101 : decode cX12_fare 101 = .ok (.ireturn, 1) := by decide +kernel
theorem dX12_fare_102 : decode cX12_fare 102 = .ok (.aload_n 0, 1) := by decide +kernel
theorem dX12_fare_103 : decode cX12_fare 103 = .ok (.getfield 25, 3) := by decide +kernel
theorem dX12_fare_106 : decode cX12_fare 106 = .ok (.aload_n 0, 1) := by decide +kernel
theorem dX12_fare_107 : decode cX12_fare 107 = .ok (.getfield 146, 3) := by decide +kernel
theorem dX12_fare_110 : decode cX12_fare 110 = .ok (.iload_n 1, 1) := by decide +kernel
theorem dX12_fare_111 : decode cX12_fare 111 = .ok (.iastore, 1) := by decide +kernel
theorem dX12_fare_112 : decode cX12_fare 112 = .ok (.aload_n 0, 1) := by decide +kernel
theorem dX12_fare_113 : decode cX12_fare 113 = .ok (.getfield 28, 3) := by decide +kernel
theorem dX12_fare_116 : decode cX12_fare 116 = .ok (.aload_n 0, 1) := by decide +kernel
theorem dX12_fare_117 : decode cX12_fare 117 = .ok (.getfield 146, 3) := by decide +kernel
theorem dX12_fare_120 : decode cX12_fare 120 = .ok (.iload_n 2, 1) := by decide +kernel
theorem dX12_fare_121 : decode cX12_fare 121 = .ok (.iastore, 1) := by decide +kernel
theorem dX12_fare_122 : decode cX12_fare 122 = .ok (.aload_n 0, 1) := by decide +kernel
theorem dX12_fare_123 : decode cX12_fare 123 = .ok (.getfield 31, 3) := by decide +kernel
theorem dX12_fare_126 : decode cX12_fare 126 = .ok (.aload_n 0, 1) := by decide +kernel
theorem dX12_fare_127 : decode cX12_fare 127 = .ok (.getfield 146, 3) := by decide +kernel
theorem dX12_fare_130 : decode cX12_fare 130 = .ok (.iload_n 3, 1) := by decide +kernel
theorem dX12_fare_131 : decode cX12_fare 131 = .ok (.iastore, 1) := by decide +kernel
theorem dX12_fare_132 : decode cX12_fare 132 = .ok (.aload_n 0, 1) := by decide +kernel
theorem dX12_fare_133 : decode cX12_fare 133 = .ok (.getfield 34, 3) := by decide +kernel
theorem dX12_fare_136 : decode cX12_fare 136 = .ok (.aload_n 0, 1) := by decide +kernel
theorem dX12_fare_137 : decode cX12_fare 137 = .ok (.getfield 146, 3) := by decide +kernel
theorem dX12_fare_140 : decode cX12_fare 140 = .ok (.iload 4, 2) := by decide +kernel
theorem dX12_fare_142 : decode cX12_fare 142 = .ok (.iastore, 1) := by decide +kernel
theorem dX12_fare_143 : decode cX12_fare 143 = .ok (.aload_n 0, 1) := by decide +kernel
theorem dX12_fare_144 : decode cX12_fare 144 = .ok (.getfield 37, 3) := by decide +kernel
theorem dX12_fare_147 : decode cX12_fare 147 = .ok (.aload_n 0, 1) := by decide +kernel
theorem dX12_fare_148 : decode cX12_fare 148 = .ok (.getfield 146, 3) := by decide +kernel
theorem dX12_fare_151 : decode cX12_fare 151 = .ok (.iload 5, 2) := by decide +kernel
theorem dX12_fare_153 : decode cX12_fare 153 = .ok (.iastore, 1) := by decide +kernel
theorem dX12_fare_154 : decode cX12_fare 154 = .ok (.aload_n 0, 1) := by decide +kernel
theorem dX12_fare_155 : decode cX12_fare 155 = .ok (.getfield 40, 3) := by decide +kernel
theorem dX12_fare_158 : decode cX12_fare 158 = .ok (.aload_n 0, 1) := by decide +kernel
theorem dX12_fare_159 : decode cX12_fare 159 = .ok (.getfield 146, 3) := by decide +kernel
theorem dX12_fare_162 : decode cX12_fare 162 = .ok (.iload 6, 2) := by decide +kernel
theorem dX12_fare_164 : decode cX12_fare 164 = .ok (.iastore, 1) := by decide +kernel
theorem dX12_fare_165 : decode cX12_fare 165 = .ok (.aload_n 0, 1) := by decide +kernel
theorem dX12_fare_166 : decode cX12_fare 166 = .ok (.dup, 1) := by decide +kernel
theorem dX12_fare_167 : decode cX12_fare 167 = .ok (.getfield 146, 3) := by decide +kernel
theorem dX12_fare_170 : decode cX12_fare 170 = .ok (.iconst 1, 1) := by decide +kernel
theorem dX12_fare_171 : decode cX12_fare 171 = .ok (.iadd, 1) := by decide +kernel
theorem dX12_fare_172 : decode cX12_fare 172 = .ok (.putfield 146, 3) := by decide +kernel
theorem dX12_fare_175 : decode cX12_fare 175 = .ok (.aload_n 0, 1) := by decide +kernel
theorem dX12_fare_176 : decode cX12_fare 176 = .ok (.getfield 146, 3) := by decide +kernel
theorem dX12_fare_179 : decode cX12_fare 179 = .ok (.iconst 1, 1) := by decide +kernel
theorem dX12_fare_180 : decode cX12_fare 180 = .ok (.isub, 1) := by decide +kernel
theorem dX12_fare_181 : decode cX12_fare 181 = .ok (.ireturn, 1) := by decide +kernel
theorem dX12_withdraw_0 : decode cX12_withdraw 0 = .ok (.iload_n 1, 1) := by decide +kernel
theorem dX12_withdraw_1 : decode cX12_withdraw 1 = .ok (.iconst 0, 1) := by decide +kernel
theorem dX12_withdraw_2 : decode cX12_withdraw 2 = .ok (.aload_n 0, 1) := by decide +kernel
theorem dX12_withdraw_3 : decode cX12_withdraw 3 = .ok (.getfield 146, 3) := by decide +kernel
theorem dX12_withdraw_6 : decode cX12_withdraw 6 = .ok (.iconst 1, 1) := by decide +kernel
theorem dX12_withdraw_7 : decode cX12_withdraw 7 = .ok (.isub, 1) := by decide +kernel
theorem dX12_withdraw_8 : decode cX12_withdraw 8 = .ok (.invokestatic 133, 3) := by decide +kernel
theorem dX12_withdraw_11 : decode cX12_withdraw 11 = .ok (.istore_n 2, 1) := by decide +kernel
theorem dX12_withdraw_12 : decode cX12_withdraw 12 = .ok (.aload_n 0, 1) := by decide +kernel
theorem dX12_withdraw_13 : decode cX12_withdraw 13 = .ok (.iload_n 2, 1) := by decide +kernel
theorem dX12_withdraw_14 : decode cX12_withdraw 14 = .ok (.iload_n 2, 1) := by decide +kernel
theorem dX12_withdraw_15 : decode cX12_withdraw 15 = .ok (.ifCond .eq 24, 3) := by decide +kernel
theorem dX12_withdraw_18 : decode cX12_withdraw 18 = .ok (.aload_n 0, 1) := by decide +kernel
theorem dX12_withdraw_19 : decode cX12_withdraw 19 = .ok (.getfield 43, 3) := by decide +kernel
theorem dX12_withdraw_22 : decode cX12_withdraw 22 = .ok (.iload_n 2, 1) := by decide +kernel
theorem dX12_withdraw_23 : decode cX12_withdraw 23 = .ok (.ifCond .eq 7, 3) := by decide +kernel
theorem dX12_withdraw_26 : decode cX12_withdraw 26 = .ok (.iload_n 1, 1) := by decide +kernel
theorem dX12_withdraw_27 : decode cX12_withdraw 27 = .ok (.goto 4, 3) := by decide +kernel
theorem dX12_withdraw_30 : decode cX12_withdraw 30 = .ok (.iconst 0, 1) := by decide +kernel
theorem dX12_withdraw_31 : decode cX12_withdraw 31 = .ok (.baload, 1) := by decide +kernel
theorem dX12_withdraw_32 : decode cX12_withdraw 32 = .ok (.ifCond .ne 7, 3) := by decide +kernel
theorem dX12_withdraw_35 : decode cX12_withdraw 35 = .ok (.iconst 1, 1) := by decide +kernel
theorem dX12_withdraw_36 : decode cX12_withdraw 36 = .ok (.goto 4, 3) := by decide +kernel
theorem dX12_withdraw_39 : decode cX12_withdraw 39 = .ok (.iconst 0, 1) := by decide +kernel
theorem dX12_withdraw_40 : decode cX12_withdraw 40 = .ok (.iconst 1, 1) := by decide +kernel
theorem dX12_withdraw_41 : decode cX12_withdraw 41 = .ok (.invokevirtual 141, 3) := by decide +kernel
theorem dX12_withdraw_44 : decode cX12_withdraw 44 = .ok (.ifCond .eq 10, 3) := by decide +kernel
theorem dX12_withdraw_47 : decode cX12_withdraw 47 = .ok (.aload_n 0, 1) := by decide +kernel
theorem dX12_withdraw_48 : decode cX12_withdraw 48 = .ok (.getfield 43, 3) := by decide +kernel
theorem dX12_withdraw_51 : decode cX12_withdraw 51 = .ok (.iload_n 1, 1) := by decide +kernel
theorem dX12_withdraw_52 : decode cX12_withdraw 52 = .ok (.iconst 1, 1) := by decide +kernel
theorem dX12_withdraw_53 : decode cX12_withdraw 53 = .ok (.bastore, 1) := by decide +kernel
theorem dX12_withdraw_54 : decode cX12_withdraw 54 = .ok (.return_, 1) := by decide +kernel
theorem dX12_unit_0 : decode cX12_unit 0 = .ok (.aload_n 0, 1) := by decide +kernel
theorem dX12_unit_1 : decode cX12_unit 1 = .ok (.iload_n 1, 1) := by decide +kernel
theorem dX12_unit_2 : decode cX12_unit 2 = .ok (.iconst 1, 1) := by decide +kernel
theorem dX12_unit_3 : decode cX12_unit 3 = .ok (.sipush 1000, 3) := by decide +kernel
theorem dX12_unit_6 : decode cX12_unit 6 = .ok (.invokestatic 133, 3) := by decide +kernel
theorem dX12_unit_9 : decode cX12_unit 9 = .ok (.iconst 1, 1) := by decide +kernel
theorem dX12_unit_10 : decode cX12_unit 10 = .ok (.iconst 1, 1) := by decide +kernel
theorem dX12_unit_11 : decode cX12_unit 11 = .ok (.invokevirtual 141, 3) := by decide +kernel
theorem dX12_unit_14 : decode cX12_unit 14 = .ok (.ifCond .ne 5, 3) := by decide +kernel
theorem dX12_unit_17 : decode cX12_unit 17 = .ok (.iconst 0, 1) := by decide +kernel
theorem dX12_unit_18 : decode cX12_unit 18 = .ok (.ireturn, 1) := by decide +kernel
theorem dX12_unit_19 : decode cX12_unit 19 = .ok (.aload_n 0, 1) := by decide +kernel
theorem dX12_unit_20 : decode cX12_unit 20 = .ok (.getfield 126, 3) := by decide +kernel
theorem dX12_unit_23 : decode cX12_unit 23 = .ok (.istore_n 2, 1) := by decide +kernel
theorem dX12_unit_24 : decode cX12_unit 24 = .ok (.aload_n 0, 1) := by decide +kernel
theorem dX12_unit_25 : decode cX12_unit 25 = .ok (.iload_n 1, 1) := by decide +kernel
theorem dX12_unit_26 : decode cX12_unit 26 = .ok (.putfield 126, 3) := by decide +kernel
theorem dX12_unit_29 : decode cX12_unit 29 = .ok (.iload_n 2, 1) := by decide +kernel
theorem dX12_unit_30 : decode cX12_unit 30 = .ok (.ireturn, 1) := by decide +kernel
theorem dX12_tax_0 : decode cX12_tax 0 = .ok (.aload_n 0, 1) := by decide +kernel
theorem dX12_tax_1 : decode cX12_tax 1 = .ok (.iload_n 1, 1) := by decide +kernel
theorem dX12_tax_2 : decode cX12_tax 2 = .ok (.invokestatic 137, 3) := by decide +kernel
theorem dX12_tax_5 : decode cX12_tax 5 = .ok (.iload_n 2, 1) := by decide +kernel
theorem dX12_tax_6 : decode cX12_tax 6 = .ok (.iconst 0, 1) := by decide +kernel
theorem dX12_tax_7 : decode cX12_tax 7 = .ok (.sipush 10000, 3) := by decide +kernel
theorem dX12_tax_10 : decode cX12_tax 10 = .ok (.invokestatic 133, 3) := by decide +kernel
theorem dX12_tax_13 : decode cX12_tax 13 = .ok (.ifCond .eq 18, 3) := by decide +kernel
theorem dX12_tax_16 : decode cX12_tax 16 = .ok (.iload_n 3, 1) := by decide +kernel
theorem dX12_tax_17 : decode cX12_tax 17 = .ok (.iconst 0, 1) := by decide +kernel
theorem dX12_tax_18 : decode cX12_tax 18 = .ok (.sipush 10000, 3) := by decide +kernel
theorem dX12_tax_21 : decode cX12_tax 21 = .ok (.invokestatic 133, 3) := by decide +kernel
theorem dX12_tax_24 : decode cX12_tax 24 = .ok (.ifCond .eq 7, 3) := by decide +kernel
theorem dX12_tax_27 : decode cX12_tax 27 = .ok (.iconst 1, 1) := by decide +kernel
theorem dX12_tax_28 : decode cX12_tax 28 = .ok (.goto 4, 3) := by decide +kernel
theorem dX12_tax_31 : decode cX12_tax 31 = .ok (.iconst 0, 1) := by decide +kernel
theorem dX12_tax_32 : decode cX12_tax 32 = .ok (.iconst 1, 1) := by decide +kernel
theorem dX12_tax_33 : decode cX12_tax 33 = .ok (.invokevirtual 141, 3) := by decide +kernel
theorem dX12_tax_36 : decode cX12_tax 36 = .ok (.ifCond .eq 17, 3) := by decide +kernel
theorem dX12_tax_39 : decode cX12_tax 39 = .ok (.aload_n 0, 1) := by decide +kernel
theorem dX12_tax_40 : decode cX12_tax 40 = .ok (.getfield 19, 3) := by decide +kernel
theorem dX12_tax_43 : decode cX12_tax 43 = .ok (.iload_n 1, 1) := by decide +kernel
theorem dX12_tax_44 : decode cX12_tax 44 = .ok (.iload_n 2, 1) := by decide +kernel
theorem dX12_tax_45 : decode cX12_tax 45 = .ok (.iastore, 1) := by decide +kernel
theorem dX12_tax_46 : decode cX12_tax 46 = .ok (.aload_n 0, 1) := by decide +kernel
theorem dX12_tax_47 : decode cX12_tax 47 = .ok (.getfield 22, 3) := by decide +kernel
theorem dX12_tax_50 : decode cX12_tax 50 = .ok (.iload_n 1, 1) := by decide +kernel
theorem dX12_tax_51 : decode cX12_tax 51 = .ok (.iload_n 3, 1) := by decide +kernel
theorem dX12_tax_52 : decode cX12_tax 52 = .ok (.iastore, 1) := by decide +kernel
theorem dX12_tax_53 : decode cX12_tax 53 = .ok (.return_, 1) := by decide +kernel
theorem dX12_weight_0 : decode cX12_weight 0 = .ok (.aload_n 0, 1) := by decide +kernel
theorem dX12_weight_1 : decode cX12_weight 1 = .ok (.iload_n 1, 1) := by decide +kernel
theorem dX12_weight_2 : decode cX12_weight 2 = .ok (.invokestatic 137, 3) := by decide +kernel
theorem dX12_weight_5 : decode cX12_weight 5 = .ok (.ifCond .eq 14, 3) := by decide +kernel
theorem dX12_weight_8 : decode cX12_weight 8 = .ok (.iload_n 2, 1) := by decide +kernel
theorem dX12_weight_9 : decode cX12_weight 9 = .ok (.invokestatic 137, 3) := by decide +kernel
theorem dX12_weight_12 : decode cX12_weight 12 = .ok (.ifCond .eq 7, 3) := by decide +kernel
theorem dX12_weight_15 : decode cX12_weight 15 = .ok (.iconst 1, 1) := by decide +kernel
theorem dX12_weight_16 : decode cX12_weight 16 = .ok (.goto 4, 3) := by decide +kernel
theorem dX12_weight_19 : decode cX12_weight 19 = .ok (.iconst 0, 1) := by decide +kernel
theorem dX12_weight_20 : decode cX12_weight 20 = .ok (.iload_n 1, 1) := by decide +kernel
theorem dX12_weight_21 : decode cX12_weight 21 = .ok (.iload_n 2, 1) := by decide +kernel
theorem dX12_weight_22 : decode cX12_weight 22 = .ok (.if_icmp .eq 18, 3) := by decide +kernel
theorem dX12_weight_25 : decode cX12_weight 25 = .ok (.iload_n 3, 1) := by decide +kernel
theorem dX12_weight_26 : decode cX12_weight 26 = .ok (.iconst 0, 1) := by decide +kernel
theorem dX12_weight_27 : decode cX12_weight 27 = .ok (.sipush 9999, 3) := by decide +kernel
theorem dX12_weight_30 : decode cX12_weight 30 = .ok (.invokestatic 133, 3) := by decide +kernel
theorem dX12_weight_33 : decode cX12_weight 33 = .ok (.ifCond .eq 7, 3) := by decide +kernel
theorem dX12_weight_36 : decode cX12_weight 36 = .ok (.iconst 1, 1) := by decide +kernel
theorem dX12_weight_37 : decode cX12_weight 37 = .ok (.goto 4, 3) := by decide +kernel
theorem dX12_weight_40 : decode cX12_weight 40 = .ok (.iconst 0, 1) := by decide +kernel
theorem dX12_weight_41 : decode cX12_weight 41 = .ok (.iconst 1, 1) := by decide +kernel
theorem dX12_weight_42 : decode cX12_weight 42 = .ok (.invokevirtual 141, 3) := by decide +kernel
theorem dX12_weight_45 : decode cX12_weight 45 = .ok (.ifCond .ne 5, 3) := by decide +kernel
theorem dX12_weight_48 : decode cX12_weight 48 = .ok (.iconst 0, 1) := by decide +kernel
theorem dX12_weight_49 : decode cX12_weight 49 = .ok (.ireturn, 1) := by decide +kernel
theorem dX12_weight_50 : decode cX12_weight 50 = .ok (.aload_n 0, 1) := by decide +kernel
theorem dX12_weight_51 : decode cX12_weight 51 = .ok (.getfield 13, 3) := by decide +kernel
theorem dX12_weight_54 : decode cX12_weight 54 = .ok (.bipush 10, 2) := by decide +kernel
theorem dX12_weight_56 : decode cX12_weight 56 = .ok (.iload_n 1, 1) := by decide +kernel
theorem dX12_weight_57 : decode cX12_weight 57 = .ok (.imul, 1) := by decide +kernel
theorem dX12_weight_58 : decode cX12_weight 58 = .ok (.iload_n 2, 1) := by decide +kernel
theorem dX12_weight_59 : decode cX12_weight 59 = .ok (.iadd, 1) := by decide +kernel
theorem dX12_weight_60 : decode cX12_weight 60 = .ok (.iaload, 1) := by decide +kernel
theorem dX12_weight_61 : decode cX12_weight 61 = .ok (.istore 4, 2) := by decide +kernel
theorem dX12_weight_63 : decode cX12_weight 63 = .ok (.aload_n 0, 1) := by decide +kernel
theorem dX12_weight_64 : decode cX12_weight 64 = .ok (.getfield 13, 3) := by decide +kernel
theorem dX12_weight_67 : decode cX12_weight 67 = .ok (.bipush 10, 2) := by decide +kernel
theorem dX12_weight_69 : decode cX12_weight 69 = .ok (.iload_n 1, 1) := by decide +kernel
theorem dX12_weight_70 : decode cX12_weight 70 = .ok (.imul, 1) := by decide +kernel
theorem dX12_weight_71 : decode cX12_weight 71 = .ok (.iload_n 2, 1) := by decide +kernel
theorem dX12_weight_72 : decode cX12_weight 72 = .ok (.iadd, 1) := by decide +kernel
theorem dX12_weight_73 : decode cX12_weight 73 = .ok (.iload_n 3, 1) := by decide +kernel
theorem dX12_weight_74 : decode cX12_weight 74 = .ok (.iastore, 1) := by decide +kernel
theorem dX12_weight_75 : decode cX12_weight 75 = .ok (.aload_n 0, 1) := by decide +kernel
theorem dX12_weight_76 : decode cX12_weight 76 = .ok (.getfield 13, 3) := by decide +kernel
theorem dX12_weight_79 : decode cX12_weight 79 = .ok (.bipush 10, 2) := by decide +kernel
theorem dX12_weight_81 : decode cX12_weight 81 = .ok (.iload_n 2, 1) := by decide +kernel
theorem dX12_weight_82 : decode cX12_weight 82 = .ok (.imul, 1) := by decide +kernel
theorem dX12_weight_83 : decode cX12_weight 83 = .ok (.iload_n 1, 1) := by decide +kernel
theorem dX12_weight_84 : decode cX12_weight 84 = .ok (.iadd, 1) := by decide +kernel
theorem dX12_weight_85 : decode cX12_weight 85 = .ok (.iload_n 3, 1) := by decide +kernel
theorem dX12_weight_86 : decode cX12_weight 86 = .ok (.iastore, 1) := by decide +kernel
theorem dX12_weight_87 : decode cX12_weight 87 = .ok (.iload 4, 2) := by decide +kernel
theorem dX12_weight_89 : decode cX12_weight 89 = .ok (.ireturn, 1) := by decide +kernel
theorem dX12_proviso_0 : decode cX12_proviso 0 = .ok (.aload_n 0, 1) := by decide +kernel
theorem dX12_proviso_1 : decode cX12_proviso 1 = .ok (.iload_n 1, 1) := by decide +kernel
theorem dX12_proviso_2 : decode cX12_proviso 2 = .ok (.invokestatic 149, 3) := by decide +kernel
theorem dX12_proviso_5 : decode cX12_proviso 5 = .ok (.ifCond .eq 21, 3) := by decide +kernel
theorem dX12_proviso_8 : decode cX12_proviso 8 = .ok (.iload_n 2, 1) := by decide +kernel
theorem dX12_proviso_9 : decode cX12_proviso 9 = .ok (.invokestatic 137, 3) := by decide +kernel
theorem dX12_proviso_12 : decode cX12_proviso 12 = .ok (.ifCond .eq 14, 3) := by decide +kernel
theorem dX12_proviso_15 : decode cX12_proviso 15 = .ok (.iload_n 3, 1) := by decide +kernel
theorem dX12_proviso_16 : decode cX12_proviso 16 = .ok (.invokestatic 137, 3) := by decide +kernel
theorem dX12_proviso_19 : decode cX12_proviso 19 = .ok (.ifCond .eq 7, 3) := by decide +kernel
theorem dX12_proviso_22 : decode cX12_proviso 22 = .ok (.iconst 1, 1) := by decide +kernel
theorem dX12_proviso_23 : decode cX12_proviso 23 = .ok (.goto 4, 3) := by decide +kernel
theorem dX12_proviso_26 : decode cX12_proviso 26 = .ok (.iconst 0, 1) := by decide +kernel
theorem dX12_proviso_27 : decode cX12_proviso 27 = .ok (.iload_n 2, 1) := by decide +kernel
theorem dX12_proviso_28 : decode cX12_proviso 28 = .ok (.iload_n 3, 1) := by decide +kernel
theorem dX12_proviso_29 : decode cX12_proviso 29 = .ok (.if_icmp .eq 18, 3) := by decide +kernel
theorem dX12_proviso_32 : decode cX12_proviso 32 = .ok (.iload 4, 2) := by decide +kernel
theorem dX12_proviso_34 : decode cX12_proviso 34 = .ok (.iconst (-1), 1) := by decide +kernel
theorem dX12_proviso_35 : decode cX12_proviso 35 = .ok (.ldc 145, 2) := by decide +kernel
theorem dX12_proviso_37 : decode cX12_proviso 37 = .ok (.invokestatic 133, 3) := by decide +kernel
theorem dX12_proviso_40 : decode cX12_proviso 40 = .ok (.ifCond .eq 7, 3) := by decide +kernel
theorem dX12_proviso_43 : decode cX12_proviso 43 = .ok (.iconst 1, 1) := by decide +kernel
theorem dX12_proviso_44 : decode cX12_proviso 44 = .ok (.goto 4, 3) := by decide +kernel
theorem dX12_proviso_47 : decode cX12_proviso 47 = .ok (.iconst 0, 1) := by decide +kernel
theorem dX12_proviso_48 : decode cX12_proviso 48 = .ok (.iconst 1, 1) := by decide +kernel
theorem dX12_proviso_49 : decode cX12_proviso 49 = .ok (.invokevirtual 141, 3) := by decide +kernel
theorem dX12_proviso_52 : decode cX12_proviso 52 = .ok (.ifCond .ne 5, 3) := by decide +kernel
theorem dX12_proviso_55 : decode cX12_proviso 55 = .ok (.iconst 0, 1) := by decide +kernel
theorem dX12_proviso_56 : decode cX12_proviso 56 = .ok (.ireturn, 1) := by decide +kernel
theorem dX12_proviso_57 : decode cX12_proviso 57 = .ok (.bipush 100, 2) := by decide +kernel
theorem dX12_proviso_59 : decode cX12_proviso 59 = .ok (.iload_n 1, 1) := by decide +kernel
theorem dX12_proviso_60 : decode cX12_proviso 60 = .ok (.imul, 1) := by decide +kernel
theorem dX12_proviso_61 : decode cX12_proviso 61 = .ok (.bipush 10, 2) := by decide +kernel
theorem dX12_proviso_63 : decode cX12_proviso 63 = .ok (.iload_n 2, 1) := by decide +kernel
theorem dX12_proviso_64 : decode cX12_proviso 64 = .ok (.imul, 1) := by decide +kernel
theorem dX12_proviso_65 : decode cX12_proviso 65 = .ok (.iadd, 1) := by decide +kernel
theorem dX12_proviso_66 : decode cX12_proviso 66 = .ok (.iload_n 3, 1) := by decide +kernel
theorem dX12_proviso_67 : decode cX12_proviso 67 = .ok (.iadd, 1) := by decide +kernel
theorem dX12_proviso_68 : decode cX12_proviso 68 = .ok (.istore 5, 2) := by decide +kernel
theorem dX12_proviso_70 : decode cX12_proviso 70 = .ok (.aload_n 0, 1) := by decide +kernel
theorem dX12_proviso_71 : decode cX12_proviso 71 = .ok (.getfield 16, 3) := by decide +kernel
theorem dX12_proviso_74 : decode cX12_proviso 74 = .ok (.iload 5, 2) := by decide +kernel
theorem dX12_proviso_76 : decode cX12_proviso 76 = .ok (.iaload, 1) := by decide +kernel
theorem dX12_proviso_77 : decode cX12_proviso 77 = .ok (.iconst 1, 1) := by decide +kernel
theorem dX12_proviso_78 : decode cX12_proviso 78 = .ok (.isub, 1) := by decide +kernel
theorem dX12_proviso_79 : decode cX12_proviso 79 = .ok (.istore 6, 2) := by decide +kernel
theorem dX12_proviso_81 : decode cX12_proviso 81 = .ok (.aload_n 0, 1) := by decide +kernel
theorem dX12_proviso_82 : decode cX12_proviso 82 = .ok (.getfield 16, 3) := by decide +kernel
theorem dX12_proviso_85 : decode cX12_proviso 85 = .ok (.iload 5, 2) := by decide +kernel
theorem dX12_proviso_87 : decode cX12_proviso 87 = .ok (.iload 4, 2) := by decide +kernel
theorem dX12_proviso_89 : decode cX12_proviso 89 = .ok (.iconst 1, 1) := by decide +kernel
theorem dX12_proviso_90 : decode cX12_proviso 90 = .ok (.iadd, 1) := by decide +kernel
theorem dX12_proviso_91 : decode cX12_proviso 91 = .ok (.iastore, 1) := by decide +kernel
theorem dX12_proviso_92 : decode cX12_proviso 92 = .ok (.iload 6, 2) := by decide +kernel
theorem dX12_proviso_94 : decode cX12_proviso 94 = .ok (.ireturn, 1) := by decide +kernel
theorem dX12_penalty_0 : decode cX12_penalty 0 = .ok (.aload_n 0, 1) := by decide +kernel
theorem dX12_penalty_1 : decode cX12_penalty 1 = .ok (.iload_n 1, 1) := by decide +kernel
theorem dX12_penalty_2 : decode cX12_penalty 2 = .ok (.iconst 0, 1) := by decide +kernel
theorem dX12_penalty_3 : decode cX12_penalty 3 = .ok (.bipush 100, 2) := by decide +kernel
theorem dX12_penalty_5 : decode cX12_penalty 5 = .ok (.invokestatic 133, 3) := by decide +kernel
theorem dX12_penalty_8 : decode cX12_penalty 8 = .ok (.iconst 1, 1) := by decide +kernel
theorem dX12_penalty_9 : decode cX12_penalty 9 = .ok (.iconst 1, 1) := by decide +kernel
theorem dX12_penalty_10 : decode cX12_penalty 10 = .ok (.invokevirtual 141, 3) := by decide +kernel
theorem dX12_penalty_13 : decode cX12_penalty 13 = .ok (.ifCond .ne 5, 3) := by decide +kernel
theorem dX12_penalty_16 : decode cX12_penalty 16 = .ok (.iconst 0, 1) := by decide +kernel
theorem dX12_penalty_17 : decode cX12_penalty 17 = .ok (.ireturn, 1) := by decide +kernel
theorem dX12_penalty_18 : decode cX12_penalty 18 = .ok (.aload_n 0, 1) := by decide +kernel
theorem dX12_penalty_19 : decode cX12_penalty 19 = .ok (.getfield 152, 3) := by decide +kernel
theorem dX12_penalty_22 : decode cX12_penalty 22 = .ok (.istore_n 2, 1) := by decide +kernel
theorem dX12_penalty_23 : decode cX12_penalty 23 = .ok (.aload_n 0, 1) := by decide +kernel
theorem dX12_penalty_24 : decode cX12_penalty 24 = .ok (.iload_n 1, 1) := by decide +kernel
theorem dX12_penalty_25 : decode cX12_penalty 25 = .ok (.putfield 152, 3) := by decide +kernel
theorem dX12_penalty_28 : decode cX12_penalty 28 = .ok (.iload_n 2, 1) := by decide +kernel
theorem dX12_penalty_29 : decode cX12_penalty 29 = .ok (.ireturn, 1) := by decide +kernel
theorem dX12_leg_0 : decode cX12_leg 0 = .ok (.iload_n 1, 1) := by decide +kernel
theorem dX12_leg_1 : decode cX12_leg 1 = .ok (.invokestatic 137, 3) := by decide +kernel
theorem dX12_leg_4 : decode cX12_leg 4 = .ok (.ifCond .eq 21, 3) := by decide +kernel
theorem dX12_leg_7 : decode cX12_leg 7 = .ok (.iload_n 2, 1) := by decide +kernel
theorem dX12_leg_8 : decode cX12_leg 8 = .ok (.invokestatic 137, 3) := by decide +kernel
theorem dX12_leg_11 : decode cX12_leg 11 = .ok (.ifCond .eq 14, 3) := by decide +kernel
theorem dX12_leg_14 : decode cX12_leg 14 = .ok (.iload_n 3, 1) := by decide +kernel
theorem dX12_leg_15 : decode cX12_leg 15 = .ok (.invokestatic 149, 3) := by decide +kernel
theorem dX12_leg_18 : decode cX12_leg 18 = .ok (.ifCond .eq 7, 3) := by decide +kernel
theorem dX12_leg_21 : decode cX12_leg 21 = .ok (.iconst 1, 1) := by decide +kernel
theorem dX12_leg_22 : decode cX12_leg 22 = .ok (.goto 4, 3) := by decide +kernel
theorem dX12_leg_25 : decode cX12_leg 25 = .ok (.iconst 0, 1) := by decide +kernel
theorem dX12_leg_26 : decode cX12_leg 26 = .ok (.istore 5, 2) := by decide +kernel
theorem dX12_leg_28 : decode cX12_leg 28 = .ok (.aload_n 0, 1) := by decide +kernel
theorem dX12_leg_29 : decode cX12_leg 29 = .ok (.getfield 155, 3) := by decide +kernel
theorem dX12_leg_32 : decode cX12_leg 32 = .ok (.ifCond .eq 43, 3) := by decide +kernel
theorem dX12_leg_35 : decode cX12_leg 35 = .ok (.aload_n 0, 1) := by decide +kernel
theorem dX12_leg_36 : decode cX12_leg 36 = .ok (.getfield 155, 3) := by decide +kernel
theorem dX12_leg_39 : decode cX12_leg 39 = .ok (.bipush 8, 2) := by decide +kernel
theorem dX12_leg_41 : decode cX12_leg 41 = .ok (.if_icmp .ge 38, 3) := by decide +kernel
theorem dX12_leg_44 : decode cX12_leg 44 = .ok (.aload_n 0, 1) := by decide +kernel
theorem dX12_leg_45 : decode cX12_leg 45 = .ok (.getfield 50, 3) := by decide +kernel
theorem dX12_leg_48 : decode cX12_leg 48 = .ok (.aload_n 0, 1) := by decide +kernel
theorem dX12_leg_49 : decode cX12_leg 49 = .ok (.getfield 155, 3) := by decide +kernel
theorem dX12_leg_52 : decode cX12_leg 52 = .ok (.iconst 1, 1) := by decide +kernel
theorem dX12_leg_53 : decode cX12_leg 53 = .ok (.isub, 1) := by decide +kernel
theorem dX12_leg_54 : decode cX12_leg 54 = .ok (.iaload, 1) := by decide +kernel
theorem dX12_leg_55 : decode cX12_leg 55 = .ok (.iload_n 1, 1) := by decide +kernel
theorem dX12_leg_56 : decode cX12_leg 56 = .ok (.if_icmp .ne 23, 3) := by decide +kernel
theorem dX12_leg_59 : decode cX12_leg 59 = .ok (.aload_n 0, 1) := by decide +kernel
theorem dX12_leg_60 : decode cX12_leg 60 = .ok (.getfield 56, 3) := by decide +kernel
theorem dX12_leg_63 : decode cX12_leg 63 = .ok (.aload_n 0, 1) := by decide +kernel
theorem dX12_leg_64 : decode cX12_leg 64 = .ok (.getfield 155, 3) := by decide +kernel
theorem dX12_leg_67 : decode cX12_leg 67 = .ok (.iconst 1, 1) := by decide +kernel
theorem dX12_leg_68 : decode cX12_leg 68 = .ok (.isub, 1) := by decide +kernel
theorem dX12_leg_69 : decode cX12_leg 69 = .ok (.iaload, 1) := by decide +kernel
theorem dX12_leg_70 : decode cX12_leg 70 = .ok (.iload 4, 2) := by decide +kernel
theorem dX12_leg_72 : decode cX12_leg 72 = .ok (.if_icmp .gt 7, 3) := by decide +kernel
theorem dX12_leg_75 : decode cX12_leg 75 = .ok (.iconst 1, 1) := by decide +kernel
theorem dX12_leg_76 : decode cX12_leg 76 = .ok (.goto 4, 3) := by decide +kernel
theorem dX12_leg_79 : decode cX12_leg 79 = .ok (.iconst 0, 1) := by decide +kernel
theorem dX12_leg_80 : decode cX12_leg 80 = .ok (.istore 6, 2) := by decide +kernel
theorem dX12_leg_82 : decode cX12_leg 82 = .ok (.aload_n 0, 1) := by decide +kernel
theorem dX12_leg_83 : decode cX12_leg 83 = .ok (.iload 5, 2) := by decide +kernel
theorem dX12_leg_85 : decode cX12_leg 85 = .ok (.iload_n 1, 1) := by decide +kernel
theorem dX12_leg_86 : decode cX12_leg 86 = .ok (.iload_n 2, 1) := by decide +kernel
theorem dX12_leg_87 : decode cX12_leg 87 = .ok (.if_icmp .eq 22, 3) := by decide +kernel
theorem dX12_leg_90 : decode cX12_leg 90 = .ok (.iload 4, 2) := by decide +kernel
theorem dX12_leg_92 : decode cX12_leg 92 = .ok (.aload_n 0, 1) := by decide +kernel
theorem dX12_leg_93 : decode cX12_leg 93 = .ok (.getfield 158, 3) := by decide +kernel
theorem dX12_leg_96 : decode cX12_leg 96 = .ok (.sipush 999, 3) := by decide +kernel
theorem dX12_leg_99 : decode cX12_leg 99 = .ok (.invokestatic 133, 3) := by decide +kernel
theorem dX12_leg_102 : decode cX12_leg 102 = .ok (.ifCond .eq 7, 3) := by decide +kernel
theorem dX12_leg_105 : decode cX12_leg 105 = .ok (.iconst 1, 1) := by decide +kernel
theorem dX12_leg_106 : decode cX12_leg 106 = .ok (.goto 4, 3) := by decide +kernel
theorem dX12_leg_109 : decode cX12_leg 109 = .ok (.iconst 0, 1) := by decide +kernel
theorem dX12_leg_110 : decode cX12_leg 110 = .ok (.iload 5, 2) := by decide +kernel
theorem dX12_leg_112 : decode cX12_leg 112 = .ok (.ifCond .eq 35, 3) := by decide +kernel
theorem dX12_leg_115 : decode cX12_leg 115 = .ok (.iload 6, 2) := by decide +kernel
theorem dX12_leg_117 : decode cX12_leg 117 = .ok (.ifCond .eq 30, 3) := by decide +kernel
theorem dX12_leg_120 : decode cX12_leg 120 = .ok (.aload_n 0, 1) := by decide +kernel
theorem dX12_leg_121 : decode cX12_leg 121 = .ok (.getfield 7, 3) := by decide +kernel
theorem dX12_leg_124 : decode cX12_leg 124 = .ok (.iload 5, 2) := by decide +kernel
theorem dX12_leg_126 : decode cX12_leg 126 = .ok (.ifCond .eq 12, 3) := by decide +kernel
theorem dX12_leg_129 : decode cX12_leg 129 = .ok (.bipush 10, 2) := by decide +kernel
theorem dX12_leg_131 : decode cX12_leg 131 = .ok (.iload_n 1, 1) := by decide +kernel
theorem dX12_leg_132 : decode cX12_leg 132 = .ok (.imul, 1) := by decide +kernel
theorem dX12_leg_133 : decode cX12_leg 133 = .ok (.iload_n 2, 1) := by decide +kernel
theorem dX12_leg_134 : decode cX12_leg 134 = .ok (.iadd, 1) := by decide +kernel
theorem dX12_leg_135 : decode cX12_leg 135 = .ok (.goto 4, 3) := by decide +kernel
theorem dX12_leg_138 : decode cX12_leg 138 = .ok (.iconst 0, 1) := by decide +kernel
theorem dX12_leg_139 : decode cX12_leg 139 = .ok (.iaload, 1) := by decide +kernel
theorem dX12_leg_140 : decode cX12_leg 140 = .ok (.ifCond .le 7, 3) := by decide +kernel
theorem dX12_leg_143 : decode cX12_leg 143 = .ok (.iconst 1, 1) := by decide +kernel
theorem dX12_leg_144 : decode cX12_leg 144 = .ok (.goto 4, 3) := by decide +kernel
theorem dX12_leg_147 : decode cX12_leg 147 = .ok (.iconst 0, 1) := by decide +kernel
theorem dX12_leg_148 : decode cX12_leg 148 = .ok (.invokevirtual 141, 3) := by decide +kernel
theorem dX12_leg_151 : decode cX12_leg 151 = .ok (.ifCond .ne 5, 3) := by decide +kernel
theorem dX12_leg_154 : decode cX12_leg 154 = .ok (.iconst 0, 1) := by decide +kernel
theorem dX12_leg_155 : decode cX12_leg 155 = .ok (.ireturn, 1) := by decide +kernel
theorem dX12_leg_156 : decode cX12_leg 156 = .ok (.aload_n 0, 1) := by decide +kernel
theorem dX12_leg_157 : decode cX12_leg 157 = .ok (.getfield 47, 3) := by decide +kernel
theorem dX12_leg_160 : decode cX12_leg 160 = .ok (.aload_n 0, 1) := by decide +kernel
theorem dX12_leg_161 : decode cX12_leg 161 = .ok (.getfield 155, 3) := by decide +kernel
theorem dX12_leg_164 : decode cX12_leg 164 = .ok (.iload_n 1, 1) := by decide +kernel
theorem dX12_leg_165 : decode cX12_leg 165 = .ok (.iastore, 1) := by decide +kernel
theorem dX12_leg_166 : decode cX12_leg 166 = .ok (.aload_n 0, 1) := by decide +kernel
theorem dX12_leg_167 : decode cX12_leg 167 = .ok (.getfield 50, 3) := by decide +kernel
theorem dX12_leg_170 : decode cX12_leg 170 = .ok (.aload_n 0, 1) := by decide +kernel
theorem dX12_leg_171 : decode cX12_leg 171 = .ok (.getfield 155, 3) := by decide +kernel
theorem dX12_leg_174 : decode cX12_leg 174 = .ok (.iload_n 2, 1) := by decide +kernel
theorem dX12_leg_175 : decode cX12_leg 175 = .ok (.iastore, 1) := by decide +kernel
theorem dX12_leg_176 : decode cX12_leg 176 = .ok (.aload_n 0, 1) := by decide +kernel
theorem dX12_leg_177 : decode cX12_leg 177 = .ok (.getfield 53, 3) := by decide +kernel
theorem dX12_leg_180 : decode cX12_leg 180 = .ok (.aload_n 0, 1) := by decide +kernel
theorem dX12_leg_181 : decode cX12_leg 181 = .ok (.getfield 155, 3) := by decide +kernel
theorem dX12_leg_184 : decode cX12_leg 184 = .ok (.iload_n 3, 1) := by decide +kernel
theorem dX12_leg_185 : decode cX12_leg 185 = .ok (.iastore, 1) := by decide +kernel
theorem dX12_leg_186 : decode cX12_leg 186 = .ok (.aload_n 0, 1) := by decide +kernel
theorem dX12_leg_187 : decode cX12_leg 187 = .ok (.getfield 56, 3) := by decide +kernel
theorem dX12_leg_190 : decode cX12_leg 190 = .ok (.aload_n 0, 1) := by decide +kernel
theorem dX12_leg_191 : decode cX12_leg 191 = .ok (.getfield 155, 3) := by decide +kernel
theorem dX12_leg_194 : decode cX12_leg 194 = .ok (.iload 4, 2) := by decide +kernel
theorem dX12_leg_196 : decode cX12_leg 196 = .ok (.iastore, 1) := by decide +kernel
theorem dX12_leg_197 : decode cX12_leg 197 = .ok (.aload_n 0, 1) := by decide +kernel
theorem dX12_leg_198 : decode cX12_leg 198 = .ok (.dup, 1) := by decide +kernel
theorem dX12_leg_199 : decode cX12_leg 199 = .ok (.getfield 155, 3) := by decide +kernel
theorem dX12_leg_202 : decode cX12_leg 202 = .ok (.iconst 1, 1) := by decide +kernel
theorem dX12_leg_203 : decode cX12_leg 203 = .ok (.iadd, 1) := by decide +kernel
theorem dX12_leg_204 : decode cX12_leg 204 = .ok (.putfield 155, 3) := by decide +kernel
theorem dX12_leg_207 : decode cX12_leg 207 = .ok (.aload_n 0, 1) := by decide +kernel
theorem dX12_leg_208 : decode cX12_leg 208 = .ok (.getfield 155, 3) := by decide +kernel
theorem dX12_leg_211 : decode cX12_leg 211 = .ok (.ireturn, 1) := by decide +kernel
theorem dX12_wipe_0 : decode cX12_wipe 0 = .ok (.aload_n 0, 1) := by decide +kernel
theorem dX12_wipe_1 : decode cX12_wipe 1 = .ok (.iconst 0, 1) := by decide +kernel
theorem dX12_wipe_2 : decode cX12_wipe 2 = .ok (.putfield 130, 3) := by decide +kernel
theorem dX12_wipe_5 : decode cX12_wipe 5 = .ok (.aload_n 0, 1) := by decide +kernel
theorem dX12_wipe_6 : decode cX12_wipe 6 = .ok (.getfield 155, 3) := by decide +kernel
theorem dX12_wipe_9 : decode cX12_wipe 9 = .ok (.istore_n 1, 1) := by decide +kernel
theorem dX12_wipe_10 : decode cX12_wipe 10 = .ok (.aload_n 0, 1) := by decide +kernel
theorem dX12_wipe_11 : decode cX12_wipe 11 = .ok (.iconst 0, 1) := by decide +kernel
theorem dX12_wipe_12 : decode cX12_wipe 12 = .ok (.putfield 155, 3) := by decide +kernel
theorem dX12_wipe_15 : decode cX12_wipe 15 = .ok (.iload_n 1, 1) := by decide +kernel
theorem dX12_wipe_16 : decode cX12_wipe 16 = .ok (.ireturn, 1) := by decide +kernel
theorem dX12_placeOf_0 : decode cX12_placeOf 0 = .ok (.iload_n 1, 1) := by decide +kernel
theorem dX12_placeOf_1 : decode cX12_placeOf 1 = .ok (.ifCond .ne 12, 3) := by decide +kernel
theorem dX12_placeOf_4 : decode cX12_placeOf 4 = .ok (.aload_n 0, 1) := by decide +kernel
theorem dX12_placeOf_5 : decode cX12_placeOf 5 = .ok (.getfield 47, 3) := by decide +kernel
theorem dX12_placeOf_8 : decode cX12_placeOf 8 = .ok (.iconst 0, 1) := by decide +kernel
theorem dX12_placeOf_9 : decode cX12_placeOf 9 = .ok (.iaload, 1) := by decide +kernel
theorem dX12_placeOf_10 : decode cX12_placeOf 10 = .ok (.goto 11, 3) := by decide +kernel
theorem dX12_placeOf_13 : decode cX12_placeOf 13 = .ok (.aload_n 0, 1) := by decide +kernel
theorem dX12_placeOf_14 : decode cX12_placeOf 14 = .ok (.getfield 50, 3) := by decide +kernel
theorem dX12_placeOf_17 : decode cX12_placeOf 17 = .ok (.iload_n 1, 1) := by decide +kernel
theorem dX12_placeOf_18 : decode cX12_placeOf 18 = .ok (.iconst 1, 1) := by decide +kernel
theorem dX12_placeOf_19 : decode cX12_placeOf 19 = .ok (.isub, 1) := by decide +kernel
theorem dX12_placeOf_20 : decode cX12_placeOf 20 = .ok (.iaload, 1) := by decide +kernel
theorem dX12_placeOf_21 : decode cX12_placeOf 21 = .ok (.ireturn, 1) := by decide +kernel
theorem dX12_isStop_0 : decode cX12_isStop 0 = .ok (.aload_n 0, 1) := by decide +kernel
theorem dX12_isStop_1 : decode cX12_isStop 1 = .ok (.getfield 56, 3) := by decide +kernel
theorem dX12_isStop_4 : decode cX12_isStop 4 = .ok (.iload_n 1, 1) := by decide +kernel
theorem dX12_isStop_5 : decode cX12_isStop 5 = .ok (.iaload, 1) := by decide +kernel
theorem dX12_isStop_6 : decode cX12_isStop 6 = .ok (.aload_n 0, 1) := by decide +kernel
theorem dX12_isStop_7 : decode cX12_isStop 7 = .ok (.getfield 56, 3) := by decide +kernel
theorem dX12_isStop_10 : decode cX12_isStop 10 = .ok (.iload_n 1, 1) := by decide +kernel
theorem dX12_isStop_11 : decode cX12_isStop 11 = .ok (.iconst 1, 1) := by decide +kernel
theorem dX12_isStop_12 : decode cX12_isStop 12 = .ok (.isub, 1) := by decide +kernel
theorem dX12_isStop_13 : decode cX12_isStop 13 = .ok (.iaload, 1) := by decide +kernel
theorem dX12_isStop_14 : decode cX12_isStop 14 = .ok (.if_icmp .le 7, 3) := by decide +kernel
theorem dX12_isStop_17 : decode cX12_isStop 17 = .ok (.iconst 1, 1) := by decide +kernel
theorem dX12_isStop_18 : decode cX12_isStop 18 = .ok (.goto 4, 3) := by decide +kernel
theorem dX12_isStop_21 : decode cX12_isStop 21 = .ok (.iconst 0, 1) := by decide +kernel
theorem dX12_isStop_22 : decode cX12_isStop 22 = .ok (.ireturn, 1) := by decide +kernel
theorem dX12_lowest_0 : decode cX12_lowest 0 = .ok (.iconst (-1), 1) := by decide +kernel
theorem dX12_lowest_1 : decode cX12_lowest 1 = .ok (.istore 4, 2) := by decide +kernel
theorem dX12_lowest_3 : decode cX12_lowest 3 = .ok (.iconst 0, 1) := by decide +kernel
theorem dX12_lowest_4 : decode cX12_lowest 4 = .ok (.istore 5, 2) := by decide +kernel
theorem dX12_lowest_6 : decode cX12_lowest 6 = .ok (.iload 5, 2) := by decide +kernel
theorem dX12_lowest_8 : decode cX12_lowest 8 = .ok (.aload_n 0, 1) := by decide +kernel
theorem dX12_lowest_9 : decode cX12_lowest 9 = .ok (.getfield 146, 3) := by decide +kernel
theorem dX12_lowest_12 : decode cX12_lowest 12 = .ok (.if_icmp .ge 120, 3) := by decide +kernel
theorem dX12_lowest_15 : decode cX12_lowest 15 = .ok (.aload_n 0, 1) := by decide +kernel
theorem dX12_lowest_16 : decode cX12_lowest 16 = .ok (.getfield 25, 3) := by decide +kernel
theorem dX12_lowest_19 : decode cX12_lowest 19 = .ok (.iload 5, 2) := by decide +kernel
theorem dX12_lowest_21 : decode cX12_lowest 21 = .ok (.iaload, 1) := by decide +kernel
theorem dX12_lowest_22 : decode cX12_lowest 22 = .ok (.iload_n 1, 1) := by decide +kernel
theorem dX12_lowest_23 : decode cX12_lowest 23 = .ok (.if_icmp .ne 63, 3) := by decide +kernel
theorem dX12_lowest_26 : decode cX12_lowest 26 = .ok (.aload_n 0, 1) := by decide +kernel
theorem dX12_lowest_27 : decode cX12_lowest 27 = .ok (.getfield 28, 3) := by decide +kernel
theorem dX12_lowest_30 : decode cX12_lowest 30 = .ok (.iload 5, 2) := by decide +kernel
theorem dX12_lowest_32 : decode cX12_lowest 32 = .ok (.iaload, 1) := by decide +kernel
theorem dX12_lowest_33 : decode cX12_lowest 33 = .ok (.iload_n 2, 1) := by decide +kernel
theorem dX12_lowest_34 : decode cX12_lowest 34 = .ok (.if_icmp .ne 52, 3) := by decide +kernel
theorem dX12_lowest_37 : decode cX12_lowest 37 = .ok (.aload_n 0, 1) := by decide +kernel
theorem dX12_lowest_38 : decode cX12_lowest 38 = .ok (.getfield 158, 3) := by decide +kernel
theorem dX12_lowest_41 : decode cX12_lowest 41 = .ok (.aload_n 0, 1) := by decide +kernel
theorem dX12_lowest_42 : decode cX12_lowest 42 = .ok (.getfield 34, 3) := by decide +kernel
theorem dX12_lowest_45 : decode cX12_lowest 45 = .ok (.iload 5, 2) := by decide +kernel
theorem dX12_lowest_47 : decode cX12_lowest 47 = .ok (.iaload, 1) := by decide +kernel
theorem dX12_lowest_48 : decode cX12_lowest 48 = .ok (.aload_n 0, 1) := by decide +kernel
theorem dX12_lowest_49 : decode cX12_lowest 49 = .ok (.getfield 37, 3) := by decide +kernel
theorem dX12_lowest_52 : decode cX12_lowest 52 = .ok (.iload 5, 2) := by decide +kernel
theorem dX12_lowest_54 : decode cX12_lowest 54 = .ok (.iaload, 1) := by decide +kernel
theorem dX12_lowest_55 : decode cX12_lowest 55 = .ok (.invokestatic 133, 3) := by decide +kernel
theorem dX12_lowest_58 : decode cX12_lowest 58 = .ok (.ifCond .eq 28, 3) := by decide +kernel
theorem dX12_lowest_61 : decode cX12_lowest 61 = .ok (.aload_n 0, 1) := by decide +kernel
theorem dX12_lowest_62 : decode cX12_lowest 62 = .ok (.getfield 43, 3) := by decide +kernel
theorem dX12_lowest_65 : decode cX12_lowest 65 = .ok (.iload 5, 2) := by decide +kernel
theorem dX12_lowest_67 : decode cX12_lowest 67 = .ok (.baload, 1) := by decide +kernel
theorem dX12_lowest_68 : decode cX12_lowest 68 = .ok (.ifCond .ne 18, 3) := by decide +kernel
theorem dX12_lowest_71 : decode cX12_lowest 71 = .ok (.aload_n 0, 1) := by decide +kernel
theorem dX12_lowest_72 : decode cX12_lowest 72 = .ok (.getfield 40, 3) := by decide +kernel
theorem dX12_lowest_75 : decode cX12_lowest 75 = .ok (.iload 5, 2) := by decide +kernel
theorem dX12_lowest_77 : decode cX12_lowest 77 = .ok (.iaload, 1) := by decide +kernel
theorem dX12_lowest_78 : decode cX12_lowest 78 = .ok (.iload_n 3, 1) := by decide +kernel
theorem dX12_lowest_79 : decode cX12_lowest 79 = .ok (.if_icmp .lt 7, 3) := by decide +kernel
theorem dX12_lowest_82 : decode cX12_lowest 82 = .ok (.iconst 1, 1) := by decide +kernel
theorem dX12_lowest_83 : decode cX12_lowest 83 = .ok (.goto 4, 3) := by decide +kernel
theorem dX12_lowest_86 : decode cX12_lowest 86 = .ok (.iconst 0, 1) := by decide +kernel
theorem dX12_lowest_87 : decode cX12_lowest 87 = .ok (.istore 6, 2) := by decide +kernel
theorem dX12_lowest_89 : decode cX12_lowest 89 = .ok (.iload 6, 2) := by decide +kernel
theorem dX12_lowest_91 : decode cX12_lowest 91 = .ok (.ifCond .eq 31, 3) := by decide +kernel
theorem dX12_lowest_94 : decode cX12_lowest 94 = .ok (.iload 4, 2) := by decide +kernel
theorem dX12_lowest_96 : decode cX12_lowest 96 = .ok (.iconst (-1), 1) := by decide +kernel
theorem dX12_lowest_97 : decode cX12_lowest 97 = .ok (.if_icmp .eq 15, 3) := by decide +kernel
theorem dX12_lowest_100 : decode cX12_lowest 100 = .ok (.aload_n 0, 1) := by decide +kernel
theorem dX12_lowest_101 : decode cX12_lowest 101 = .ok (.getfield 31, 3) := by decide +kernel
theorem dX12_lowest_104 : decode cX12_lowest 104 = .ok (.iload 5, 2) := by decide +kernel
theorem dX12_lowest_106 : decode cX12_lowest 106 = .ok (.iaload, 1) := by decide +kernel
theorem dX12_lowest_107 : decode cX12_lowest 107 = .ok (.iload 4, 2) := by decide +kernel
theorem dX12_lowest_109 : decode cX12_lowest 109 = .ok (.if_icmp .ge 13, 3) := by decide +kernel
theorem dX12_lowest_112 : decode cX12_lowest 112 = .ok (.aload_n 0, 1) := by decide +kernel
theorem dX12_lowest_113 : decode cX12_lowest 113 = .ok (.getfield 31, 3) := by decide +kernel
theorem dX12_lowest_116 : decode cX12_lowest 116 = .ok (.iload 5, 2) := by decide +kernel
theorem dX12_lowest_118 : decode cX12_lowest 118 = .ok (.iaload, 1) := by decide +kernel
theorem dX12_lowest_119 : decode cX12_lowest 119 = .ok (.goto 5, 3) := by decide +kernel
theorem dX12_lowest_122 : decode cX12_lowest 122 = .ok (.iload 4, 2) := by decide +kernel
theorem dX12_lowest_124 : decode cX12_lowest 124 = .ok (.istore 4, 2) := by decide +kernel
theorem dX12_lowest_126 : decode cX12_lowest 126 = .ok (.iinc 5 1, 3) := by decide +kernel
theorem dX12_lowest_129 : decode cX12_lowest 129 = .ok (.goto (-123), 3) := by decide +kernel
theorem dX12_lowest_132 : decode cX12_lowest 132 = .ok (.iload 4, 2) := by decide +kernel
theorem dX12_lowest_134 : decode cX12_lowest 134 = .ok (.ireturn, 1) := by decide +kernel
theorem dX12_stopsIn_0 : decode cX12_stopsIn 0 = .ok (.iconst 0, 1) := by decide +kernel
theorem dX12_stopsIn_1 : decode cX12_stopsIn 1 = .ok (.istore_n 3, 1) := by decide +kernel
theorem dX12_stopsIn_2 : decode cX12_stopsIn 2 = .ok (.iload_n 1, 1) := by decide +kernel
theorem dX12_stopsIn_3 : decode cX12_stopsIn 3 = .ok (.iconst 1, 1) := by decide +kernel
theorem dX12_stopsIn_4 : decode cX12_stopsIn 4 = .ok (.iadd, 1) := by decide +kernel
theorem dX12_stopsIn_5 : decode cX12_stopsIn 5 = .ok (.istore 4, 2) := by decide +kernel
theorem dX12_stopsIn_7 : decode cX12_stopsIn 7 = .ok (.iload 4, 2) := by decide +kernel
theorem dX12_stopsIn_9 : decode cX12_stopsIn 9 = .ok (.iload_n 2, 1) := by decide +kernel
theorem dX12_stopsIn_10 : decode cX12_stopsIn 10 = .ok (.if_icmp .ge 26, 3) := by decide +kernel
theorem dX12_stopsIn_13 : decode cX12_stopsIn 13 = .ok (.iload_n 3, 1) := by decide +kernel
theorem dX12_stopsIn_14 : decode cX12_stopsIn 14 = .ok (.aload_n 0, 1) := by decide +kernel
theorem dX12_stopsIn_15 : decode cX12_stopsIn 15 = .ok (.iload 4, 2) := by decide +kernel
theorem dX12_stopsIn_17 : decode cX12_stopsIn 17 = .ok (.invokevirtual 161, 3) := by decide +kernel
theorem dX12_stopsIn_20 : decode cX12_stopsIn 20 = .ok (.ifCond .eq 7, 3) := by decide +kernel
theorem dX12_stopsIn_23 : decode cX12_stopsIn 23 = .ok (.iconst 1, 1) := by decide +kernel
theorem dX12_stopsIn_24 : decode cX12_stopsIn 24 = .ok (.goto 4, 3) := by decide +kernel
theorem dX12_stopsIn_27 : decode cX12_stopsIn 27 = .ok (.iconst 0, 1) := by decide +kernel
theorem dX12_stopsIn_28 : decode cX12_stopsIn 28 = .ok (.iadd, 1) := by decide +kernel
theorem dX12_stopsIn_29 : decode cX12_stopsIn 29 = .ok (.istore_n 3, 1) := by decide +kernel
theorem dX12_stopsIn_30 : decode cX12_stopsIn 30 = .ok (.iinc 4 1, 3) := by decide +kernel
theorem dX12_stopsIn_33 : decode cX12_stopsIn 33 = .ok (.goto (-26), 3) := by decide +kernel
theorem dX12_stopsIn_36 : decode cX12_stopsIn 36 = .ok (.iload_n 3, 1) := by decide +kernel
theorem dX12_stopsIn_37 : decode cX12_stopsIn 37 = .ok (.ireturn, 1) := by decide +kernel
theorem dX12_milesOf_0 : decode cX12_milesOf 0 = .ok (.aload_n 0, 1) := by decide +kernel
theorem dX12_milesOf_1 : decode cX12_milesOf 1 = .ok (.getfield 7, 3) := by decide +kernel
theorem dX12_milesOf_4 : decode cX12_milesOf 4 = .ok (.bipush 10, 2) := by decide +kernel
theorem dX12_milesOf_6 : decode cX12_milesOf 6 = .ok (.aload_n 0, 1) := by decide +kernel
theorem dX12_milesOf_7 : decode cX12_milesOf 7 = .ok (.getfield 47, 3) := by decide +kernel
theorem dX12_milesOf_10 : decode cX12_milesOf 10 = .ok (.iload_n 1, 1) := by decide +kernel
theorem dX12_milesOf_11 : decode cX12_milesOf 11 = .ok (.iaload, 1) := by decide +kernel
theorem dX12_milesOf_12 : decode cX12_milesOf 12 = .ok (.imul, 1) := by decide +kernel
theorem dX12_milesOf_13 : decode cX12_milesOf 13 = .ok (.aload_n 0, 1) := by decide +kernel
theorem dX12_milesOf_14 : decode cX12_milesOf 14 = .ok (.getfield 50, 3) := by decide +kernel
theorem dX12_milesOf_17 : decode cX12_milesOf 17 = .ok (.iload_n 1, 1) := by decide +kernel
theorem dX12_milesOf_18 : decode cX12_milesOf 18 = .ok (.iaload, 1) := by decide +kernel
theorem dX12_milesOf_19 : decode cX12_milesOf 19 = .ok (.iadd, 1) := by decide +kernel
theorem dX12_milesOf_20 : decode cX12_milesOf 20 = .ok (.iaload, 1) := by decide +kernel
theorem dX12_milesOf_21 : decode cX12_milesOf 21 = .ok (.ireturn, 1) := by decide +kernel
theorem dX12_partOf_0 : decode cX12_partOf 0 = .ok (.aload_n 0, 1) := by decide +kernel
theorem dX12_partOf_1 : decode cX12_partOf 1 = .ok (.iload_n 1, 1) := by decide +kernel
theorem dX12_partOf_2 : decode cX12_partOf 2 = .ok (.invokevirtual 164, 3) := by decide +kernel
theorem dX12_partOf_5 : decode cX12_partOf 5 = .ok (.istore_n 3, 1) := by decide +kernel
theorem dX12_partOf_6 : decode cX12_partOf 6 = .ok (.aload_n 0, 1) := by decide +kernel
theorem dX12_partOf_7 : decode cX12_partOf 7 = .ok (.iload_n 3, 1) := by decide +kernel
theorem dX12_partOf_8 : decode cX12_partOf 8 = .ok (.aload_n 0, 1) := by decide +kernel
theorem dX12_partOf_9 : decode cX12_partOf 9 = .ok (.iload_n 2, 1) := by decide +kernel
theorem dX12_partOf_10 : decode cX12_partOf 10 = .ok (.invokevirtual 164, 3) := by decide +kernel
theorem dX12_partOf_13 : decode cX12_partOf 13 = .ok (.iconst 0, 1) := by decide +kernel
theorem dX12_partOf_14 : decode cX12_partOf 14 = .ok (.invokevirtual 168, 3) := by decide +kernel
theorem dX12_partOf_17 : decode cX12_partOf 17 = .ok (.iconst (-1), 1) := by decide +kernel
theorem dX12_partOf_18 : decode cX12_partOf 18 = .ok (.if_icmp .ne 5, 3) := by decide +kernel
theorem dX12_partOf_21 : decode cX12_partOf 21 = .ok (.iconst (-1), 1) := by decide +kernel
theorem dX12_partOf_22 : decode cX12_partOf 22 = .ok (.ireturn, 1) := by decide +kernel
theorem dX12_partOf_23 : decode cX12_partOf 23 = .ok (.aload_n 0, 1) := by decide +kernel
theorem dX12_partOf_24 : decode cX12_partOf 24 = .ok (.iload_n 3, 1) := by decide +kernel
theorem dX12_partOf_25 : decode cX12_partOf 25 = .ok (.aload_n 0, 1) := by decide +kernel
theorem dX12_partOf_26 : decode cX12_partOf 26 = .ok (.iload_n 2, 1) := by decide +kernel
theorem dX12_partOf_27 : decode cX12_partOf 27 = .ok (.invokevirtual 164, 3) := by decide +kernel
theorem dX12_partOf_30 : decode cX12_partOf 30 = .ok (.aload_n 0, 1) := by decide +kernel
theorem dX12_partOf_31 : decode cX12_partOf 31 = .ok (.iload_n 1, 1) := by decide +kernel
theorem dX12_partOf_32 : decode cX12_partOf 32 = .ok (.iload_n 2, 1) := by decide +kernel
theorem dX12_partOf_33 : decode cX12_partOf 33 = .ok (.invokevirtual 172, 3) := by decide +kernel
theorem dX12_partOf_36 : decode cX12_partOf 36 = .ok (.invokevirtual 168, 3) := by decide +kernel
theorem dX12_partOf_39 : decode cX12_partOf 39 = .ok (.istore 4, 2) := by decide +kernel
theorem dX12_partOf_41 : decode cX12_partOf 41 = .ok (.iload 4, 2) := by decide +kernel
theorem dX12_partOf_43 : decode cX12_partOf 43 = .ok (.iconst (-1), 1) := by decide +kernel
theorem dX12_partOf_44 : decode cX12_partOf 44 = .ok (.if_icmp .ne 6, 3) := by decide +kernel
theorem dX12_partOf_47 : decode cX12_partOf 47 = .ok (.bipush (-2), 2) := by decide +kernel
theorem dX12_partOf_49 : decode cX12_partOf 49 = .ok (.ireturn, 1) := by decide +kernel
theorem dX12_partOf_50 : decode cX12_partOf 50 = .ok (.aload_n 0, 1) := by decide +kernel
theorem dX12_partOf_51 : decode cX12_partOf 51 = .ok (.getfield 7, 3) := by decide +kernel
theorem dX12_partOf_54 : decode cX12_partOf 54 = .ok (.bipush 10, 2) := by decide +kernel
theorem dX12_partOf_56 : decode cX12_partOf 56 = .ok (.iload_n 3, 1) := by decide +kernel
theorem dX12_partOf_57 : decode cX12_partOf 57 = .ok (.imul, 1) := by decide +kernel
theorem dX12_partOf_58 : decode cX12_partOf 58 = .ok (.aload_n 0, 1) := by decide +kernel
theorem dX12_partOf_59 : decode cX12_partOf 59 = .ok (.iload_n 2, 1) := by decide +kernel
theorem dX12_partOf_60 : decode cX12_partOf 60 = .ok (.invokevirtual 164, 3) := by decide +kernel
theorem dX12_partOf_63 : decode cX12_partOf 63 = .ok (.iadd, 1) := by decide +kernel
theorem dX12_partOf_64 : decode cX12_partOf 64 = .ok (.iaload, 1) := by decide +kernel
theorem dX12_partOf_65 : decode cX12_partOf 65 = .ok (.istore 5, 2) := by decide +kernel
theorem dX12_partOf_67 : decode cX12_partOf 67 = .ok (.iload 5, 2) := by decide +kernel
theorem dX12_partOf_69 : decode cX12_partOf 69 = .ok (.bipush 120, 2) := by decide +kernel
theorem dX12_partOf_71 : decode cX12_partOf 71 = .ok (.imul, 1) := by decide +kernel
theorem dX12_partOf_72 : decode cX12_partOf 72 = .ok (.bipush 100, 2) := by decide +kernel
theorem dX12_partOf_74 : decode cX12_partOf 74 = .ok (.idiv, 1) := by decide +kernel
theorem dX12_partOf_75 : decode cX12_partOf 75 = .ok (.istore 6, 2) := by decide +kernel
theorem dX12_partOf_77 : decode cX12_partOf 77 = .ok (.iconst 0, 1) := by decide +kernel
theorem dX12_partOf_78 : decode cX12_partOf 78 = .ok (.istore 7, 2) := by decide +kernel
theorem dX12_partOf_80 : decode cX12_partOf 80 = .ok (.iload_n 1, 1) := by decide +kernel
theorem dX12_partOf_81 : decode cX12_partOf 81 = .ok (.istore 8, 2) := by decide +kernel
theorem dX12_partOf_83 : decode cX12_partOf 83 = .ok (.iload 8, 2) := by decide +kernel
theorem dX12_partOf_85 : decode cX12_partOf 85 = .ok (.iload_n 2, 1) := by decide +kernel
theorem dX12_partOf_86 : decode cX12_partOf 86 = .ok (.if_icmp .ge 20, 3) := by decide +kernel
theorem dX12_partOf_89 : decode cX12_partOf 89 = .ok (.iload 7, 2) := by decide +kernel
theorem dX12_partOf_91 : decode cX12_partOf 91 = .ok (.aload_n 0, 1) := by decide +kernel
theorem dX12_partOf_92 : decode cX12_partOf 92 = .ok (.iload 8, 2) := by decide +kernel
theorem dX12_partOf_94 : decode cX12_partOf 94 = .ok (.invokevirtual 176, 3) := by decide +kernel
theorem dX12_partOf_97 : decode cX12_partOf 97 = .ok (.iadd, 1) := by decide +kernel
theorem dX12_partOf_98 : decode cX12_partOf 98 = .ok (.istore 7, 2) := by decide +kernel
theorem dX12_partOf_100 : decode cX12_partOf 100 = .ok (.iinc 8 1, 3) := by decide +kernel
theorem dX12_partOf_103 : decode cX12_partOf 103 = .ok (.goto (-20), 3) := by decide +kernel
theorem dX12_partOf_106 : decode cX12_partOf 106 = .ok (.iload 5, 2) := by decide +kernel
theorem dX12_partOf_108 : decode cX12_partOf 108 = .ok (.ifCond .eq 16, 3) := by decide +kernel
theorem dX12_partOf_111 : decode cX12_partOf 111 = .ok (.iload 7, 2) := by decide +kernel
theorem dX12_partOf_113 : decode cX12_partOf 113 = .ok (.iload 6, 2) := by decide +kernel
theorem dX12_partOf_115 : decode cX12_partOf 115 = .ok (.bipush 125, 2) := by decide +kernel
theorem dX12_partOf_117 : decode cX12_partOf 117 = .ok (.imul, 1) := by decide +kernel
theorem dX12_partOf_118 : decode cX12_partOf 118 = .ok (.bipush 100, 2) := by decide +kernel
theorem dX12_partOf_120 : decode cX12_partOf 120 = .ok (.idiv, 1) := by decide +kernel
theorem dX12_partOf_121 : decode cX12_partOf 121 = .ok (.if_icmp .le 6, 3) := by decide +kernel
theorem dX12_partOf_124 : decode cX12_partOf 124 = .ok (.bipush (-3), 2) := by decide +kernel
theorem dX12_partOf_126 : decode cX12_partOf 126 = .ok (.ireturn, 1) := by decide +kernel
theorem dX12_partOf_127 : decode cX12_partOf 127 = .ok (.iload_n 1, 1) := by decide +kernel
theorem dX12_partOf_128 : decode cX12_partOf 128 = .ok (.iconst 1, 1) := by decide +kernel
theorem dX12_partOf_129 : decode cX12_partOf 129 = .ok (.iadd, 1) := by decide +kernel
theorem dX12_partOf_130 : decode cX12_partOf 130 = .ok (.istore 8, 2) := by decide +kernel
theorem dX12_partOf_132 : decode cX12_partOf 132 = .ok (.iload 8, 2) := by decide +kernel
theorem dX12_partOf_134 : decode cX12_partOf 134 = .ok (.iload_n 2, 1) := by decide +kernel
theorem dX12_partOf_135 : decode cX12_partOf 135 = .ok (.if_icmp .ge 39, 3) := by decide +kernel
theorem dX12_partOf_138 : decode cX12_partOf 138 = .ok (.aload_n 0, 1) := by decide +kernel
theorem dX12_partOf_139 : decode cX12_partOf 139 = .ok (.iload_n 3, 1) := by decide +kernel
theorem dX12_partOf_140 : decode cX12_partOf 140 = .ok (.aload_n 0, 1) := by decide +kernel
theorem dX12_partOf_141 : decode cX12_partOf 141 = .ok (.iload 8, 2) := by decide +kernel
theorem dX12_partOf_143 : decode cX12_partOf 143 = .ok (.invokevirtual 164, 3) := by decide +kernel
theorem dX12_partOf_146 : decode cX12_partOf 146 = .ok (.iconst 0, 1) := by decide +kernel
theorem dX12_partOf_147 : decode cX12_partOf 147 = .ok (.invokevirtual 168, 3) := by decide +kernel
theorem dX12_partOf_150 : decode cX12_partOf 150 = .ok (.istore 9, 2) := by decide +kernel
theorem dX12_partOf_152 : decode cX12_partOf 152 = .ok (.iload 9, 2) := by decide +kernel
theorem dX12_partOf_154 : decode cX12_partOf 154 = .ok (.iload 4, 2) := by decide +kernel
theorem dX12_partOf_156 : decode cX12_partOf 156 = .ok (.if_icmp .le 8, 3) := by decide +kernel
theorem dX12_partOf_159 : decode cX12_partOf 159 = .ok (.iload 9, 2) := by decide +kernel
theorem dX12_partOf_161 : decode cX12_partOf 161 = .ok (.goto 5, 3) := by decide +kernel
theorem dX12_partOf_164 : decode cX12_partOf 164 = .ok (.iload 4, 2) := by decide +kernel
theorem dX12_partOf_166 : decode cX12_partOf 166 = .ok (.istore 4, 2) := by decide +kernel
theorem dX12_partOf_168 : decode cX12_partOf 168 = .ok (.iinc 8 1, 3) := by decide +kernel
theorem dX12_partOf_171 : decode cX12_partOf 171 = .ok (.goto (-39), 3) := by decide +kernel
theorem dX12_partOf_174 : decode cX12_partOf 174 = .ok (.iconst 0, 1) := by decide +kernel
theorem dX12_partOf_175 : decode cX12_partOf 175 = .ok (.istore 8, 2) := by decide +kernel
theorem dX12_partOf_177 : decode cX12_partOf 177 = .ok (.iload 6, 2) := by decide +kernel
theorem dX12_partOf_179 : decode cX12_partOf 179 = .ok (.bipush 100, 2) := by decide +kernel
theorem dX12_partOf_181 : decode cX12_partOf 181 = .ok (.iload 8, 2) := by decide +kernel
theorem dX12_partOf_183 : decode cX12_partOf 183 = .ok (.iadd, 1) := by decide +kernel
theorem dX12_partOf_184 : decode cX12_partOf 184 = .ok (.imul, 1) := by decide +kernel
theorem dX12_partOf_185 : decode cX12_partOf 185 = .ok (.bipush 100, 2) := by decide +kernel
theorem dX12_partOf_187 : decode cX12_partOf 187 = .ok (.idiv, 1) := by decide +kernel
theorem dX12_partOf_188 : decode cX12_partOf 188 = .ok (.iload 7, 2) := by decide +kernel
theorem dX12_partOf_190 : decode cX12_partOf 190 = .ok (.if_icmp .ge 9, 3) := by decide +kernel
theorem dX12_partOf_193 : decode cX12_partOf 193 = .ok (.iinc 8 5, 3) := by decide +kernel
theorem dX12_partOf_196 : decode cX12_partOf 196 = .ok (.goto (-19), 3) := by decide +kernel
theorem dX12_partOf_199 : decode cX12_partOf 199 = .ok (.bipush 100, 2) := by decide +kernel
theorem dX12_partOf_201 : decode cX12_partOf 201 = .ok (.aload_n 0, 1) := by decide +kernel
theorem dX12_partOf_202 : decode cX12_partOf 202 = .ok (.getfield 126, 3) := by decide +kernel
theorem dX12_partOf_205 : decode cX12_partOf 205 = .ok (.imul, 1) := by decide +kernel
theorem dX12_partOf_206 : decode cX12_partOf 206 = .ok (.istore 9, 2) := by decide +kernel
theorem dX12_partOf_208 : decode cX12_partOf 208 = .ok (.iload 4, 2) := by decide +kernel
theorem dX12_partOf_210 : decode cX12_partOf 210 = .ok (.bipush 100, 2) := by decide +kernel
theorem dX12_partOf_212 : decode cX12_partOf 212 = .ok (.iload 8, 2) := by decide +kernel
theorem dX12_partOf_214 : decode cX12_partOf 214 = .ok (.iadd, 1) := by decide +kernel
theorem dX12_partOf_215 : decode cX12_partOf 215 = .ok (.imul, 1) := by decide +kernel
theorem dX12_partOf_216 : decode cX12_partOf 216 = .ok (.iload 9, 2) := by decide +kernel
theorem dX12_partOf_218 : decode cX12_partOf 218 = .ok (.iadd, 1) := by decide +kernel
theorem dX12_partOf_219 : decode cX12_partOf 219 = .ok (.iconst 1, 1) := by decide +kernel
theorem dX12_partOf_220 : decode cX12_partOf 220 = .ok (.isub, 1) := by decide +kernel
theorem dX12_partOf_221 : decode cX12_partOf 221 = .ok (.iload 9, 2) := by decide +kernel
theorem dX12_partOf_223 : decode cX12_partOf 223 = .ok (.idiv, 1) := by decide +kernel
theorem dX12_partOf_224 : decode cX12_partOf 224 = .ok (.aload_n 0, 1) := by decide +kernel
theorem dX12_partOf_225 : decode cX12_partOf 225 = .ok (.getfield 126, 3) := by decide +kernel
theorem dX12_partOf_228 : decode cX12_partOf 228 = .ok (.imul, 1) := by decide +kernel
theorem dX12_partOf_229 : decode cX12_partOf 229 = .ok (.ireturn, 1) := by decide +kernel
theorem dX12_part_0 : decode cX12_part 0 = .ok (.aload_n 0, 1) := by decide +kernel
theorem dX12_part_1 : decode cX12_part 1 = .ok (.getfield 155, 3) := by decide +kernel
theorem dX12_part_4 : decode cX12_part 4 = .ok (.ifCond .le 31, 3) := by decide +kernel
theorem dX12_part_7 : decode cX12_part 7 = .ok (.iload_n 1, 1) := by decide +kernel
theorem dX12_part_8 : decode cX12_part 8 = .ok (.iconst 0, 1) := by decide +kernel
theorem dX12_part_9 : decode cX12_part 9 = .ok (.aload_n 0, 1) := by decide +kernel
theorem dX12_part_10 : decode cX12_part 10 = .ok (.getfield 155, 3) := by decide +kernel
theorem dX12_part_13 : decode cX12_part 13 = .ok (.invokestatic 133, 3) := by decide +kernel
theorem dX12_part_16 : decode cX12_part 16 = .ok (.ifCond .eq 19, 3) := by decide +kernel
theorem dX12_part_19 : decode cX12_part 19 = .ok (.iload_n 2, 1) := by decide +kernel
theorem dX12_part_20 : decode cX12_part 20 = .ok (.iconst 0, 1) := by decide +kernel
theorem dX12_part_21 : decode cX12_part 21 = .ok (.aload_n 0, 1) := by decide +kernel
theorem dX12_part_22 : decode cX12_part 22 = .ok (.getfield 155, 3) := by decide +kernel
theorem dX12_part_25 : decode cX12_part 25 = .ok (.invokestatic 133, 3) := by decide +kernel
theorem dX12_part_28 : decode cX12_part 28 = .ok (.ifCond .eq 7, 3) := by decide +kernel
theorem dX12_part_31 : decode cX12_part 31 = .ok (.iconst 1, 1) := by decide +kernel
theorem dX12_part_32 : decode cX12_part 32 = .ok (.goto 4, 3) := by decide +kernel
theorem dX12_part_35 : decode cX12_part 35 = .ok (.iconst 0, 1) := by decide +kernel
theorem dX12_part_36 : decode cX12_part 36 = .ok (.istore_n 3, 1) := by decide +kernel
theorem dX12_part_37 : decode cX12_part 37 = .ok (.aload_n 0, 1) := by decide +kernel
theorem dX12_part_38 : decode cX12_part 38 = .ok (.iload_n 3, 1) := by decide +kernel
theorem dX12_part_39 : decode cX12_part 39 = .ok (.iload_n 2, 1) := by decide +kernel
theorem dX12_part_40 : decode cX12_part 40 = .ok (.iload_n 1, 1) := by decide +kernel
theorem dX12_part_41 : decode cX12_part 41 = .ok (.if_icmp .le 7, 3) := by decide +kernel
theorem dX12_part_44 : decode cX12_part 44 = .ok (.iconst 1, 1) := by decide +kernel
theorem dX12_part_45 : decode cX12_part 45 = .ok (.goto 4, 3) := by decide +kernel
theorem dX12_part_48 : decode cX12_part 48 = .ok (.iconst 0, 1) := by decide +kernel
theorem dX12_part_49 : decode cX12_part 49 = .ok (.iconst 1, 1) := by decide +kernel
theorem dX12_part_50 : decode cX12_part 50 = .ok (.invokevirtual 141, 3) := by decide +kernel
theorem dX12_part_53 : decode cX12_part 53 = .ok (.ifCond .eq 12, 3) := by decide +kernel
theorem dX12_part_56 : decode cX12_part 56 = .ok (.aload_n 0, 1) := by decide +kernel
theorem dX12_part_57 : decode cX12_part 57 = .ok (.iload_n 1, 1) := by decide +kernel
theorem dX12_part_58 : decode cX12_part 58 = .ok (.iload_n 2, 1) := by decide +kernel
theorem dX12_part_59 : decode cX12_part 59 = .ok (.invokevirtual 179, 3) := by decide +kernel
theorem dX12_part_62 : decode cX12_part 62 = .ok (.goto 4, 3) := by decide +kernel
theorem dX12_part_65 : decode cX12_part 65 = .ok (.iconst 0, 1) := by decide +kernel
theorem dX12_part_66 : decode cX12_part 66 = .ok (.ireturn, 1) := by decide +kernel
theorem dX12_sumOf_0 : decode cX12_sumOf 0 = .ok (.iconst 0, 1) := by decide +kernel
theorem dX12_sumOf_1 : decode cX12_sumOf 1 = .ok (.istore_n 2, 1) := by decide +kernel
theorem dX12_sumOf_2 : decode cX12_sumOf 2 = .ok (.iconst 0, 1) := by decide +kernel
theorem dX12_sumOf_3 : decode cX12_sumOf 3 = .ok (.istore_n 3, 1) := by decide +kernel
theorem dX12_sumOf_4 : decode cX12_sumOf 4 = .ok (.iconst 1, 1) := by decide +kernel
theorem dX12_sumOf_5 : decode cX12_sumOf 5 = .ok (.istore 4, 2) := by decide +kernel
theorem dX12_sumOf_7 : decode cX12_sumOf 7 = .ok (.iload 4, 2) := by decide +kernel
theorem dX12_sumOf_9 : decode cX12_sumOf 9 = .ok (.aload_n 0, 1) := by decide +kernel
theorem dX12_sumOf_10 : decode cX12_sumOf 10 = .ok (.getfield 155, 3) := by decide +kernel
theorem dX12_sumOf_13 : decode cX12_sumOf 13 = .ok (.if_icmp .gt 59, 3) := by decide +kernel
theorem dX12_sumOf_16 : decode cX12_sumOf 16 = .ok (.iload_n 2, 1) := by decide +kernel
theorem dX12_sumOf_17 : decode cX12_sumOf 17 = .ok (.iconst (-1), 1) := by decide +kernel
theorem dX12_sumOf_18 : decode cX12_sumOf 18 = .ok (.if_icmp .eq 54, 3) := by decide +kernel
theorem dX12_sumOf_21 : decode cX12_sumOf 21 = .ok (.iload 4, 2) := by decide +kernel
theorem dX12_sumOf_23 : decode cX12_sumOf 23 = .ok (.aload_n 0, 1) := by decide +kernel
theorem dX12_sumOf_24 : decode cX12_sumOf 24 = .ok (.getfield 155, 3) := by decide +kernel
theorem dX12_sumOf_27 : decode cX12_sumOf 27 = .ok (.if_icmp .eq 13, 3) := by decide +kernel
theorem dX12_sumOf_30 : decode cX12_sumOf 30 = .ok (.iload_n 1, 1) := by decide +kernel
theorem dX12_sumOf_31 : decode cX12_sumOf 31 = .ok (.iload 4, 2) := by decide +kernel
theorem dX12_sumOf_33 : decode cX12_sumOf 33 = .ok (.ishr, 1) := by decide +kernel
theorem dX12_sumOf_34 : decode cX12_sumOf 34 = .ok (.iconst 1, 1) := by decide +kernel
theorem dX12_sumOf_35 : decode cX12_sumOf 35 = .ok (.iand, 1) := by decide +kernel
theorem dX12_sumOf_36 : decode cX12_sumOf 36 = .ok (.iconst 1, 1) := by decide +kernel
theorem dX12_sumOf_37 : decode cX12_sumOf 37 = .ok (.if_icmp .ne 29, 3) := by decide +kernel
theorem dX12_sumOf_40 : decode cX12_sumOf 40 = .ok (.aload_n 0, 1) := by decide +kernel
theorem dX12_sumOf_41 : decode cX12_sumOf 41 = .ok (.iload_n 3, 1) := by decide +kernel
theorem dX12_sumOf_42 : decode cX12_sumOf 42 = .ok (.iload 4, 2) := by decide +kernel
theorem dX12_sumOf_44 : decode cX12_sumOf 44 = .ok (.invokevirtual 179, 3) := by decide +kernel
theorem dX12_sumOf_47 : decode cX12_sumOf 47 = .ok (.istore 5, 2) := by decide +kernel
theorem dX12_sumOf_49 : decode cX12_sumOf 49 = .ok (.iload 5, 2) := by decide +kernel
theorem dX12_sumOf_51 : decode cX12_sumOf 51 = .ok (.ifCond .ge 7, 3) := by decide +kernel
theorem dX12_sumOf_54 : decode cX12_sumOf 54 = .ok (.iconst (-1), 1) := by decide +kernel
theorem dX12_sumOf_55 : decode cX12_sumOf 55 = .ok (.goto 7, 3) := by decide +kernel
theorem dX12_sumOf_58 : decode cX12_sumOf 58 = .ok (.iload_n 2, 1) := by decide +kernel
theorem dX12_sumOf_59 : decode cX12_sumOf 59 = .ok (.iload 5, 2) := by decide +kernel
theorem dX12_sumOf_61 : decode cX12_sumOf 61 = .ok (.iadd, 1) := by decide +kernel
theorem dX12_sumOf_62 : decode cX12_sumOf 62 = .ok (.istore_n 2, 1) := by decide +kernel
theorem dX12_sumOf_63 : decode cX12_sumOf 63 = .ok (.iload 4, 2) := by decide +kernel
theorem dX12_sumOf_65 : decode cX12_sumOf 65 = .ok (.istore_n 3, 1) := by decide +kernel
theorem dX12_sumOf_66 : decode cX12_sumOf 66 = .ok (.iinc 4 1, 3) := by decide +kernel
theorem dX12_sumOf_69 : decode cX12_sumOf 69 = .ok (.goto (-62), 3) := by decide +kernel
theorem dX12_sumOf_72 : decode cX12_sumOf 72 = .ok (.iload_n 2, 1) := by decide +kernel
theorem dX12_sumOf_73 : decode cX12_sumOf 73 = .ok (.ireturn, 1) := by decide +kernel
theorem dX12_finds_0 : decode cX12_finds 0 = .ok (.aload_n 0, 1) := by decide +kernel
theorem dX12_finds_1 : decode cX12_finds 1 = .ok (.iconst (-1), 1) := by decide +kernel
theorem dX12_finds_2 : decode cX12_finds 2 = .ok (.putfield 182, 3) := by decide +kernel
theorem dX12_finds_5 : decode cX12_finds 5 = .ok (.aload_n 0, 1) := by decide +kernel
theorem dX12_finds_6 : decode cX12_finds 6 = .ok (.iconst (-1), 1) := by decide +kernel
theorem dX12_finds_7 : decode cX12_finds 7 = .ok (.putfield 185, 3) := by decide +kernel
theorem dX12_finds_10 : decode cX12_finds 10 = .ok (.iconst 0, 1) := by decide +kernel
theorem dX12_finds_11 : decode cX12_finds 11 = .ok (.istore_n 1, 1) := by decide +kernel
theorem dX12_finds_12 : decode cX12_finds 12 = .ok (.aload_n 0, 1) := by decide +kernel
theorem dX12_finds_13 : decode cX12_finds 13 = .ok (.getfield 155, 3) := by decide +kernel
theorem dX12_finds_16 : decode cX12_finds 16 = .ok (.ifCond .le 56, 3) := by decide +kernel
theorem dX12_finds_19 : decode cX12_finds 19 = .ok (.iload_n 1, 1) := by decide +kernel
theorem dX12_finds_20 : decode cX12_finds 20 = .ok (.iconst 1, 1) := by decide +kernel
theorem dX12_finds_21 : decode cX12_finds 21 = .ok (.aload_n 0, 1) := by decide +kernel
theorem dX12_finds_22 : decode cX12_finds 22 = .ok (.getfield 155, 3) := by decide +kernel
theorem dX12_finds_25 : decode cX12_finds 25 = .ok (.ishl, 1) := by decide +kernel
theorem dX12_finds_26 : decode cX12_finds 26 = .ok (.if_icmp .ge 46, 3) := by decide +kernel
theorem dX12_finds_29 : decode cX12_finds 29 = .ok (.aload_n 0, 1) := by decide +kernel
theorem dX12_finds_30 : decode cX12_finds 30 = .ok (.iload_n 1, 1) := by decide +kernel
theorem dX12_finds_31 : decode cX12_finds 31 = .ok (.invokevirtual 188, 3) := by decide +kernel
theorem dX12_finds_34 : decode cX12_finds 34 = .ok (.istore_n 2, 1) := by decide +kernel
theorem dX12_finds_35 : decode cX12_finds 35 = .ok (.iload_n 2, 1) := by decide +kernel
theorem dX12_finds_36 : decode cX12_finds 36 = .ok (.iconst (-1), 1) := by decide +kernel
theorem dX12_finds_37 : decode cX12_finds 37 = .ok (.if_icmp .eq 29, 3) := by decide +kernel
theorem dX12_finds_40 : decode cX12_finds 40 = .ok (.aload_n 0, 1) := by decide +kernel
theorem dX12_finds_41 : decode cX12_finds 41 = .ok (.getfield 182, 3) := by decide +kernel
theorem dX12_finds_44 : decode cX12_finds 44 = .ok (.iconst (-1), 1) := by decide +kernel
theorem dX12_finds_45 : decode cX12_finds 45 = .ok (.if_icmp .eq 11, 3) := by decide +kernel
theorem dX12_finds_48 : decode cX12_finds 48 = .ok (.iload_n 2, 1) := by decide +kernel
theorem dX12_finds_49 : decode cX12_finds 49 = .ok (.aload_n 0, 1) := by decide +kernel
theorem dX12_finds_50 : decode cX12_finds 50 = .ok (.getfield 182, 3) := by decide +kernel
theorem dX12_finds_53 : decode cX12_finds 53 = .ok (.if_icmp .ge 13, 3) := by decide +kernel
theorem dX12_finds_56 : decode cX12_finds 56 = .ok (.aload_n 0, 1) := by decide +kernel
theorem dX12_finds_57 : decode cX12_finds 57 = .ok (.iload_n 2, 1) := by decide +kernel
theorem dX12_finds_58 : decode cX12_finds 58 = .ok (.putfield 182, 3) := by decide +kernel
theorem dX12_finds_61 : decode cX12_finds 61 = .ok (.aload_n 0, 1) := by decide +kernel
theorem dX12_finds_62 : decode cX12_finds 62 = .ok (.iload_n 1, 1) := by decide +kernel
theorem dX12_finds_63 : decode cX12_finds 63 = .ok (.putfield 185, 3) := by decide +kernel
theorem dX12_finds_66 : decode cX12_finds 66 = .ok (.iinc 1 2, 3) := by decide +kernel
theorem dX12_finds_69 : decode cX12_finds 69 = .ok (.goto (-57), 3) := by decide +kernel
theorem dX12_finds_72 : decode cX12_finds 72 = .ok (.aload_n 0, 1) := by decide +kernel
theorem dX12_finds_73 : decode cX12_finds 73 = .ok (.getfield 182, 3) := by decide +kernel
theorem dX12_finds_76 : decode cX12_finds 76 = .ok (.ireturn, 1) := by decide +kernel
theorem dX12_price_0 : decode cX12_price 0 = .ok (.aload_n 0, 1) := by decide +kernel
theorem dX12_price_1 : decode cX12_price 1 = .ok (.iconst 0, 1) := by decide +kernel
theorem dX12_price_2 : decode cX12_price 2 = .ok (.putfield 130, 3) := by decide +kernel
theorem dX12_price_5 : decode cX12_price 5 = .ok (.aload_n 0, 1) := by decide +kernel
theorem dX12_price_6 : decode cX12_price 6 = .ok (.invokevirtual 191, 3) := by decide +kernel
theorem dX12_price_9 : decode cX12_price 9 = .ok (.ireturn, 1) := by decide +kernel
theorem dX12_priceAnew_0 : decode cX12_priceAnew 0 = .ok (.aload_n 0, 1) := by decide +kernel
theorem dX12_priceAnew_1 : decode cX12_priceAnew 1 = .ok (.invokevirtual 195, 3) := by decide +kernel
theorem dX12_priceAnew_4 : decode cX12_priceAnew 4 = .ok (.ireturn, 1) := by decide +kernel
theorem dX12_cuts_0 : decode cX12_cuts 0 = .ok (.aload_n 0, 1) := by decide +kernel
theorem dX12_cuts_1 : decode cX12_cuts 1 = .ok (.iconst 0, 1) := by decide +kernel
theorem dX12_cuts_2 : decode cX12_cuts 2 = .ok (.putfield 130, 3) := by decide +kernel
theorem dX12_cuts_5 : decode cX12_cuts 5 = .ok (.aload_n 0, 1) := by decide +kernel
theorem dX12_cuts_6 : decode cX12_cuts 6 = .ok (.invokevirtual 191, 3) := by decide +kernel
theorem dX12_cuts_9 : decode cX12_cuts 9 = .ok (.istore_n 1, 1) := by decide +kernel
theorem dX12_cuts_10 : decode cX12_cuts 10 = .ok (.aload_n 0, 1) := by decide +kernel
theorem dX12_cuts_11 : decode cX12_cuts 11 = .ok (.getfield 185, 3) := by decide +kernel
theorem dX12_cuts_14 : decode cX12_cuts 14 = .ok (.ireturn, 1) := by decide +kernel
theorem dX12_weightOf_0 : decode cX12_weightOf 0 = .ok (.aload_n 0, 1) := by decide +kernel
theorem dX12_weightOf_1 : decode cX12_weightOf 1 = .ok (.getfield 13, 3) := by decide +kernel
theorem dX12_weightOf_4 : decode cX12_weightOf 4 = .ok (.bipush 10, 2) := by decide +kernel
theorem dX12_weightOf_6 : decode cX12_weightOf 6 = .ok (.aload_n 0, 1) := by decide +kernel
theorem dX12_weightOf_7 : decode cX12_weightOf 7 = .ok (.getfield 47, 3) := by decide +kernel
theorem dX12_weightOf_10 : decode cX12_weightOf 10 = .ok (.iload_n 1, 1) := by decide +kernel
theorem dX12_weightOf_11 : decode cX12_weightOf 11 = .ok (.iaload, 1) := by decide +kernel
theorem dX12_weightOf_12 : decode cX12_weightOf 12 = .ok (.imul, 1) := by decide +kernel
theorem dX12_weightOf_13 : decode cX12_weightOf 13 = .ok (.aload_n 0, 1) := by decide +kernel
theorem dX12_weightOf_14 : decode cX12_weightOf 14 = .ok (.getfield 50, 3) := by decide +kernel
theorem dX12_weightOf_17 : decode cX12_weightOf 17 = .ok (.iload_n 1, 1) := by decide +kernel
theorem dX12_weightOf_18 : decode cX12_weightOf 18 = .ok (.iaload, 1) := by decide +kernel
theorem dX12_weightOf_19 : decode cX12_weightOf 19 = .ok (.iadd, 1) := by decide +kernel
theorem dX12_weightOf_20 : decode cX12_weightOf 20 = .ok (.iaload, 1) := by decide +kernel
theorem dX12_weightOf_21 : decode cX12_weightOf 21 = .ok (.istore_n 2, 1) := by decide +kernel
theorem dX12_weightOf_22 : decode cX12_weightOf 22 = .ok (.iload_n 2, 1) := by decide +kernel
theorem dX12_weightOf_23 : decode cX12_weightOf 23 = .ok (.ifCond .le 7, 3) := by decide +kernel
theorem dX12_weightOf_26 : decode cX12_weightOf 26 = .ok (.iload_n 2, 1) := by decide +kernel
theorem dX12_weightOf_27 : decode cX12_weightOf 27 = .ok (.goto 8, 3) := by decide +kernel
theorem dX12_weightOf_30 : decode cX12_weightOf 30 = .ok (.aload_n 0, 1) := by decide +kernel
theorem dX12_weightOf_31 : decode cX12_weightOf 31 = .ok (.iload_n 1, 1) := by decide +kernel
theorem dX12_weightOf_32 : decode cX12_weightOf 32 = .ok (.invokevirtual 176, 3) := by decide +kernel
theorem dX12_weightOf_35 : decode cX12_weightOf 35 = .ok (.ireturn, 1) := by decide +kernel
theorem dX12_provisoOf_0 : decode cX12_provisoOf 0 = .ok (.aload_n 0, 1) := by decide +kernel
theorem dX12_provisoOf_1 : decode cX12_provisoOf 1 = .ok (.getfield 16, 3) := by decide +kernel
theorem dX12_provisoOf_4 : decode cX12_provisoOf 4 = .ok (.bipush 100, 2) := by decide +kernel
theorem dX12_provisoOf_6 : decode cX12_provisoOf 6 = .ok (.aload_n 0, 1) := by decide +kernel
theorem dX12_provisoOf_7 : decode cX12_provisoOf 7 = .ok (.getfield 53, 3) := by decide +kernel
theorem dX12_provisoOf_10 : decode cX12_provisoOf 10 = .ok (.iload_n 1, 1) := by decide +kernel
theorem dX12_provisoOf_11 : decode cX12_provisoOf 11 = .ok (.iaload, 1) := by decide +kernel
theorem dX12_provisoOf_12 : decode cX12_provisoOf 12 = .ok (.imul, 1) := by decide +kernel
theorem dX12_provisoOf_13 : decode cX12_provisoOf 13 = .ok (.bipush 10, 2) := by decide +kernel
theorem dX12_provisoOf_15 : decode cX12_provisoOf 15 = .ok (.aload_n 0, 1) := by decide +kernel
theorem dX12_provisoOf_16 : decode cX12_provisoOf 16 = .ok (.getfield 47, 3) := by decide +kernel
theorem dX12_provisoOf_19 : decode cX12_provisoOf 19 = .ok (.iload_n 1, 1) := by decide +kernel
theorem dX12_provisoOf_20 : decode cX12_provisoOf 20 = .ok (.iaload, 1) := by decide +kernel
theorem dX12_provisoOf_21 : decode cX12_provisoOf 21 = .ok (.imul, 1) := by decide +kernel
theorem dX12_provisoOf_22 : decode cX12_provisoOf 22 = .ok (.iadd, 1) := by decide +kernel
theorem dX12_provisoOf_23 : decode cX12_provisoOf 23 = .ok (.aload_n 0, 1) := by decide +kernel
theorem dX12_provisoOf_24 : decode cX12_provisoOf 24 = .ok (.getfield 50, 3) := by decide +kernel
theorem dX12_provisoOf_27 : decode cX12_provisoOf 27 = .ok (.iload_n 1, 1) := by decide +kernel
theorem dX12_provisoOf_28 : decode cX12_provisoOf 28 = .ok (.iaload, 1) := by decide +kernel
theorem dX12_provisoOf_29 : decode cX12_provisoOf 29 = .ok (.iadd, 1) := by decide +kernel
theorem dX12_provisoOf_30 : decode cX12_provisoOf 30 = .ok (.iaload, 1) := by decide +kernel
theorem dX12_provisoOf_31 : decode cX12_provisoOf 31 = .ok (.iconst 1, 1) := by decide +kernel
theorem dX12_provisoOf_32 : decode cX12_provisoOf 32 = .ok (.isub, 1) := by decide +kernel
theorem dX12_provisoOf_33 : decode cX12_provisoOf 33 = .ok (.ireturn, 1) := by decide +kernel
theorem dX12_shares_0 : decode cX12_shares 0 = .ok (.aload_n 0, 1) := by decide +kernel
theorem dX12_shares_1 : decode cX12_shares 1 = .ok (.iload_n 2, 1) := by decide +kernel
theorem dX12_shares_2 : decode cX12_shares 2 = .ok (.iload_n 3, 1) := by decide +kernel
theorem dX12_shares_3 : decode cX12_shares 3 = .ok (.invokevirtual 179, 3) := by decide +kernel
theorem dX12_shares_6 : decode cX12_shares 6 = .ok (.istore 4, 2) := by decide +kernel
theorem dX12_shares_8 : decode cX12_shares 8 = .ok (.iconst 0, 1) := by decide +kernel
theorem dX12_shares_9 : decode cX12_shares 9 = .ok (.istore 5, 2) := by decide +kernel
theorem dX12_shares_11 : decode cX12_shares 11 = .ok (.iconst (-1), 1) := by decide +kernel
theorem dX12_shares_12 : decode cX12_shares 12 = .ok (.istore 6, 2) := by decide +kernel
theorem dX12_shares_14 : decode cX12_shares 14 = .ok (.iload_n 2, 1) := by decide +kernel
theorem dX12_shares_15 : decode cX12_shares 15 = .ok (.istore 7, 2) := by decide +kernel
theorem dX12_shares_17 : decode cX12_shares 17 = .ok (.iload 7, 2) := by decide +kernel
theorem dX12_shares_19 : decode cX12_shares 19 = .ok (.iload_n 3, 1) := by decide +kernel
theorem dX12_shares_20 : decode cX12_shares 20 = .ok (.if_icmp .ge 100, 3) := by decide +kernel
theorem dX12_shares_23 : decode cX12_shares 23 = .ok (.aload_n 0, 1) := by decide +kernel
theorem dX12_shares_24 : decode cX12_shares 24 = .ok (.iload 7, 2) := by decide +kernel
theorem dX12_shares_26 : decode cX12_shares 26 = .ok (.invokevirtual 197, 3) := by decide +kernel
theorem dX12_shares_29 : decode cX12_shares 29 = .ok (.istore 8, 2) := by decide +kernel
theorem dX12_shares_31 : decode cX12_shares 31 = .ok (.iload 8, 2) := by decide +kernel
theorem dX12_shares_33 : decode cX12_shares 33 = .ok (.iconst (-1), 1) := by decide +kernel
theorem dX12_shares_34 : decode cX12_shares 34 = .ok (.if_icmp .ne 7, 3) := by decide +kernel
theorem dX12_shares_37 : decode cX12_shares 37 = .ok (.iconst 0, 1) := by decide +kernel
theorem dX12_shares_38 : decode cX12_shares 38 = .ok (.goto 17, 3) := by decide +kernel
theorem dX12_shares_41 : decode cX12_shares 41 = .ok (.iload 8, 2) := by decide +kernel
theorem dX12_shares_43 : decode cX12_shares 43 = .ok (.iload 4, 2) := by decide +kernel
theorem dX12_shares_45 : decode cX12_shares 45 = .ok (.if_icmp .ge 8, 3) := by decide +kernel
theorem dX12_shares_48 : decode cX12_shares 48 = .ok (.iload 8, 2) := by decide +kernel
theorem dX12_shares_50 : decode cX12_shares 50 = .ok (.goto 5, 3) := by decide +kernel
theorem dX12_shares_53 : decode cX12_shares 53 = .ok (.iload 4, 2) := by decide +kernel
theorem dX12_shares_55 : decode cX12_shares 55 = .ok (.istore 9, 2) := by decide +kernel
theorem dX12_shares_57 : decode cX12_shares 57 = .ok (.aload_n 0, 1) := by decide +kernel
theorem dX12_shares_58 : decode cX12_shares 58 = .ok (.getfield 77, 3) := by decide +kernel
theorem dX12_shares_61 : decode cX12_shares 61 = .ok (.bipush 8, 2) := by decide +kernel
theorem dX12_shares_63 : decode cX12_shares 63 = .ok (.iload_n 1, 1) := by decide +kernel
theorem dX12_shares_64 : decode cX12_shares 64 = .ok (.imul, 1) := by decide +kernel
theorem dX12_shares_65 : decode cX12_shares 65 = .ok (.iload 7, 2) := by decide +kernel
theorem dX12_shares_67 : decode cX12_shares 67 = .ok (.iadd, 1) := by decide +kernel
theorem dX12_shares_68 : decode cX12_shares 68 = .ok (.iload 9, 2) := by decide +kernel
theorem dX12_shares_70 : decode cX12_shares 70 = .ok (.iastore, 1) := by decide +kernel
theorem dX12_shares_71 : decode cX12_shares 71 = .ok (.iload 4, 2) := by decide +kernel
theorem dX12_shares_73 : decode cX12_shares 73 = .ok (.iload 9, 2) := by decide +kernel
theorem dX12_shares_75 : decode cX12_shares 75 = .ok (.isub, 1) := by decide +kernel
theorem dX12_shares_76 : decode cX12_shares 76 = .ok (.istore 4, 2) := by decide +kernel
theorem dX12_shares_78 : decode cX12_shares 78 = .ok (.iload 5, 2) := by decide +kernel
theorem dX12_shares_80 : decode cX12_shares 80 = .ok (.iload 8, 2) := by decide +kernel
theorem dX12_shares_82 : decode cX12_shares 82 = .ok (.iconst (-1), 1) := by decide +kernel
theorem dX12_shares_83 : decode cX12_shares 83 = .ok (.if_icmp .ne 12, 3) := by decide +kernel
theorem dX12_shares_86 : decode cX12_shares 86 = .ok (.aload_n 0, 1) := by decide +kernel
theorem dX12_shares_87 : decode cX12_shares 87 = .ok (.iload 7, 2) := by decide +kernel
theorem dX12_shares_89 : decode cX12_shares 89 = .ok (.invokevirtual 200, 3) := by decide +kernel
theorem dX12_shares_92 : decode cX12_shares 92 = .ok (.goto 4, 3) := by decide +kernel
theorem dX12_shares_95 : decode cX12_shares 95 = .ok (.iconst 0, 1) := by decide +kernel
theorem dX12_shares_96 : decode cX12_shares 96 = .ok (.iadd, 1) := by decide +kernel
theorem dX12_shares_97 : decode cX12_shares 97 = .ok (.istore 5, 2) := by decide +kernel
theorem dX12_shares_99 : decode cX12_shares 99 = .ok (.iload 8, 2) := by decide +kernel
theorem dX12_shares_101 : decode cX12_shares 101 = .ok (.iconst (-1), 1) := by decide +kernel
theorem dX12_shares_102 : decode cX12_shares 102 = .ok (.if_icmp .ne 8, 3) := by decide +kernel
theorem dX12_shares_105 : decode cX12_shares 105 = .ok (.iload 7, 2) := by decide +kernel
theorem dX12_shares_107 : decode cX12_shares 107 = .ok (.goto 5, 3) := by decide +kernel
theorem dX12_shares_110 : decode cX12_shares 110 = .ok (.iload 6, 2) := by decide +kernel
theorem dX12_shares_112 : decode cX12_shares 112 = .ok (.istore 6, 2) := by decide +kernel
theorem dX12_shares_114 : decode cX12_shares 114 = .ok (.iinc 7 1, 3) := by decide +kernel
theorem dX12_shares_117 : decode cX12_shares 117 = .ok (.goto (-100), 3) := by decide +kernel
theorem dX12_shares_120 : decode cX12_shares 120 = .ok (.iload 4, 2) := by decide +kernel
theorem dX12_shares_122 : decode cX12_shares 122 = .ok (.istore 7, 2) := by decide +kernel
theorem dX12_shares_124 : decode cX12_shares 124 = .ok (.iload_n 2, 1) := by decide +kernel
theorem dX12_shares_125 : decode cX12_shares 125 = .ok (.istore 8, 2) := by decide +kernel
theorem dX12_shares_127 : decode cX12_shares 127 = .ok (.iload 8, 2) := by decide +kernel
theorem dX12_shares_129 : decode cX12_shares 129 = .ok (.iload_n 3, 1) := by decide +kernel
theorem dX12_shares_130 : decode cX12_shares 130 = .ok (.if_icmp .ge 64, 3) := by decide +kernel
theorem dX12_shares_133 : decode cX12_shares 133 = .ok (.aload_n 0, 1) := by decide +kernel
theorem dX12_shares_134 : decode cX12_shares 134 = .ok (.iload 8, 2) := by decide +kernel
theorem dX12_shares_136 : decode cX12_shares 136 = .ok (.invokevirtual 197, 3) := by decide +kernel
theorem dX12_shares_139 : decode cX12_shares 139 = .ok (.iconst (-1), 1) := by decide +kernel
theorem dX12_shares_140 : decode cX12_shares 140 = .ok (.if_icmp .ne 48, 3) := by decide +kernel
theorem dX12_shares_143 : decode cX12_shares 143 = .ok (.aload_n 0, 1) := by decide +kernel
theorem dX12_shares_144 : decode cX12_shares 144 = .ok (.getfield 77, 3) := by decide +kernel
theorem dX12_shares_147 : decode cX12_shares 147 = .ok (.bipush 8, 2) := by decide +kernel
theorem dX12_shares_149 : decode cX12_shares 149 = .ok (.iload_n 1, 1) := by decide +kernel
theorem dX12_shares_150 : decode cX12_shares 150 = .ok (.imul, 1) := by decide +kernel
theorem dX12_shares_151 : decode cX12_shares 151 = .ok (.iload 8, 2) := by decide +kernel
theorem dX12_shares_153 : decode cX12_shares 153 = .ok (.iadd, 1) := by decide +kernel
theorem dX12_shares_154 : decode cX12_shares 154 = .ok (.iload 4, 2) := by decide +kernel
theorem dX12_shares_156 : decode cX12_shares 156 = .ok (.i2l, 1) := by decide +kernel
theorem dX12_shares_157 : decode cX12_shares 157 = .ok (.aload_n 0, 1) := by decide +kernel
theorem dX12_shares_158 : decode cX12_shares 158 = .ok (.iload 8, 2) := by decide +kernel
theorem dX12_shares_160 : decode cX12_shares 160 = .ok (.invokevirtual 200, 3) := by decide +kernel
theorem dX12_shares_163 : decode cX12_shares 163 = .ok (.i2l, 1) := by decide +kernel
theorem dX12_shares_164 : decode cX12_shares 164 = .ok (.lmul, 1) := by decide +kernel
theorem dX12_shares_165 : decode cX12_shares 165 = .ok (.iload 5, 2) := by decide +kernel
theorem dX12_shares_167 : decode cX12_shares 167 = .ok (.i2l, 1) := by decide +kernel
theorem dX12_shares_168 : decode cX12_shares 168 = .ok (.ldiv, 1) := by decide +kernel
theorem dX12_shares_169 : decode cX12_shares 169 = .ok (.l2i, 1) := by decide +kernel
theorem dX12_shares_170 : decode cX12_shares 170 = .ok (.iastore, 1) := by decide +kernel
theorem dX12_shares_171 : decode cX12_shares 171 = .ok (.iload 7, 2) := by decide +kernel
theorem dX12_shares_173 : decode cX12_shares 173 = .ok (.aload_n 0, 1) := by decide +kernel
theorem dX12_shares_174 : decode cX12_shares 174 = .ok (.getfield 77, 3) := by decide +kernel
theorem dX12_shares_177 : decode cX12_shares 177 = .ok (.bipush 8, 2) := by decide +kernel
theorem dX12_shares_179 : decode cX12_shares 179 = .ok (.iload_n 1, 1) := by decide +kernel
theorem dX12_shares_180 : decode cX12_shares 180 = .ok (.imul, 1) := by decide +kernel
theorem dX12_shares_181 : decode cX12_shares 181 = .ok (.iload 8, 2) := by decide +kernel
theorem dX12_shares_183 : decode cX12_shares 183 = .ok (.iadd, 1) := by decide +kernel
theorem dX12_shares_184 : decode cX12_shares 184 = .ok (.iaload, 1) := by decide +kernel
theorem dX12_shares_185 : decode cX12_shares 185 = .ok (.isub, 1) := by decide +kernel
theorem dX12_shares_186 : decode cX12_shares 186 = .ok (.istore 7, 2) := by decide +kernel
theorem dX12_shares_188 : decode cX12_shares 188 = .ok (.iinc 8 1, 3) := by decide +kernel
theorem dX12_shares_191 : decode cX12_shares 191 = .ok (.goto (-64), 3) := by decide +kernel
theorem dX12_shares_194 : decode cX12_shares 194 = .ok (.iload 6, 2) := by decide +kernel
theorem dX12_shares_196 : decode cX12_shares 196 = .ok (.iconst (-1), 1) := by decide +kernel
theorem dX12_shares_197 : decode cX12_shares 197 = .ok (.if_icmp .eq 20, 3) := by decide +kernel
theorem dX12_shares_200 : decode cX12_shares 200 = .ok (.aload_n 0, 1) := by decide +kernel
theorem dX12_shares_201 : decode cX12_shares 201 = .ok (.getfield 77, 3) := by decide +kernel
theorem dX12_shares_204 : decode cX12_shares 204 = .ok (.bipush 8, 2) := by decide +kernel
theorem dX12_shares_206 : decode cX12_shares 206 = .ok (.iload_n 1, 1) := by decide +kernel
theorem dX12_shares_207 : decode cX12_shares 207 = .ok (.imul, 1) := by decide +kernel
theorem dX12_shares_208 : decode cX12_shares 208 = .ok (.iload 6, 2) := by decide +kernel
theorem dX12_shares_210 : decode cX12_shares 210 = .ok (.iadd, 1) := by decide +kernel
theorem dX12_shares_211 : decode cX12_shares 211 = .ok (.dup2, 1) := by decide +kernel
theorem dX12_shares_212 : decode cX12_shares 212 = .ok (.iaload, 1) := by decide +kernel
theorem dX12_shares_213 : decode cX12_shares 213 = .ok (.iload 7, 2) := by decide +kernel
theorem dX12_shares_215 : decode cX12_shares 215 = .ok (.iadd, 1) := by decide +kernel
theorem dX12_shares_216 : decode cX12_shares 216 = .ok (.iastore, 1) := by decide +kernel
theorem dX12_shares_217 : decode cX12_shares 217 = .ok (.iload 6, 2) := by decide +kernel
theorem dX12_shares_219 : decode cX12_shares 219 = .ok (.iconst (-1), 1) := by decide +kernel
theorem dX12_shares_220 : decode cX12_shares 220 = .ok (.if_icmp .ne 8, 3) := by decide +kernel
theorem dX12_shares_223 : decode cX12_shares 223 = .ok (.iload 4, 2) := by decide +kernel
theorem dX12_shares_225 : decode cX12_shares 225 = .ok (.goto 4, 3) := by decide +kernel
theorem dX12_shares_228 : decode cX12_shares 228 = .ok (.iconst 0, 1) := by decide +kernel
theorem dX12_shares_229 : decode cX12_shares 229 = .ok (.ireturn, 1) := by decide +kernel
theorem dX12_makes_0 : decode cX12_makes 0 = .ok (.aload_n 0, 1) := by decide +kernel
theorem dX12_makes_1 : decode cX12_makes 1 = .ok (.getfield 59, 3) := by decide +kernel
theorem dX12_makes_4 : decode cX12_makes 4 = .ok (.iload_n 1, 1) := by decide +kernel
theorem dX12_makes_5 : decode cX12_makes 5 = .ok (.aload_n 0, 1) := by decide +kernel
theorem dX12_makes_6 : decode cX12_makes 6 = .ok (.invokevirtual 191, 3) := by decide +kernel
theorem dX12_makes_9 : decode cX12_makes 9 = .ok (.iastore, 1) := by decide +kernel
theorem dX12_makes_10 : decode cX12_makes 10 = .ok (.aload_n 0, 1) := by decide +kernel
theorem dX12_makes_11 : decode cX12_makes 11 = .ok (.getfield 62, 3) := by decide +kernel
theorem dX12_makes_14 : decode cX12_makes 14 = .ok (.iload_n 1, 1) := by decide +kernel
theorem dX12_makes_15 : decode cX12_makes 15 = .ok (.iload_n 2, 1) := by decide +kernel
theorem dX12_makes_16 : decode cX12_makes 16 = .ok (.iastore, 1) := by decide +kernel
theorem dX12_makes_17 : decode cX12_makes 17 = .ok (.aload_n 0, 1) := by decide +kernel
theorem dX12_makes_18 : decode cX12_makes 18 = .ok (.getfield 65, 3) := by decide +kernel
theorem dX12_makes_21 : decode cX12_makes 21 = .ok (.iload_n 1, 1) := by decide +kernel
theorem dX12_makes_22 : decode cX12_makes 22 = .ok (.aload_n 0, 1) := by decide +kernel
theorem dX12_makes_23 : decode cX12_makes 23 = .ok (.getfield 155, 3) := by decide +kernel
theorem dX12_makes_26 : decode cX12_makes 26 = .ok (.iastore, 1) := by decide +kernel
theorem dX12_makes_27 : decode cX12_makes 27 = .ok (.aload_n 0, 1) := by decide +kernel
theorem dX12_makes_28 : decode cX12_makes 28 = .ok (.getfield 68, 3) := by decide +kernel
theorem dX12_makes_31 : decode cX12_makes 31 = .ok (.iload_n 1, 1) := by decide +kernel
theorem dX12_makes_32 : decode cX12_makes 32 = .ok (.aload_n 0, 1) := by decide +kernel
theorem dX12_makes_33 : decode cX12_makes 33 = .ok (.getfield 185, 3) := by decide +kernel
theorem dX12_makes_36 : decode cX12_makes 36 = .ok (.iastore, 1) := by decide +kernel
theorem dX12_makes_37 : decode cX12_makes 37 = .ok (.aload_n 0, 1) := by decide +kernel
theorem dX12_makes_38 : decode cX12_makes 38 = .ok (.getfield 71, 3) := by decide +kernel
theorem dX12_makes_41 : decode cX12_makes 41 = .ok (.iload_n 1, 1) := by decide +kernel
theorem dX12_makes_42 : decode cX12_makes 42 = .ok (.iconst 0, 1) := by decide +kernel
theorem dX12_makes_43 : decode cX12_makes 43 = .ok (.iastore, 1) := by decide +kernel
theorem dX12_makes_44 : decode cX12_makes 44 = .ok (.iconst 0, 1) := by decide +kernel
theorem dX12_makes_45 : decode cX12_makes 45 = .ok (.istore_n 3, 1) := by decide +kernel
theorem dX12_makes_46 : decode cX12_makes 46 = .ok (.iconst 0, 1) := by decide +kernel
theorem dX12_makes_47 : decode cX12_makes 47 = .ok (.istore 4, 2) := by decide +kernel
theorem dX12_makes_49 : decode cX12_makes 49 = .ok (.iload 4, 2) := by decide +kernel
theorem dX12_makes_51 : decode cX12_makes 51 = .ok (.aload_n 0, 1) := by decide +kernel
theorem dX12_makes_52 : decode cX12_makes 52 = .ok (.getfield 155, 3) := by decide +kernel
theorem dX12_makes_55 : decode cX12_makes 55 = .ok (.if_icmp .ge 174, 3) := by decide +kernel
theorem dX12_makes_58 : decode cX12_makes 58 = .ok (.bipush 8, 2) := by decide +kernel
theorem dX12_makes_60 : decode cX12_makes 60 = .ok (.iload_n 1, 1) := by decide +kernel
theorem dX12_makes_61 : decode cX12_makes 61 = .ok (.imul, 1) := by decide +kernel
theorem dX12_makes_62 : decode cX12_makes 62 = .ok (.iload 4, 2) := by decide +kernel
theorem dX12_makes_64 : decode cX12_makes 64 = .ok (.iadd, 1) := by decide +kernel
theorem dX12_makes_65 : decode cX12_makes 65 = .ok (.istore 5, 2) := by decide +kernel
theorem dX12_makes_67 : decode cX12_makes 67 = .ok (.aload_n 0, 1) := by decide +kernel
theorem dX12_makes_68 : decode cX12_makes 68 = .ok (.getfield 74, 3) := by decide +kernel
theorem dX12_makes_71 : decode cX12_makes 71 = .ok (.iload 5, 2) := by decide +kernel
theorem dX12_makes_73 : decode cX12_makes 73 = .ok (.iconst 0, 1) := by decide +kernel
theorem dX12_makes_74 : decode cX12_makes 74 = .ok (.iastore, 1) := by decide +kernel
theorem dX12_makes_75 : decode cX12_makes 75 = .ok (.aload_n 0, 1) := by decide +kernel
theorem dX12_makes_76 : decode cX12_makes 76 = .ok (.getfield 80, 3) := by decide +kernel
theorem dX12_makes_79 : decode cX12_makes 79 = .ok (.iload 5, 2) := by decide +kernel
theorem dX12_makes_81 : decode cX12_makes 81 = .ok (.iload 4, 2) := by decide +kernel
theorem dX12_makes_83 : decode cX12_makes 83 = .ok (.ifCond .eq 12, 3) := by decide +kernel
theorem dX12_makes_86 : decode cX12_makes 86 = .ok (.aload_n 0, 1) := by decide +kernel
theorem dX12_makes_87 : decode cX12_makes 87 = .ok (.iload 4, 2) := by decide +kernel
theorem dX12_makes_89 : decode cX12_makes 89 = .ok (.invokevirtual 161, 3) := by decide +kernel
theorem dX12_makes_92 : decode cX12_makes 92 = .ok (.ifCond .eq 18, 3) := by decide +kernel
theorem dX12_makes_95 : decode cX12_makes 95 = .ok (.aload_n 0, 1) := by decide +kernel
theorem dX12_makes_96 : decode cX12_makes 96 = .ok (.getfield 19, 3) := by decide +kernel
theorem dX12_makes_99 : decode cX12_makes 99 = .ok (.aload_n 0, 1) := by decide +kernel
theorem dX12_makes_100 : decode cX12_makes 100 = .ok (.getfield 47, 3) := by decide +kernel
theorem dX12_makes_103 : decode cX12_makes 103 = .ok (.iload 4, 2) := by decide +kernel
theorem dX12_makes_105 : decode cX12_makes 105 = .ok (.iaload, 1) := by decide +kernel
theorem dX12_makes_106 : decode cX12_makes 106 = .ok (.iaload, 1) := by decide +kernel
theorem dX12_makes_107 : decode cX12_makes 107 = .ok (.goto 15, 3) := by decide +kernel
theorem dX12_makes_110 : decode cX12_makes 110 = .ok (.aload_n 0, 1) := by decide +kernel
theorem dX12_makes_111 : decode cX12_makes 111 = .ok (.getfield 22, 3) := by decide +kernel
theorem dX12_makes_114 : decode cX12_makes 114 = .ok (.aload_n 0, 1) := by decide +kernel
theorem dX12_makes_115 : decode cX12_makes 115 = .ok (.getfield 47, 3) := by decide +kernel
theorem dX12_makes_118 : decode cX12_makes 118 = .ok (.iload 4, 2) := by decide +kernel
theorem dX12_makes_120 : decode cX12_makes 120 = .ok (.iaload, 1) := by decide +kernel
theorem dX12_makes_121 : decode cX12_makes 121 = .ok (.iaload, 1) := by decide +kernel
theorem dX12_makes_122 : decode cX12_makes 122 = .ok (.iastore, 1) := by decide +kernel
theorem dX12_makes_123 : decode cX12_makes 123 = .ok (.aload_n 0, 1) := by decide +kernel
theorem dX12_makes_124 : decode cX12_makes 124 = .ok (.getfield 83, 3) := by decide +kernel
theorem dX12_makes_127 : decode cX12_makes 127 = .ok (.iload 5, 2) := by decide +kernel
theorem dX12_makes_129 : decode cX12_makes 129 = .ok (.aload_n 0, 1) := by decide +kernel
theorem dX12_makes_130 : decode cX12_makes 130 = .ok (.getfield 53, 3) := by decide +kernel
theorem dX12_makes_133 : decode cX12_makes 133 = .ok (.iload 4, 2) := by decide +kernel
theorem dX12_makes_135 : decode cX12_makes 135 = .ok (.iaload, 1) := by decide +kernel
theorem dX12_makes_136 : decode cX12_makes 136 = .ok (.iastore, 1) := by decide +kernel
theorem dX12_makes_137 : decode cX12_makes 137 = .ok (.aload_n 0, 1) := by decide +kernel
theorem dX12_makes_138 : decode cX12_makes 138 = .ok (.getfield 86, 3) := by decide +kernel
theorem dX12_makes_141 : decode cX12_makes 141 = .ok (.iload 5, 2) := by decide +kernel
theorem dX12_makes_143 : decode cX12_makes 143 = .ok (.aload_n 0, 1) := by decide +kernel
theorem dX12_makes_144 : decode cX12_makes 144 = .ok (.getfield 56, 3) := by decide +kernel
theorem dX12_makes_147 : decode cX12_makes 147 = .ok (.iload 4, 2) := by decide +kernel
theorem dX12_makes_149 : decode cX12_makes 149 = .ok (.iaload, 1) := by decide +kernel
theorem dX12_makes_150 : decode cX12_makes 150 = .ok (.iastore, 1) := by decide +kernel
theorem dX12_makes_151 : decode cX12_makes 151 = .ok (.aload_n 0, 1) := by decide +kernel
theorem dX12_makes_152 : decode cX12_makes 152 = .ok (.getfield 89, 3) := by decide +kernel
theorem dX12_makes_155 : decode cX12_makes 155 = .ok (.iload 5, 2) := by decide +kernel
theorem dX12_makes_157 : decode cX12_makes 157 = .ok (.aload_n 0, 1) := by decide +kernel
theorem dX12_makes_158 : decode cX12_makes 158 = .ok (.getfield 47, 3) := by decide +kernel
theorem dX12_makes_161 : decode cX12_makes 161 = .ok (.iload 4, 2) := by decide +kernel
theorem dX12_makes_163 : decode cX12_makes 163 = .ok (.iaload, 1) := by decide +kernel
theorem dX12_makes_164 : decode cX12_makes 164 = .ok (.iastore, 1) := by decide +kernel
theorem dX12_makes_165 : decode cX12_makes 165 = .ok (.aload_n 0, 1) := by decide +kernel
theorem dX12_makes_166 : decode cX12_makes 166 = .ok (.getfield 92, 3) := by decide +kernel
theorem dX12_makes_169 : decode cX12_makes 169 = .ok (.iload 5, 2) := by decide +kernel
theorem dX12_makes_171 : decode cX12_makes 171 = .ok (.iconst (-1), 1) := by decide +kernel
theorem dX12_makes_172 : decode cX12_makes 172 = .ok (.iastore, 1) := by decide +kernel
theorem dX12_makes_173 : decode cX12_makes 173 = .ok (.iload 4, 2) := by decide +kernel
theorem dX12_makes_175 : decode cX12_makes 175 = .ok (.aload_n 0, 1) := by decide +kernel
theorem dX12_makes_176 : decode cX12_makes 176 = .ok (.getfield 155, 3) := by decide +kernel
theorem dX12_makes_179 : decode cX12_makes 179 = .ok (.iconst 1, 1) := by decide +kernel
theorem dX12_makes_180 : decode cX12_makes 180 = .ok (.isub, 1) := by decide +kernel
theorem dX12_makes_181 : decode cX12_makes 181 = .ok (.if_icmp .eq 18, 3) := by decide +kernel
theorem dX12_makes_184 : decode cX12_makes 184 = .ok (.aload_n 0, 1) := by decide +kernel
theorem dX12_makes_185 : decode cX12_makes 185 = .ok (.getfield 185, 3) := by decide +kernel
theorem dX12_makes_188 : decode cX12_makes 188 = .ok (.iload 4, 2) := by decide +kernel
theorem dX12_makes_190 : decode cX12_makes 190 = .ok (.iconst 1, 1) := by decide +kernel
theorem dX12_makes_191 : decode cX12_makes 191 = .ok (.iadd, 1) := by decide +kernel
theorem dX12_makes_192 : decode cX12_makes 192 = .ok (.ishr, 1) := by decide +kernel
theorem dX12_makes_193 : decode cX12_makes 193 = .ok (.iconst 1, 1) := by decide +kernel
theorem dX12_makes_194 : decode cX12_makes 194 = .ok (.iand, 1) := by decide +kernel
theorem dX12_makes_195 : decode cX12_makes 195 = .ok (.iconst 1, 1) := by decide +kernel
theorem dX12_makes_196 : decode cX12_makes 196 = .ok (.if_icmp .ne 27, 3) := by decide +kernel
theorem dX12_makes_199 : decode cX12_makes 199 = .ok (.aload_n 0, 1) := by decide +kernel
theorem dX12_makes_200 : decode cX12_makes 200 = .ok (.getfield 71, 3) := by decide +kernel
theorem dX12_makes_203 : decode cX12_makes 203 = .ok (.iload_n 1, 1) := by decide +kernel
theorem dX12_makes_204 : decode cX12_makes 204 = .ok (.dup2, 1) := by decide +kernel
theorem dX12_makes_205 : decode cX12_makes 205 = .ok (.iaload, 1) := by decide +kernel
theorem dX12_makes_206 : decode cX12_makes 206 = .ok (.aload_n 0, 1) := by decide +kernel
theorem dX12_makes_207 : decode cX12_makes 207 = .ok (.iload_n 1, 1) := by decide +kernel
theorem dX12_makes_208 : decode cX12_makes 208 = .ok (.iload_n 3, 1) := by decide +kernel
theorem dX12_makes_209 : decode cX12_makes 209 = .ok (.iload 4, 2) := by decide +kernel
theorem dX12_makes_211 : decode cX12_makes 211 = .ok (.iconst 1, 1) := by decide +kernel
theorem dX12_makes_212 : decode cX12_makes 212 = .ok (.iadd, 1) := by decide +kernel
theorem dX12_makes_213 : decode cX12_makes 213 = .ok (.invokevirtual 203, 3) := by decide +kernel
theorem dX12_makes_216 : decode cX12_makes 216 = .ok (.iadd, 1) := by decide +kernel
theorem dX12_makes_217 : decode cX12_makes 217 = .ok (.iastore, 1) := by decide +kernel
theorem dX12_makes_218 : decode cX12_makes 218 = .ok (.iload 4, 2) := by decide +kernel
theorem dX12_makes_220 : decode cX12_makes 220 = .ok (.iconst 1, 1) := by decide +kernel
theorem dX12_makes_221 : decode cX12_makes 221 = .ok (.iadd, 1) := by decide +kernel
theorem dX12_makes_222 : decode cX12_makes 222 = .ok (.istore_n 3, 1) := by decide +kernel
theorem dX12_makes_223 : decode cX12_makes 223 = .ok (.iinc 4 1, 3) := by decide +kernel
theorem dX12_makes_226 : decode cX12_makes 226 = .ok (.goto (-177), 3) := by decide +kernel
theorem dX12_makes_229 : decode cX12_makes 229 = .ok (.aload_n 0, 1) := by decide +kernel
theorem dX12_makes_230 : decode cX12_makes 230 = .ok (.iconst 0, 1) := by decide +kernel
theorem dX12_makes_231 : decode cX12_makes 231 = .ok (.putfield 155, 3) := by decide +kernel
theorem dX12_makes_234 : decode cX12_makes 234 = .ok (.return_, 1) := by decide +kernel
theorem dX12_taxes_0 : decode cX12_taxes 0 = .ok (.iconst 0, 1) := by decide +kernel
theorem dX12_taxes_1 : decode cX12_taxes 1 = .ok (.istore_n 2, 1) := by decide +kernel
theorem dX12_taxes_2 : decode cX12_taxes 2 = .ok (.bipush 8, 2) := by decide +kernel
theorem dX12_taxes_4 : decode cX12_taxes 4 = .ok (.iload_n 1, 1) := by decide +kernel
theorem dX12_taxes_5 : decode cX12_taxes 5 = .ok (.imul, 1) := by decide +kernel
theorem dX12_taxes_6 : decode cX12_taxes 6 = .ok (.istore_n 3, 1) := by decide +kernel
theorem dX12_taxes_7 : decode cX12_taxes 7 = .ok (.iload_n 3, 1) := by decide +kernel
theorem dX12_taxes_8 : decode cX12_taxes 8 = .ok (.bipush 8, 2) := by decide +kernel
theorem dX12_taxes_10 : decode cX12_taxes 10 = .ok (.iload_n 1, 1) := by decide +kernel
theorem dX12_taxes_11 : decode cX12_taxes 11 = .ok (.imul, 1) := by decide +kernel
theorem dX12_taxes_12 : decode cX12_taxes 12 = .ok (.aload_n 0, 1) := by decide +kernel
theorem dX12_taxes_13 : decode cX12_taxes 13 = .ok (.getfield 65, 3) := by decide +kernel
theorem dX12_taxes_16 : decode cX12_taxes 16 = .ok (.iload_n 1, 1) := by decide +kernel
theorem dX12_taxes_17 : decode cX12_taxes 17 = .ok (.iaload, 1) := by decide +kernel
theorem dX12_taxes_18 : decode cX12_taxes 18 = .ok (.iadd, 1) := by decide +kernel
theorem dX12_taxes_19 : decode cX12_taxes 19 = .ok (.if_icmp .ge 18, 3) := by decide +kernel
theorem dX12_taxes_22 : decode cX12_taxes 22 = .ok (.iload_n 2, 1) := by decide +kernel
theorem dX12_taxes_23 : decode cX12_taxes 23 = .ok (.aload_n 0, 1) := by decide +kernel
theorem dX12_taxes_24 : decode cX12_taxes 24 = .ok (.getfield 80, 3) := by decide +kernel
theorem dX12_taxes_27 : decode cX12_taxes 27 = .ok (.iload_n 3, 1) := by decide +kernel
theorem dX12_taxes_28 : decode cX12_taxes 28 = .ok (.iaload, 1) := by decide +kernel
theorem dX12_taxes_29 : decode cX12_taxes 29 = .ok (.iadd, 1) := by decide +kernel
theorem dX12_taxes_30 : decode cX12_taxes 30 = .ok (.istore_n 2, 1) := by decide +kernel
theorem dX12_taxes_31 : decode cX12_taxes 31 = .ok (.iinc 3 1, 3) := by decide +kernel
theorem dX12_taxes_34 : decode cX12_taxes 34 = .ok (.goto (-27), 3) := by decide +kernel
theorem dX12_taxes_37 : decode cX12_taxes 37 = .ok (.iload_n 2, 1) := by decide +kernel
theorem dX12_taxes_38 : decode cX12_taxes 38 = .ok (.ireturn, 1) := by decide +kernel
theorem dX12_buys_0 : decode cX12_buys 0 = .ok (.aload_n 0, 1) := by decide +kernel
theorem dX12_buys_1 : decode cX12_buys 1 = .ok (.getfield 120, 3) := by decide +kernel
theorem dX12_buys_4 : decode cX12_buys 4 = .ok (.iload_n 1, 1) := by decide +kernel
theorem dX12_buys_5 : decode cX12_buys 5 = .ok (.dup2, 1) := by decide +kernel
theorem dX12_buys_6 : decode cX12_buys 6 = .ok (.laload, 1) := by decide +kernel
theorem dX12_buys_7 : decode cX12_buys 7 = .ok (.iload_n 2, 1) := by decide +kernel
theorem dX12_buys_8 : decode cX12_buys 8 = .ok (.i2l, 1) := by decide +kernel
theorem dX12_buys_9 : decode cX12_buys 9 = .ok (.ladd, 1) := by decide +kernel
theorem dX12_buys_10 : decode cX12_buys 10 = .ok (.lastore, 1) := by decide +kernel
theorem dX12_buys_11 : decode cX12_buys 11 = .ok (.aload_n 0, 1) := by decide +kernel
theorem dX12_buys_12 : decode cX12_buys 12 = .ok (.dup, 1) := by decide +kernel
theorem dX12_buys_13 : decode cX12_buys 13 = .ok (.getfield 206, 3) := by decide +kernel
theorem dX12_buys_16 : decode cX12_buys 16 = .ok (.iload_n 2, 1) := by decide +kernel
theorem dX12_buys_17 : decode cX12_buys 17 = .ok (.i2l, 1) := by decide +kernel
theorem dX12_buys_18 : decode cX12_buys 18 = .ok (.ladd, 1) := by decide +kernel
theorem dX12_buys_19 : decode cX12_buys 19 = .ok (.putfield 206, 3) := by decide +kernel
theorem dX12_buys_22 : decode cX12_buys 22 = .ok (.return_, 1) := by decide +kernel
theorem dX12_canIssue_0 : decode cX12_canIssue 0 = .ok (.aload_n 0, 1) := by decide +kernel
theorem dX12_canIssue_1 : decode cX12_canIssue 1 = .ok (.getfield 210, 3) := by decide +kernel
theorem dX12_canIssue_4 : decode cX12_canIssue 4 = .ok (.bipush 30, 2) := by decide +kernel
theorem dX12_canIssue_6 : decode cX12_canIssue 6 = .ok (.if_icmp .ge 15, 3) := by decide +kernel
theorem dX12_canIssue_9 : decode cX12_canIssue 9 = .ok (.aload_n 0, 1) := by decide +kernel
theorem dX12_canIssue_10 : decode cX12_canIssue 10 = .ok (.invokevirtual 191, 3) := by decide +kernel
theorem dX12_canIssue_13 : decode cX12_canIssue 13 = .ok (.iconst (-1), 1) := by decide +kernel
theorem dX12_canIssue_14 : decode cX12_canIssue 14 = .ok (.if_icmp .eq 7, 3) := by decide +kernel
theorem dX12_canIssue_17 : decode cX12_canIssue 17 = .ok (.iconst 1, 1) := by decide +kernel
theorem dX12_canIssue_18 : decode cX12_canIssue 18 = .ok (.goto 4, 3) := by decide +kernel
theorem dX12_canIssue_21 : decode cX12_canIssue 21 = .ok (.iconst 0, 1) := by decide +kernel
theorem dX12_canIssue_22 : decode cX12_canIssue 22 = .ok (.istore_n 1, 1) := by decide +kernel
theorem dX12_canIssue_23 : decode cX12_canIssue 23 = .ok (.iconst 0, 1) := by decide +kernel
theorem dX12_canIssue_24 : decode cX12_canIssue 24 = .ok (.istore_n 2, 1) := by decide +kernel
theorem dX12_canIssue_25 : decode cX12_canIssue 25 = .ok (.iload_n 2, 1) := by decide +kernel
theorem dX12_canIssue_26 : decode cX12_canIssue 26 = .ok (.aload_n 0, 1) := by decide +kernel
theorem dX12_canIssue_27 : decode cX12_canIssue 27 = .ok (.getfield 155, 3) := by decide +kernel
theorem dX12_canIssue_30 : decode cX12_canIssue 30 = .ok (.if_icmp .ge 32, 3) := by decide +kernel
theorem dX12_canIssue_33 : decode cX12_canIssue 33 = .ok (.iload_n 1, 1) := by decide +kernel
theorem dX12_canIssue_34 : decode cX12_canIssue 34 = .ok (.ifCond .eq 20, 3) := by decide +kernel
theorem dX12_canIssue_37 : decode cX12_canIssue 37 = .ok (.aload_n 0, 1) := by decide +kernel
theorem dX12_canIssue_38 : decode cX12_canIssue 38 = .ok (.getfield 56, 3) := by decide +kernel
theorem dX12_canIssue_41 : decode cX12_canIssue 41 = .ok (.iload_n 2, 1) := by decide +kernel
theorem dX12_canIssue_42 : decode cX12_canIssue 42 = .ok (.iaload, 1) := by decide +kernel
theorem dX12_canIssue_43 : decode cX12_canIssue 43 = .ok (.aload_n 0, 1) := by decide +kernel
theorem dX12_canIssue_44 : decode cX12_canIssue 44 = .ok (.getfield 158, 3) := by decide +kernel
theorem dX12_canIssue_47 : decode cX12_canIssue 47 = .ok (.if_icmp .lt 7, 3) := by decide +kernel
theorem dX12_canIssue_50 : decode cX12_canIssue 50 = .ok (.iconst 1, 1) := by decide +kernel
theorem dX12_canIssue_51 : decode cX12_canIssue 51 = .ok (.goto 4, 3) := by decide +kernel
theorem dX12_canIssue_54 : decode cX12_canIssue 54 = .ok (.iconst 0, 1) := by decide +kernel
theorem dX12_canIssue_55 : decode cX12_canIssue 55 = .ok (.istore_n 1, 1) := by decide +kernel
theorem dX12_canIssue_56 : decode cX12_canIssue 56 = .ok (.iinc 2 1, 3) := by decide +kernel
theorem dX12_canIssue_59 : decode cX12_canIssue 59 = .ok (.goto (-34), 3) := by decide +kernel
theorem dX12_canIssue_62 : decode cX12_canIssue 62 = .ok (.iload_n 1, 1) := by decide +kernel
theorem dX12_canIssue_63 : decode cX12_canIssue 63 = .ok (.ireturn, 1) := by decide +kernel
theorem dX12_issue_0 : decode cX12_issue 0 = .ok (.aload_n 0, 1) := by decide +kernel
theorem dX12_issue_1 : decode cX12_issue 1 = .ok (.iload_n 1, 1) := by decide +kernel
theorem dX12_issue_2 : decode cX12_issue 2 = .ok (.invokestatic 149, 3) := by decide +kernel
theorem dX12_issue_5 : decode cX12_issue 5 = .ok (.aload_n 0, 1) := by decide +kernel
theorem dX12_issue_6 : decode cX12_issue 6 = .ok (.invokevirtual 213, 3) := by decide +kernel
theorem dX12_issue_9 : decode cX12_issue 9 = .ok (.iconst 1, 1) := by decide +kernel
theorem dX12_issue_10 : decode cX12_issue 10 = .ok (.invokevirtual 141, 3) := by decide +kernel
theorem dX12_issue_13 : decode cX12_issue 13 = .ok (.ifCond .ne 5, 3) := by decide +kernel
theorem dX12_issue_16 : decode cX12_issue 16 = .ok (.iconst 0, 1) := by decide +kernel
theorem dX12_issue_17 : decode cX12_issue 17 = .ok (.ireturn, 1) := by decide +kernel
theorem dX12_issue_18 : decode cX12_issue 18 = .ok (.aload_n 0, 1) := by decide +kernel
theorem dX12_issue_19 : decode cX12_issue 19 = .ok (.aload_n 0, 1) := by decide +kernel
theorem dX12_issue_20 : decode cX12_issue 20 = .ok (.getfield 210, 3) := by decide +kernel
theorem dX12_issue_23 : decode cX12_issue 23 = .ok (.iload_n 1, 1) := by decide +kernel
theorem dX12_issue_24 : decode cX12_issue 24 = .ok (.invokevirtual 217, 3) := by decide +kernel
theorem dX12_issue_27 : decode cX12_issue 27 = .ok (.aload_n 0, 1) := by decide +kernel
theorem dX12_issue_28 : decode cX12_issue 28 = .ok (.iload_n 1, 1) := by decide +kernel
theorem dX12_issue_29 : decode cX12_issue 29 = .ok (.aload_n 0, 1) := by decide +kernel
theorem dX12_issue_30 : decode cX12_issue 30 = .ok (.getfield 59, 3) := by decide +kernel
theorem dX12_issue_33 : decode cX12_issue 33 = .ok (.aload_n 0, 1) := by decide +kernel
theorem dX12_issue_34 : decode cX12_issue 34 = .ok (.getfield 210, 3) := by decide +kernel
theorem dX12_issue_37 : decode cX12_issue 37 = .ok (.iaload, 1) := by decide +kernel
theorem dX12_issue_38 : decode cX12_issue 38 = .ok (.aload_n 0, 1) := by decide +kernel
theorem dX12_issue_39 : decode cX12_issue 39 = .ok (.aload_n 0, 1) := by decide +kernel
theorem dX12_issue_40 : decode cX12_issue 40 = .ok (.getfield 210, 3) := by decide +kernel
theorem dX12_issue_43 : decode cX12_issue 43 = .ok (.invokevirtual 221, 3) := by decide +kernel
theorem dX12_issue_46 : decode cX12_issue 46 = .ok (.iadd, 1) := by decide +kernel
theorem dX12_issue_47 : decode cX12_issue 47 = .ok (.invokevirtual 224, 3) := by decide +kernel
theorem dX12_issue_50 : decode cX12_issue 50 = .ok (.aload_n 0, 1) := by decide +kernel
theorem dX12_issue_51 : decode cX12_issue 51 = .ok (.dup, 1) := by decide +kernel
theorem dX12_issue_52 : decode cX12_issue 52 = .ok (.getfield 210, 3) := by decide +kernel
theorem dX12_issue_55 : decode cX12_issue 55 = .ok (.iconst 1, 1) := by decide +kernel
theorem dX12_issue_56 : decode cX12_issue 56 = .ok (.iadd, 1) := by decide +kernel
theorem dX12_issue_57 : decode cX12_issue 57 = .ok (.putfield 210, 3) := by decide +kernel
theorem dX12_issue_60 : decode cX12_issue 60 = .ok (.aload_n 0, 1) := by decide +kernel
theorem dX12_issue_61 : decode cX12_issue 61 = .ok (.getfield 210, 3) := by decide +kernel
theorem dX12_issue_64 : decode cX12_issue 64 = .ok (.iconst 1, 1) := by decide +kernel
theorem dX12_issue_65 : decode cX12_issue 65 = .ok (.isub, 1) := by decide +kernel
theorem dX12_issue_66 : decode cX12_issue 66 = .ok (.ireturn, 1) := by decide +kernel
theorem dX12_isTicket_0 : decode cX12_isTicket 0 = .ok (.iload_n 1, 1) := by decide +kernel
theorem dX12_isTicket_1 : decode cX12_isTicket 1 = .ok (.iconst 0, 1) := by decide +kernel
theorem dX12_isTicket_2 : decode cX12_isTicket 2 = .ok (.aload_n 0, 1) := by decide +kernel
theorem dX12_isTicket_3 : decode cX12_isTicket 3 = .ok (.getfield 210, 3) := by decide +kernel
theorem dX12_isTicket_6 : decode cX12_isTicket 6 = .ok (.iconst 1, 1) := by decide +kernel
theorem dX12_isTicket_7 : decode cX12_isTicket 7 = .ok (.isub, 1) := by decide +kernel
theorem dX12_isTicket_8 : decode cX12_isTicket 8 = .ok (.invokestatic 133, 3) := by decide +kernel
theorem dX12_isTicket_11 : decode cX12_isTicket 11 = .ok (.ireturn, 1) := by decide +kernel
theorem dX12_isCoupon_0 : decode cX12_isCoupon 0 = .ok (.aload_n 0, 1) := by decide +kernel
theorem dX12_isCoupon_1 : decode cX12_isCoupon 1 = .ok (.iload_n 1, 1) := by decide +kernel
theorem dX12_isCoupon_2 : decode cX12_isCoupon 2 = .ok (.invokevirtual 227, 3) := by decide +kernel
theorem dX12_isCoupon_5 : decode cX12_isCoupon 5 = .ok (.ifCond .eq 35, 3) := by decide +kernel
theorem dX12_isCoupon_8 : decode cX12_isCoupon 8 = .ok (.iload_n 2, 1) := by decide +kernel
theorem dX12_isCoupon_9 : decode cX12_isCoupon 9 = .ok (.iconst 0, 1) := by decide +kernel
theorem dX12_isCoupon_10 : decode cX12_isCoupon 10 = .ok (.aload_n 0, 1) := by decide +kernel
theorem dX12_isCoupon_11 : decode cX12_isCoupon 11 = .ok (.getfield 65, 3) := by decide +kernel
theorem dX12_isCoupon_14 : decode cX12_isCoupon 14 = .ok (.aload_n 0, 1) := by decide +kernel
theorem dX12_isCoupon_15 : decode cX12_isCoupon 15 = .ok (.iload_n 1, 1) := by decide +kernel
theorem dX12_isCoupon_16 : decode cX12_isCoupon 16 = .ok (.invokevirtual 227, 3) := by decide +kernel
theorem dX12_isCoupon_19 : decode cX12_isCoupon 19 = .ok (.ifCond .eq 7, 3) := by decide +kernel
theorem dX12_isCoupon_22 : decode cX12_isCoupon 22 = .ok (.iload_n 1, 1) := by decide +kernel
theorem dX12_isCoupon_23 : decode cX12_isCoupon 23 = .ok (.goto 4, 3) := by decide +kernel
theorem dX12_isCoupon_26 : decode cX12_isCoupon 26 = .ok (.iconst 0, 1) := by decide +kernel
theorem dX12_isCoupon_27 : decode cX12_isCoupon 27 = .ok (.iaload, 1) := by decide +kernel
theorem dX12_isCoupon_28 : decode cX12_isCoupon 28 = .ok (.iconst 1, 1) := by decide +kernel
theorem dX12_isCoupon_29 : decode cX12_isCoupon 29 = .ok (.isub, 1) := by decide +kernel
theorem dX12_isCoupon_30 : decode cX12_isCoupon 30 = .ok (.invokestatic 133, 3) := by decide +kernel
theorem dX12_isCoupon_33 : decode cX12_isCoupon 33 = .ok (.ifCond .eq 7, 3) := by decide +kernel
theorem dX12_isCoupon_36 : decode cX12_isCoupon 36 = .ok (.iconst 1, 1) := by decide +kernel
theorem dX12_isCoupon_37 : decode cX12_isCoupon 37 = .ok (.goto 4, 3) := by decide +kernel
theorem dX12_isCoupon_40 : decode cX12_isCoupon 40 = .ok (.iconst 0, 1) := by decide +kernel
theorem dX12_isCoupon_41 : decode cX12_isCoupon 41 = .ok (.ireturn, 1) := by decide +kernel
theorem dX12_fly_0 : decode cX12_fly 0 = .ok (.aload_n 0, 1) := by decide +kernel
theorem dX12_fly_1 : decode cX12_fly 1 = .ok (.iload_n 1, 1) := by decide +kernel
theorem dX12_fly_2 : decode cX12_fly 2 = .ok (.iload_n 2, 1) := by decide +kernel
theorem dX12_fly_3 : decode cX12_fly 3 = .ok (.invokevirtual 230, 3) := by decide +kernel
theorem dX12_fly_6 : decode cX12_fly 6 = .ok (.istore_n 3, 1) := by decide +kernel
theorem dX12_fly_7 : decode cX12_fly 7 = .ok (.iload_n 3, 1) := by decide +kernel
theorem dX12_fly_8 : decode cX12_fly 8 = .ok (.ifCond .eq 12, 3) := by decide +kernel
theorem dX12_fly_11 : decode cX12_fly 11 = .ok (.bipush 8, 2) := by decide +kernel
theorem dX12_fly_13 : decode cX12_fly 13 = .ok (.iload_n 1, 1) := by decide +kernel
theorem dX12_fly_14 : decode cX12_fly 14 = .ok (.imul, 1) := by decide +kernel
theorem dX12_fly_15 : decode cX12_fly 15 = .ok (.iload_n 2, 1) := by decide +kernel
theorem dX12_fly_16 : decode cX12_fly 16 = .ok (.iadd, 1) := by decide +kernel
theorem dX12_fly_17 : decode cX12_fly 17 = .ok (.goto 4, 3) := by decide +kernel
theorem dX12_fly_20 : decode cX12_fly 20 = .ok (.iconst 0, 1) := by decide +kernel
theorem dX12_fly_21 : decode cX12_fly 21 = .ok (.istore 4, 2) := by decide +kernel
theorem dX12_fly_23 : decode cX12_fly 23 = .ok (.aload_n 0, 1) := by decide +kernel
theorem dX12_fly_24 : decode cX12_fly 24 = .ok (.iload_n 3, 1) := by decide +kernel
theorem dX12_fly_25 : decode cX12_fly 25 = .ok (.iload_n 3, 1) := by decide +kernel
theorem dX12_fly_26 : decode cX12_fly 26 = .ok (.ifCond .eq 31, 3) := by decide +kernel
theorem dX12_fly_29 : decode cX12_fly 29 = .ok (.aload_n 0, 1) := by decide +kernel
theorem dX12_fly_30 : decode cX12_fly 30 = .ok (.getfield 74, 3) := by decide +kernel
theorem dX12_fly_33 : decode cX12_fly 33 = .ok (.iload 4, 2) := by decide +kernel
theorem dX12_fly_35 : decode cX12_fly 35 = .ok (.iaload, 1) := by decide +kernel
theorem dX12_fly_36 : decode cX12_fly 36 = .ok (.ifCond .ne 21, 3) := by decide +kernel
theorem dX12_fly_39 : decode cX12_fly 39 = .ok (.aload_n 0, 1) := by decide +kernel
theorem dX12_fly_40 : decode cX12_fly 40 = .ok (.getfield 86, 3) := by decide +kernel
theorem dX12_fly_43 : decode cX12_fly 43 = .ok (.iload 4, 2) := by decide +kernel
theorem dX12_fly_45 : decode cX12_fly 45 = .ok (.iaload, 1) := by decide +kernel
theorem dX12_fly_46 : decode cX12_fly 46 = .ok (.aload_n 0, 1) := by decide +kernel
theorem dX12_fly_47 : decode cX12_fly 47 = .ok (.getfield 158, 3) := by decide +kernel
theorem dX12_fly_50 : decode cX12_fly 50 = .ok (.if_icmp .gt 7, 3) := by decide +kernel
theorem dX12_fly_53 : decode cX12_fly 53 = .ok (.iconst 1, 1) := by decide +kernel
theorem dX12_fly_54 : decode cX12_fly 54 = .ok (.goto 4, 3) := by decide +kernel
theorem dX12_fly_57 : decode cX12_fly 57 = .ok (.iconst 0, 1) := by decide +kernel
theorem dX12_fly_58 : decode cX12_fly 58 = .ok (.iconst 1, 1) := by decide +kernel
theorem dX12_fly_59 : decode cX12_fly 59 = .ok (.invokevirtual 141, 3) := by decide +kernel
theorem dX12_fly_62 : decode cX12_fly 62 = .ok (.ifCond .ne 5, 3) := by decide +kernel
theorem dX12_fly_65 : decode cX12_fly 65 = .ok (.iconst 0, 1) := by decide +kernel
theorem dX12_fly_66 : decode cX12_fly 66 = .ok (.ireturn, 1) := by decide +kernel
theorem dX12_fly_67 : decode cX12_fly 67 = .ok (.bipush 8, 2) := by decide +kernel
theorem dX12_fly_69 : decode cX12_fly 69 = .ok (.iload_n 1, 1) := by decide +kernel
theorem dX12_fly_70 : decode cX12_fly 70 = .ok (.imul, 1) := by decide +kernel
theorem dX12_fly_71 : decode cX12_fly 71 = .ok (.istore 5, 2) := by decide +kernel
theorem dX12_fly_73 : decode cX12_fly 73 = .ok (.iload 5, 2) := by decide +kernel
theorem dX12_fly_75 : decode cX12_fly 75 = .ok (.iload 4, 2) := by decide +kernel
theorem dX12_fly_77 : decode cX12_fly 77 = .ok (.if_icmp .ge 37, 3) := by decide +kernel
theorem dX12_fly_80 : decode cX12_fly 80 = .ok (.aload_n 0, 1) := by decide +kernel
theorem dX12_fly_81 : decode cX12_fly 81 = .ok (.getfield 74, 3) := by decide +kernel
theorem dX12_fly_84 : decode cX12_fly 84 = .ok (.iload 5, 2) := by decide +kernel
theorem dX12_fly_86 : decode cX12_fly 86 = .ok (.aload_n 0, 1) := by decide +kernel
theorem dX12_fly_87 : decode cX12_fly 87 = .ok (.getfield 74, 3) := by decide +kernel
theorem dX12_fly_90 : decode cX12_fly 90 = .ok (.iload 5, 2) := by decide +kernel
theorem dX12_fly_92 : decode cX12_fly 92 = .ok (.iaload, 1) := by decide +kernel
theorem dX12_fly_93 : decode cX12_fly 93 = .ok (.ifCond .ne 7, 3) := by decide +kernel
theorem dX12_fly_96 : decode cX12_fly 96 = .ok (.iconst 2, 1) := by decide +kernel
theorem dX12_fly_97 : decode cX12_fly 97 = .ok (.goto 10, 3) := by decide +kernel
theorem dX12_fly_100 : decode cX12_fly 100 = .ok (.aload_n 0, 1) := by decide +kernel
theorem dX12_fly_101 : decode cX12_fly 101 = .ok (.getfield 74, 3) := by decide +kernel
theorem dX12_fly_104 : decode cX12_fly 104 = .ok (.iload 5, 2) := by decide +kernel
theorem dX12_fly_106 : decode cX12_fly 106 = .ok (.iaload, 1) := by decide +kernel
theorem dX12_fly_107 : decode cX12_fly 107 = .ok (.iastore, 1) := by decide +kernel
theorem dX12_fly_108 : decode cX12_fly 108 = .ok (.iinc 5 1, 3) := by decide +kernel
theorem dX12_fly_111 : decode cX12_fly 111 = .ok (.goto (-38), 3) := by decide +kernel
theorem dX12_fly_114 : decode cX12_fly 114 = .ok (.aload_n 0, 1) := by decide +kernel
theorem dX12_fly_115 : decode cX12_fly 115 = .ok (.getfield 74, 3) := by decide +kernel
theorem dX12_fly_118 : decode cX12_fly 118 = .ok (.iload 4, 2) := by decide +kernel
theorem dX12_fly_120 : decode cX12_fly 120 = .ok (.iconst 1, 1) := by decide +kernel
theorem dX12_fly_121 : decode cX12_fly 121 = .ok (.iastore, 1) := by decide +kernel
theorem dX12_fly_122 : decode cX12_fly 122 = .ok (.aload_n 0, 1) := by decide +kernel
theorem dX12_fly_123 : decode cX12_fly 123 = .ok (.getfield 120, 3) := by decide +kernel
theorem dX12_fly_126 : decode cX12_fly 126 = .ok (.aload_n 0, 1) := by decide +kernel
theorem dX12_fly_127 : decode cX12_fly 127 = .ok (.getfield 62, 3) := by decide +kernel
theorem dX12_fly_130 : decode cX12_fly 130 = .ok (.iload_n 1, 1) := by decide +kernel
theorem dX12_fly_131 : decode cX12_fly 131 = .ok (.iaload, 1) := by decide +kernel
theorem dX12_fly_132 : decode cX12_fly 132 = .ok (.dup2, 1) := by decide +kernel
theorem dX12_fly_133 : decode cX12_fly 133 = .ok (.laload, 1) := by decide +kernel
theorem dX12_fly_134 : decode cX12_fly 134 = .ok (.aload_n 0, 1) := by decide +kernel
theorem dX12_fly_135 : decode cX12_fly 135 = .ok (.getfield 80, 3) := by decide +kernel
theorem dX12_fly_138 : decode cX12_fly 138 = .ok (.iload 4, 2) := by decide +kernel
theorem dX12_fly_140 : decode cX12_fly 140 = .ok (.iaload, 1) := by decide +kernel
theorem dX12_fly_141 : decode cX12_fly 141 = .ok (.i2l, 1) := by decide +kernel
theorem dX12_fly_142 : decode cX12_fly 142 = .ok (.lsub, 1) := by decide +kernel
theorem dX12_fly_143 : decode cX12_fly 143 = .ok (.lastore, 1) := by decide +kernel
theorem dX12_fly_144 : decode cX12_fly 144 = .ok (.aload_n 0, 1) := by decide +kernel
theorem dX12_fly_145 : decode cX12_fly 145 = .ok (.getfield 123, 3) := by decide +kernel
theorem dX12_fly_148 : decode cX12_fly 148 = .ok (.aload_n 0, 1) := by decide +kernel
theorem dX12_fly_149 : decode cX12_fly 149 = .ok (.getfield 89, 3) := by decide +kernel
theorem dX12_fly_152 : decode cX12_fly 152 = .ok (.iload 4, 2) := by decide +kernel
theorem dX12_fly_154 : decode cX12_fly 154 = .ok (.iaload, 1) := by decide +kernel
theorem dX12_fly_155 : decode cX12_fly 155 = .ok (.dup2, 1) := by decide +kernel
theorem dX12_fly_156 : decode cX12_fly 156 = .ok (.laload, 1) := by decide +kernel
theorem dX12_fly_157 : decode cX12_fly 157 = .ok (.aload_n 0, 1) := by decide +kernel
theorem dX12_fly_158 : decode cX12_fly 158 = .ok (.getfield 80, 3) := by decide +kernel
theorem dX12_fly_161 : decode cX12_fly 161 = .ok (.iload 4, 2) := by decide +kernel
theorem dX12_fly_163 : decode cX12_fly 163 = .ok (.iaload, 1) := by decide +kernel
theorem dX12_fly_164 : decode cX12_fly 164 = .ok (.i2l, 1) := by decide +kernel
theorem dX12_fly_165 : decode cX12_fly 165 = .ok (.ladd, 1) := by decide +kernel
theorem dX12_fly_166 : decode cX12_fly 166 = .ok (.lastore, 1) := by decide +kernel
theorem dX12_fly_167 : decode cX12_fly 167 = .ok (.aload_n 0, 1) := by decide +kernel
theorem dX12_fly_168 : decode cX12_fly 168 = .ok (.getfield 83, 3) := by decide +kernel
theorem dX12_fly_171 : decode cX12_fly 171 = .ok (.iload 4, 2) := by decide +kernel
theorem dX12_fly_173 : decode cX12_fly 173 = .ok (.iaload, 1) := by decide +kernel
theorem dX12_fly_174 : decode cX12_fly 174 = .ok (.aload_n 0, 1) := by decide +kernel
theorem dX12_fly_175 : decode cX12_fly 175 = .ok (.getfield 62, 3) := by decide +kernel
theorem dX12_fly_178 : decode cX12_fly 178 = .ok (.iload_n 1, 1) := by decide +kernel
theorem dX12_fly_179 : decode cX12_fly 179 = .ok (.iaload, 1) := by decide +kernel
theorem dX12_fly_180 : decode cX12_fly 180 = .ok (.if_icmp .ne 5, 3) := by decide +kernel
theorem dX12_fly_183 : decode cX12_fly 183 = .ok (.iconst (-1), 1) := by decide +kernel
theorem dX12_fly_184 : decode cX12_fly 184 = .ok (.ireturn, 1) := by decide +kernel
theorem dX12_fly_185 : decode cX12_fly 185 = .ok (.aload_n 0, 1) := by decide +kernel
theorem dX12_fly_186 : decode cX12_fly 186 = .ok (.getfield 95, 3) := by decide +kernel
theorem dX12_fly_189 : decode cX12_fly 189 = .ok (.aload_n 0, 1) := by decide +kernel
theorem dX12_fly_190 : decode cX12_fly 190 = .ok (.getfield 234, 3) := by decide +kernel
theorem dX12_fly_193 : decode cX12_fly 193 = .ok (.iconst 0, 1) := by decide +kernel
theorem dX12_fly_194 : decode cX12_fly 194 = .ok (.iastore, 1) := by decide +kernel
theorem dX12_fly_195 : decode cX12_fly 195 = .ok (.aload_n 0, 1) := by decide +kernel
theorem dX12_fly_196 : decode cX12_fly 196 = .ok (.getfield 98, 3) := by decide +kernel
theorem dX12_fly_199 : decode cX12_fly 199 = .ok (.aload_n 0, 1) := by decide +kernel
theorem dX12_fly_200 : decode cX12_fly 200 = .ok (.getfield 234, 3) := by decide +kernel
theorem dX12_fly_203 : decode cX12_fly 203 = .ok (.aload_n 0, 1) := by decide +kernel
theorem dX12_fly_204 : decode cX12_fly 204 = .ok (.getfield 77, 3) := by decide +kernel
theorem dX12_fly_207 : decode cX12_fly 207 = .ok (.iload 4, 2) := by decide +kernel
theorem dX12_fly_209 : decode cX12_fly 209 = .ok (.iaload, 1) := by decide +kernel
theorem dX12_fly_210 : decode cX12_fly 210 = .ok (.iastore, 1) := by decide +kernel
theorem dX12_fly_211 : decode cX12_fly 211 = .ok (.aload_n 0, 1) := by decide +kernel
theorem dX12_fly_212 : decode cX12_fly 212 = .ok (.getfield 101, 3) := by decide +kernel
theorem dX12_fly_215 : decode cX12_fly 215 = .ok (.aload_n 0, 1) := by decide +kernel
theorem dX12_fly_216 : decode cX12_fly 216 = .ok (.getfield 234, 3) := by decide +kernel
theorem dX12_fly_219 : decode cX12_fly 219 = .ok (.aload_n 0, 1) := by decide +kernel
theorem dX12_fly_220 : decode cX12_fly 220 = .ok (.getfield 62, 3) := by decide +kernel
theorem dX12_fly_223 : decode cX12_fly 223 = .ok (.iload_n 1, 1) := by decide +kernel
theorem dX12_fly_224 : decode cX12_fly 224 = .ok (.iaload, 1) := by decide +kernel
theorem dX12_fly_225 : decode cX12_fly 225 = .ok (.iastore, 1) := by decide +kernel
theorem dX12_fly_226 : decode cX12_fly 226 = .ok (.aload_n 0, 1) := by decide +kernel
theorem dX12_fly_227 : decode cX12_fly 227 = .ok (.getfield 104, 3) := by decide +kernel
theorem dX12_fly_230 : decode cX12_fly 230 = .ok (.aload_n 0, 1) := by decide +kernel
theorem dX12_fly_231 : decode cX12_fly 231 = .ok (.getfield 234, 3) := by decide +kernel
theorem dX12_fly_234 : decode cX12_fly 234 = .ok (.aload_n 0, 1) := by decide +kernel
theorem dX12_fly_235 : decode cX12_fly 235 = .ok (.getfield 83, 3) := by decide +kernel
theorem dX12_fly_238 : decode cX12_fly 238 = .ok (.iload 4, 2) := by decide +kernel
theorem dX12_fly_240 : decode cX12_fly 240 = .ok (.iaload, 1) := by decide +kernel
theorem dX12_fly_241 : decode cX12_fly 241 = .ok (.iastore, 1) := by decide +kernel
theorem dX12_fly_242 : decode cX12_fly 242 = .ok (.aload_n 0, 1) := by decide +kernel
theorem dX12_fly_243 : decode cX12_fly 243 = .ok (.getfield 92, 3) := by decide +kernel
theorem dX12_fly_246 : decode cX12_fly 246 = .ok (.iload 4, 2) := by decide +kernel
theorem dX12_fly_248 : decode cX12_fly 248 = .ok (.aload_n 0, 1) := by decide +kernel
theorem dX12_fly_249 : decode cX12_fly 249 = .ok (.getfield 234, 3) := by decide +kernel
theorem dX12_fly_252 : decode cX12_fly 252 = .ok (.iastore, 1) := by decide +kernel
theorem dX12_fly_253 : decode cX12_fly 253 = .ok (.aload_n 0, 1) := by decide +kernel
theorem dX12_fly_254 : decode cX12_fly 254 = .ok (.dup, 1) := by decide +kernel
theorem dX12_fly_255 : decode cX12_fly 255 = .ok (.getfield 234, 3) := by decide +kernel
theorem dX12_fly_258 : decode cX12_fly 258 = .ok (.iconst 1, 1) := by decide +kernel
theorem dX12_fly_259 : decode cX12_fly 259 = .ok (.iadd, 1) := by decide +kernel
theorem dX12_fly_260 : decode cX12_fly 260 = .ok (.putfield 234, 3) := by decide +kernel
theorem dX12_fly_263 : decode cX12_fly 263 = .ok (.aload_n 0, 1) := by decide +kernel
theorem dX12_fly_264 : decode cX12_fly 264 = .ok (.getfield 234, 3) := by decide +kernel
theorem dX12_fly_267 : decode cX12_fly 267 = .ok (.iconst 1, 1) := by decide +kernel
theorem dX12_fly_268 : decode cX12_fly 268 = .ok (.isub, 1) := by decide +kernel
theorem dX12_fly_269 : decode cX12_fly 269 = .ok (.ireturn, 1) := by decide +kernel
theorem dX12_endorse_0 : decode cX12_endorse 0 = .ok (.aload_n 0, 1) := by decide +kernel
theorem dX12_endorse_1 : decode cX12_endorse 1 = .ok (.iload_n 1, 1) := by decide +kernel
theorem dX12_endorse_2 : decode cX12_endorse 2 = .ok (.iload_n 2, 1) := by decide +kernel
theorem dX12_endorse_3 : decode cX12_endorse 3 = .ok (.invokevirtual 230, 3) := by decide +kernel
theorem dX12_endorse_6 : decode cX12_endorse 6 = .ok (.ifCond .eq 14, 3) := by decide +kernel
theorem dX12_endorse_9 : decode cX12_endorse 9 = .ok (.iload_n 3, 1) := by decide +kernel
theorem dX12_endorse_10 : decode cX12_endorse 10 = .ok (.invokestatic 149, 3) := by decide +kernel
theorem dX12_endorse_13 : decode cX12_endorse 13 = .ok (.ifCond .eq 7, 3) := by decide +kernel
theorem dX12_endorse_16 : decode cX12_endorse 16 = .ok (.iconst 1, 1) := by decide +kernel
theorem dX12_endorse_17 : decode cX12_endorse 17 = .ok (.goto 4, 3) := by decide +kernel
theorem dX12_endorse_20 : decode cX12_endorse 20 = .ok (.iconst 0, 1) := by decide +kernel
theorem dX12_endorse_21 : decode cX12_endorse 21 = .ok (.istore 4, 2) := by decide +kernel
theorem dX12_endorse_23 : decode cX12_endorse 23 = .ok (.iload 4, 2) := by decide +kernel
theorem dX12_endorse_25 : decode cX12_endorse 25 = .ok (.ifCond .eq 12, 3) := by decide +kernel
theorem dX12_endorse_28 : decode cX12_endorse 28 = .ok (.bipush 8, 2) := by decide +kernel
theorem dX12_endorse_30 : decode cX12_endorse 30 = .ok (.iload_n 1, 1) := by decide +kernel
theorem dX12_endorse_31 : decode cX12_endorse 31 = .ok (.imul, 1) := by decide +kernel
theorem dX12_endorse_32 : decode cX12_endorse 32 = .ok (.iload_n 2, 1) := by decide +kernel
theorem dX12_endorse_33 : decode cX12_endorse 33 = .ok (.iadd, 1) := by decide +kernel
theorem dX12_endorse_34 : decode cX12_endorse 34 = .ok (.goto 4, 3) := by decide +kernel
theorem dX12_endorse_37 : decode cX12_endorse 37 = .ok (.iconst 0, 1) := by decide +kernel
theorem dX12_endorse_38 : decode cX12_endorse 38 = .ok (.istore 5, 2) := by decide +kernel
theorem dX12_endorse_40 : decode cX12_endorse 40 = .ok (.aload_n 0, 1) := by decide +kernel
theorem dX12_endorse_41 : decode cX12_endorse 41 = .ok (.iload 4, 2) := by decide +kernel
theorem dX12_endorse_43 : decode cX12_endorse 43 = .ok (.iload 4, 2) := by decide +kernel
theorem dX12_endorse_45 : decode cX12_endorse 45 = .ok (.ifCond .eq 28, 3) := by decide +kernel
theorem dX12_endorse_48 : decode cX12_endorse 48 = .ok (.aload_n 0, 1) := by decide +kernel
theorem dX12_endorse_49 : decode cX12_endorse 49 = .ok (.getfield 74, 3) := by decide +kernel
theorem dX12_endorse_52 : decode cX12_endorse 52 = .ok (.iload 5, 2) := by decide +kernel
theorem dX12_endorse_54 : decode cX12_endorse 54 = .ok (.iaload, 1) := by decide +kernel
theorem dX12_endorse_55 : decode cX12_endorse 55 = .ok (.ifCond .ne 18, 3) := by decide +kernel
theorem dX12_endorse_58 : decode cX12_endorse 58 = .ok (.aload_n 0, 1) := by decide +kernel
theorem dX12_endorse_59 : decode cX12_endorse 59 = .ok (.getfield 83, 3) := by decide +kernel
theorem dX12_endorse_62 : decode cX12_endorse 62 = .ok (.iload 5, 2) := by decide +kernel
theorem dX12_endorse_64 : decode cX12_endorse 64 = .ok (.iaload, 1) := by decide +kernel
theorem dX12_endorse_65 : decode cX12_endorse 65 = .ok (.iload_n 3, 1) := by decide +kernel
theorem dX12_endorse_66 : decode cX12_endorse 66 = .ok (.if_icmp .eq 7, 3) := by decide +kernel
theorem dX12_endorse_69 : decode cX12_endorse 69 = .ok (.iconst 1, 1) := by decide +kernel
theorem dX12_endorse_70 : decode cX12_endorse 70 = .ok (.goto 4, 3) := by decide +kernel
theorem dX12_endorse_73 : decode cX12_endorse 73 = .ok (.iconst 0, 1) := by decide +kernel
theorem dX12_endorse_74 : decode cX12_endorse 74 = .ok (.iconst 1, 1) := by decide +kernel
theorem dX12_endorse_75 : decode cX12_endorse 75 = .ok (.invokevirtual 141, 3) := by decide +kernel
theorem dX12_endorse_78 : decode cX12_endorse 78 = .ok (.ifCond .ne 5, 3) := by decide +kernel
theorem dX12_endorse_81 : decode cX12_endorse 81 = .ok (.iconst 0, 1) := by decide +kernel
theorem dX12_endorse_82 : decode cX12_endorse 82 = .ok (.ireturn, 1) := by decide +kernel
theorem dX12_endorse_83 : decode cX12_endorse 83 = .ok (.aload_n 0, 1) := by decide +kernel
theorem dX12_endorse_84 : decode cX12_endorse 84 = .ok (.getfield 83, 3) := by decide +kernel
theorem dX12_endorse_87 : decode cX12_endorse 87 = .ok (.iload 5, 2) := by decide +kernel
theorem dX12_endorse_89 : decode cX12_endorse 89 = .ok (.iaload, 1) := by decide +kernel
theorem dX12_endorse_90 : decode cX12_endorse 90 = .ok (.istore 6, 2) := by decide +kernel
theorem dX12_endorse_92 : decode cX12_endorse 92 = .ok (.aload_n 0, 1) := by decide +kernel
theorem dX12_endorse_93 : decode cX12_endorse 93 = .ok (.getfield 83, 3) := by decide +kernel
theorem dX12_endorse_96 : decode cX12_endorse 96 = .ok (.iload 5, 2) := by decide +kernel
theorem dX12_endorse_98 : decode cX12_endorse 98 = .ok (.iload_n 3, 1) := by decide +kernel
theorem dX12_endorse_99 : decode cX12_endorse 99 = .ok (.iastore, 1) := by decide +kernel
theorem dX12_endorse_100 : decode cX12_endorse 100 = .ok (.iload 6, 2) := by decide +kernel
theorem dX12_endorse_102 : decode cX12_endorse 102 = .ok (.ireturn, 1) := by decide +kernel
theorem dX12_hasOpen_0 : decode cX12_hasOpen 0 = .ok (.iconst 0, 1) := by decide +kernel
theorem dX12_hasOpen_1 : decode cX12_hasOpen 1 = .ok (.istore_n 2, 1) := by decide +kernel
theorem dX12_hasOpen_2 : decode cX12_hasOpen 2 = .ok (.bipush 8, 2) := by decide +kernel
theorem dX12_hasOpen_4 : decode cX12_hasOpen 4 = .ok (.iload_n 1, 1) := by decide +kernel
theorem dX12_hasOpen_5 : decode cX12_hasOpen 5 = .ok (.imul, 1) := by decide +kernel
theorem dX12_hasOpen_6 : decode cX12_hasOpen 6 = .ok (.istore_n 3, 1) := by decide +kernel
theorem dX12_hasOpen_7 : decode cX12_hasOpen 7 = .ok (.iload_n 3, 1) := by decide +kernel
theorem dX12_hasOpen_8 : decode cX12_hasOpen 8 = .ok (.bipush 8, 2) := by decide +kernel
theorem dX12_hasOpen_10 : decode cX12_hasOpen 10 = .ok (.iload_n 1, 1) := by decide +kernel
theorem dX12_hasOpen_11 : decode cX12_hasOpen 11 = .ok (.imul, 1) := by decide +kernel
theorem dX12_hasOpen_12 : decode cX12_hasOpen 12 = .ok (.aload_n 0, 1) := by decide +kernel
theorem dX12_hasOpen_13 : decode cX12_hasOpen 13 = .ok (.getfield 65, 3) := by decide +kernel
theorem dX12_hasOpen_16 : decode cX12_hasOpen 16 = .ok (.iload_n 1, 1) := by decide +kernel
theorem dX12_hasOpen_17 : decode cX12_hasOpen 17 = .ok (.iaload, 1) := by decide +kernel
theorem dX12_hasOpen_18 : decode cX12_hasOpen 18 = .ok (.iadd, 1) := by decide +kernel
theorem dX12_hasOpen_19 : decode cX12_hasOpen 19 = .ok (.if_icmp .ge 28, 3) := by decide +kernel
theorem dX12_hasOpen_22 : decode cX12_hasOpen 22 = .ok (.iload_n 2, 1) := by decide +kernel
theorem dX12_hasOpen_23 : decode cX12_hasOpen 23 = .ok (.ifCond .ne 12, 3) := by decide +kernel
theorem dX12_hasOpen_26 : decode cX12_hasOpen 26 = .ok (.aload_n 0, 1) := by decide +kernel
theorem dX12_hasOpen_27 : decode cX12_hasOpen 27 = .ok (.getfield 74, 3) := by decide +kernel
theorem dX12_hasOpen_30 : decode cX12_hasOpen 30 = .ok (.iload_n 3, 1) := by decide +kernel
theorem dX12_hasOpen_31 : decode cX12_hasOpen 31 = .ok (.iaload, 1) := by decide +kernel
theorem dX12_hasOpen_32 : decode cX12_hasOpen 32 = .ok (.ifCond .ne 7, 3) := by decide +kernel
theorem dX12_hasOpen_35 : decode cX12_hasOpen 35 = .ok (.iconst 1, 1) := by decide +kernel
theorem dX12_hasOpen_36 : decode cX12_hasOpen 36 = .ok (.goto 4, 3) := by decide +kernel
theorem dX12_hasOpen_39 : decode cX12_hasOpen 39 = .ok (.iconst 0, 1) := by decide +kernel
theorem dX12_hasOpen_40 : decode cX12_hasOpen 40 = .ok (.istore_n 2, 1) := by decide +kernel
theorem dX12_hasOpen_41 : decode cX12_hasOpen 41 = .ok (.iinc 3 1, 3) := by decide +kernel
theorem dX12_hasOpen_44 : decode cX12_hasOpen 44 = .ok (.goto (-37), 3) := by decide +kernel
theorem dX12_hasOpen_47 : decode cX12_hasOpen 47 = .ok (.iload_n 2, 1) := by decide +kernel
theorem dX12_hasOpen_48 : decode cX12_hasOpen 48 = .ok (.ireturn, 1) := by decide +kernel
theorem dX12_openOnes_0 : decode cX12_openOnes 0 = .ok (.iconst 0, 1) := by decide +kernel
theorem dX12_openOnes_1 : decode cX12_openOnes 1 = .ok (.istore_n 3, 1) := by decide +kernel
theorem dX12_openOnes_2 : decode cX12_openOnes 2 = .ok (.bipush 8, 2) := by decide +kernel
theorem dX12_openOnes_4 : decode cX12_openOnes 4 = .ok (.iload_n 1, 1) := by decide +kernel
theorem dX12_openOnes_5 : decode cX12_openOnes 5 = .ok (.imul, 1) := by decide +kernel
theorem dX12_openOnes_6 : decode cX12_openOnes 6 = .ok (.istore 4, 2) := by decide +kernel
theorem dX12_openOnes_8 : decode cX12_openOnes 8 = .ok (.iload 4, 2) := by decide +kernel
theorem dX12_openOnes_10 : decode cX12_openOnes 10 = .ok (.bipush 8, 2) := by decide +kernel
theorem dX12_openOnes_12 : decode cX12_openOnes 12 = .ok (.iload_n 1, 1) := by decide +kernel
theorem dX12_openOnes_13 : decode cX12_openOnes 13 = .ok (.imul, 1) := by decide +kernel
theorem dX12_openOnes_14 : decode cX12_openOnes 14 = .ok (.aload_n 0, 1) := by decide +kernel
theorem dX12_openOnes_15 : decode cX12_openOnes 15 = .ok (.getfield 65, 3) := by decide +kernel
theorem dX12_openOnes_18 : decode cX12_openOnes 18 = .ok (.iload_n 1, 1) := by decide +kernel
theorem dX12_openOnes_19 : decode cX12_openOnes 19 = .ok (.iaload, 1) := by decide +kernel
theorem dX12_openOnes_20 : decode cX12_openOnes 20 = .ok (.iadd, 1) := by decide +kernel
theorem dX12_openOnes_21 : decode cX12_openOnes 21 = .ok (.if_icmp .ge 47, 3) := by decide +kernel
theorem dX12_openOnes_24 : decode cX12_openOnes 24 = .ok (.iload_n 3, 1) := by decide +kernel
theorem dX12_openOnes_25 : decode cX12_openOnes 25 = .ok (.aload_n 0, 1) := by decide +kernel
theorem dX12_openOnes_26 : decode cX12_openOnes 26 = .ok (.getfield 74, 3) := by decide +kernel
theorem dX12_openOnes_29 : decode cX12_openOnes 29 = .ok (.iload 4, 2) := by decide +kernel
theorem dX12_openOnes_31 : decode cX12_openOnes 31 = .ok (.iaload, 1) := by decide +kernel
theorem dX12_openOnes_32 : decode cX12_openOnes 32 = .ok (.ifCond .ne 27, 3) := by decide +kernel
theorem dX12_openOnes_35 : decode cX12_openOnes 35 = .ok (.iload_n 2, 1) := by decide +kernel
theorem dX12_openOnes_36 : decode cX12_openOnes 36 = .ok (.ifCond .eq 13, 3) := by decide +kernel
theorem dX12_openOnes_39 : decode cX12_openOnes 39 = .ok (.aload_n 0, 1) := by decide +kernel
theorem dX12_openOnes_40 : decode cX12_openOnes 40 = .ok (.getfield 80, 3) := by decide +kernel
theorem dX12_openOnes_43 : decode cX12_openOnes 43 = .ok (.iload 4, 2) := by decide +kernel
theorem dX12_openOnes_45 : decode cX12_openOnes 45 = .ok (.iaload, 1) := by decide +kernel
theorem dX12_openOnes_46 : decode cX12_openOnes 46 = .ok (.goto 14, 3) := by decide +kernel
theorem dX12_openOnes_49 : decode cX12_openOnes 49 = .ok (.aload_n 0, 1) := by decide +kernel
theorem dX12_openOnes_50 : decode cX12_openOnes 50 = .ok (.getfield 77, 3) := by decide +kernel
theorem dX12_openOnes_53 : decode cX12_openOnes 53 = .ok (.iload 4, 2) := by decide +kernel
theorem dX12_openOnes_55 : decode cX12_openOnes 55 = .ok (.iaload, 1) := by decide +kernel
theorem dX12_openOnes_56 : decode cX12_openOnes 56 = .ok (.goto 4, 3) := by decide +kernel
theorem dX12_openOnes_59 : decode cX12_openOnes 59 = .ok (.iconst 0, 1) := by decide +kernel
theorem dX12_openOnes_60 : decode cX12_openOnes 60 = .ok (.iadd, 1) := by decide +kernel
theorem dX12_openOnes_61 : decode cX12_openOnes 61 = .ok (.istore_n 3, 1) := by decide +kernel
theorem dX12_openOnes_62 : decode cX12_openOnes 62 = .ok (.iinc 4 1, 3) := by decide +kernel
theorem dX12_openOnes_65 : decode cX12_openOnes 65 = .ok (.goto (-57), 3) := by decide +kernel
theorem dX12_openOnes_68 : decode cX12_openOnes 68 = .ok (.iload_n 3, 1) := by decide +kernel
theorem dX12_openOnes_69 : decode cX12_openOnes 69 = .ok (.ireturn, 1) := by decide +kernel
theorem dX12_turns_0 : decode cX12_turns 0 = .ok (.bipush 8, 2) := by decide +kernel
theorem dX12_turns_2 : decode cX12_turns 2 = .ok (.iload_n 1, 1) := by decide +kernel
theorem dX12_turns_3 : decode cX12_turns 3 = .ok (.imul, 1) := by decide +kernel
theorem dX12_turns_4 : decode cX12_turns 4 = .ok (.istore_n 3, 1) := by decide +kernel
theorem dX12_turns_5 : decode cX12_turns 5 = .ok (.iload_n 3, 1) := by decide +kernel
theorem dX12_turns_6 : decode cX12_turns 6 = .ok (.bipush 8, 2) := by decide +kernel
theorem dX12_turns_8 : decode cX12_turns 8 = .ok (.iload_n 1, 1) := by decide +kernel
theorem dX12_turns_9 : decode cX12_turns 9 = .ok (.imul, 1) := by decide +kernel
theorem dX12_turns_10 : decode cX12_turns 10 = .ok (.aload_n 0, 1) := by decide +kernel
theorem dX12_turns_11 : decode cX12_turns 11 = .ok (.getfield 65, 3) := by decide +kernel
theorem dX12_turns_14 : decode cX12_turns 14 = .ok (.iload_n 1, 1) := by decide +kernel
theorem dX12_turns_15 : decode cX12_turns 15 = .ok (.iaload, 1) := by decide +kernel
theorem dX12_turns_16 : decode cX12_turns 16 = .ok (.iadd, 1) := by decide +kernel
theorem dX12_turns_17 : decode cX12_turns 17 = .ok (.if_icmp .ge 34, 3) := by decide +kernel
theorem dX12_turns_20 : decode cX12_turns 20 = .ok (.aload_n 0, 1) := by decide +kernel
theorem dX12_turns_21 : decode cX12_turns 21 = .ok (.getfield 74, 3) := by decide +kernel
theorem dX12_turns_24 : decode cX12_turns 24 = .ok (.iload_n 3, 1) := by decide +kernel
theorem dX12_turns_25 : decode cX12_turns 25 = .ok (.aload_n 0, 1) := by decide +kernel
theorem dX12_turns_26 : decode cX12_turns 26 = .ok (.getfield 74, 3) := by decide +kernel
theorem dX12_turns_29 : decode cX12_turns 29 = .ok (.iload_n 3, 1) := by decide +kernel
theorem dX12_turns_30 : decode cX12_turns 30 = .ok (.iaload, 1) := by decide +kernel
theorem dX12_turns_31 : decode cX12_turns 31 = .ok (.ifCond .ne 7, 3) := by decide +kernel
theorem dX12_turns_34 : decode cX12_turns 34 = .ok (.iload_n 2, 1) := by decide +kernel
theorem dX12_turns_35 : decode cX12_turns 35 = .ok (.goto 9, 3) := by decide +kernel
theorem dX12_turns_38 : decode cX12_turns 38 = .ok (.aload_n 0, 1) := by decide +kernel
theorem dX12_turns_39 : decode cX12_turns 39 = .ok (.getfield 74, 3) := by decide +kernel
theorem dX12_turns_42 : decode cX12_turns 42 = .ok (.iload_n 3, 1) := by decide +kernel
theorem dX12_turns_43 : decode cX12_turns 43 = .ok (.iaload, 1) := by decide +kernel
theorem dX12_turns_44 : decode cX12_turns 44 = .ok (.iastore, 1) := by decide +kernel
theorem dX12_turns_45 : decode cX12_turns 45 = .ok (.iinc 3 1, 3) := by decide +kernel
theorem dX12_turns_48 : decode cX12_turns 48 = .ok (.goto (-43), 3) := by decide +kernel
theorem dX12_turns_51 : decode cX12_turns 51 = .ok (.return_, 1) := by decide +kernel
theorem dX12_refund_0 : decode cX12_refund 0 = .ok (.aload_n 0, 1) := by decide +kernel
theorem dX12_refund_1 : decode cX12_refund 1 = .ok (.iload_n 1, 1) := by decide +kernel
theorem dX12_refund_2 : decode cX12_refund 2 = .ok (.invokevirtual 227, 3) := by decide +kernel
theorem dX12_refund_5 : decode cX12_refund 5 = .ok (.istore_n 2, 1) := by decide +kernel
theorem dX12_refund_6 : decode cX12_refund 6 = .ok (.aload_n 0, 1) := by decide +kernel
theorem dX12_refund_7 : decode cX12_refund 7 = .ok (.iload_n 2, 1) := by decide +kernel
theorem dX12_refund_8 : decode cX12_refund 8 = .ok (.iload_n 2, 1) := by decide +kernel
theorem dX12_refund_9 : decode cX12_refund 9 = .ok (.ifCond .eq 23, 3) := by decide +kernel
theorem dX12_refund_12 : decode cX12_refund 12 = .ok (.aload_n 0, 1) := by decide +kernel
theorem dX12_refund_13 : decode cX12_refund 13 = .ok (.iload_n 2, 1) := by decide +kernel
theorem dX12_refund_14 : decode cX12_refund 14 = .ok (.ifCond .eq 7, 3) := by decide +kernel
theorem dX12_refund_17 : decode cX12_refund 17 = .ok (.iload_n 1, 1) := by decide +kernel
theorem dX12_refund_18 : decode cX12_refund 18 = .ok (.goto 4, 3) := by decide +kernel
theorem dX12_refund_21 : decode cX12_refund 21 = .ok (.iconst 0, 1) := by decide +kernel
theorem dX12_refund_22 : decode cX12_refund 22 = .ok (.invokevirtual 237, 3) := by decide +kernel
theorem dX12_refund_25 : decode cX12_refund 25 = .ok (.ifCond .eq 7, 3) := by decide +kernel
theorem dX12_refund_28 : decode cX12_refund 28 = .ok (.iconst 1, 1) := by decide +kernel
theorem dX12_refund_29 : decode cX12_refund 29 = .ok (.goto 4, 3) := by decide +kernel
theorem dX12_refund_32 : decode cX12_refund 32 = .ok (.iconst 0, 1) := by decide +kernel
theorem dX12_refund_33 : decode cX12_refund 33 = .ok (.iconst 1, 1) := by decide +kernel
theorem dX12_refund_34 : decode cX12_refund 34 = .ok (.invokevirtual 141, 3) := by decide +kernel
theorem dX12_refund_37 : decode cX12_refund 37 = .ok (.ifCond .ne 5, 3) := by decide +kernel
theorem dX12_refund_40 : decode cX12_refund 40 = .ok (.iconst 0, 1) := by decide +kernel
theorem dX12_refund_41 : decode cX12_refund 41 = .ok (.ireturn, 1) := by decide +kernel
theorem dX12_refund_42 : decode cX12_refund 42 = .ok (.aload_n 0, 1) := by decide +kernel
theorem dX12_refund_43 : decode cX12_refund 43 = .ok (.iload_n 1, 1) := by decide +kernel
theorem dX12_refund_44 : decode cX12_refund 44 = .ok (.iconst 0, 1) := by decide +kernel
theorem dX12_refund_45 : decode cX12_refund 45 = .ok (.invokevirtual 240, 3) := by decide +kernel
theorem dX12_refund_48 : decode cX12_refund 48 = .ok (.istore_n 3, 1) := by decide +kernel
theorem dX12_refund_49 : decode cX12_refund 49 = .ok (.iload_n 3, 1) := by decide +kernel
theorem dX12_refund_50 : decode cX12_refund 50 = .ok (.i2l, 1) := by decide +kernel
theorem dX12_refund_51 : decode cX12_refund 51 = .ok (.aload_n 0, 1) := by decide +kernel
theorem dX12_refund_52 : decode cX12_refund 52 = .ok (.getfield 152, 3) := by decide +kernel
theorem dX12_refund_55 : decode cX12_refund 55 = .ok (.i2l, 1) := by decide +kernel
theorem dX12_refund_56 : decode cX12_refund 56 = .ok (.lmul, 1) := by decide +kernel
theorem dX12_refund_57 : decode cX12_refund 57 = .ok (.ldc2_w 244, 3) := by decide +kernel
theorem dX12_refund_60 : decode cX12_refund 60 = .ok (.ladd, 1) := by decide +kernel
theorem dX12_refund_61 : decode cX12_refund 61 = .ok (.ldc2_w 246, 3) := by decide +kernel
theorem dX12_refund_64 : decode cX12_refund 64 = .ok (.ldiv, 1) := by decide +kernel
theorem dX12_refund_65 : decode cX12_refund 65 = .ok (.l2i, 1) := by decide +kernel
theorem dX12_refund_66 : decode cX12_refund 66 = .ok (.istore 4, 2) := by decide +kernel
theorem dX12_refund_68 : decode cX12_refund 68 = .ok (.iload_n 3, 1) := by decide +kernel
theorem dX12_refund_69 : decode cX12_refund 69 = .ok (.iload 4, 2) := by decide +kernel
theorem dX12_refund_71 : decode cX12_refund 71 = .ok (.isub, 1) := by decide +kernel
theorem dX12_refund_72 : decode cX12_refund 72 = .ok (.aload_n 0, 1) := by decide +kernel
theorem dX12_refund_73 : decode cX12_refund 73 = .ok (.iload_n 1, 1) := by decide +kernel
theorem dX12_refund_74 : decode cX12_refund 74 = .ok (.iconst 1, 1) := by decide +kernel
theorem dX12_refund_75 : decode cX12_refund 75 = .ok (.invokevirtual 240, 3) := by decide +kernel
theorem dX12_refund_78 : decode cX12_refund 78 = .ok (.iadd, 1) := by decide +kernel
theorem dX12_refund_79 : decode cX12_refund 79 = .ok (.istore 5, 2) := by decide +kernel
theorem dX12_refund_81 : decode cX12_refund 81 = .ok (.aload_n 0, 1) := by decide +kernel
theorem dX12_refund_82 : decode cX12_refund 82 = .ok (.iload_n 1, 1) := by decide +kernel
theorem dX12_refund_83 : decode cX12_refund 83 = .ok (.iconst 3, 1) := by decide +kernel
theorem dX12_refund_84 : decode cX12_refund 84 = .ok (.invokevirtual 248, 3) := by decide +kernel
theorem dX12_refund_87 : decode cX12_refund 87 = .ok (.aload_n 0, 1) := by decide +kernel
theorem dX12_refund_88 : decode cX12_refund 88 = .ok (.aload_n 0, 1) := by decide +kernel
theorem dX12_refund_89 : decode cX12_refund 89 = .ok (.getfield 62, 3) := by decide +kernel
theorem dX12_refund_92 : decode cX12_refund 92 = .ok (.iload_n 1, 1) := by decide +kernel
theorem dX12_refund_93 : decode cX12_refund 93 = .ok (.iaload, 1) := by decide +kernel
theorem dX12_refund_94 : decode cX12_refund 94 = .ok (.iload 5, 2) := by decide +kernel
theorem dX12_refund_96 : decode cX12_refund 96 = .ok (.ineg, 1) := by decide +kernel
theorem dX12_refund_97 : decode cX12_refund 97 = .ok (.invokevirtual 224, 3) := by decide +kernel
theorem dX12_refund_100 : decode cX12_refund 100 = .ok (.iload 5, 2) := by decide +kernel
theorem dX12_refund_102 : decode cX12_refund 102 = .ok (.ireturn, 1) := by decide +kernel
theorem dX12_reissue_0 : decode cX12_reissue 0 = .ok (.aload_n 0, 1) := by decide +kernel
theorem dX12_reissue_1 : decode cX12_reissue 1 = .ok (.iload_n 1, 1) := by decide +kernel
theorem dX12_reissue_2 : decode cX12_reissue 2 = .ok (.invokevirtual 227, 3) := by decide +kernel
theorem dX12_reissue_5 : decode cX12_reissue 5 = .ok (.istore_n 2, 1) := by decide +kernel
theorem dX12_reissue_6 : decode cX12_reissue 6 = .ok (.aload_n 0, 1) := by decide +kernel
theorem dX12_reissue_7 : decode cX12_reissue 7 = .ok (.iload_n 2, 1) := by decide +kernel
theorem dX12_reissue_8 : decode cX12_reissue 8 = .ok (.iload_n 2, 1) := by decide +kernel
theorem dX12_reissue_9 : decode cX12_reissue 9 = .ok (.ifCond .eq 30, 3) := by decide +kernel
theorem dX12_reissue_12 : decode cX12_reissue 12 = .ok (.aload_n 0, 1) := by decide +kernel
theorem dX12_reissue_13 : decode cX12_reissue 13 = .ok (.iload_n 2, 1) := by decide +kernel
theorem dX12_reissue_14 : decode cX12_reissue 14 = .ok (.ifCond .eq 7, 3) := by decide +kernel
theorem dX12_reissue_17 : decode cX12_reissue 17 = .ok (.iload_n 1, 1) := by decide +kernel
theorem dX12_reissue_18 : decode cX12_reissue 18 = .ok (.goto 4, 3) := by decide +kernel
theorem dX12_reissue_21 : decode cX12_reissue 21 = .ok (.iconst 0, 1) := by decide +kernel
theorem dX12_reissue_22 : decode cX12_reissue 22 = .ok (.invokevirtual 237, 3) := by decide +kernel
theorem dX12_reissue_25 : decode cX12_reissue 25 = .ok (.ifCond .eq 14, 3) := by decide +kernel
theorem dX12_reissue_28 : decode cX12_reissue 28 = .ok (.aload_n 0, 1) := by decide +kernel
theorem dX12_reissue_29 : decode cX12_reissue 29 = .ok (.invokevirtual 213, 3) := by decide +kernel
theorem dX12_reissue_32 : decode cX12_reissue 32 = .ok (.ifCond .eq 7, 3) := by decide +kernel
theorem dX12_reissue_35 : decode cX12_reissue 35 = .ok (.iconst 1, 1) := by decide +kernel
theorem dX12_reissue_36 : decode cX12_reissue 36 = .ok (.goto 4, 3) := by decide +kernel
theorem dX12_reissue_39 : decode cX12_reissue 39 = .ok (.iconst 0, 1) := by decide +kernel
theorem dX12_reissue_40 : decode cX12_reissue 40 = .ok (.iconst 1, 1) := by decide +kernel
theorem dX12_reissue_41 : decode cX12_reissue 41 = .ok (.invokevirtual 141, 3) := by decide +kernel
theorem dX12_reissue_44 : decode cX12_reissue 44 = .ok (.ifCond .ne 5, 3) := by decide +kernel
theorem dX12_reissue_47 : decode cX12_reissue 47 = .ok (.iconst 0, 1) := by decide +kernel
theorem dX12_reissue_48 : decode cX12_reissue 48 = .ok (.ireturn, 1) := by decide +kernel
theorem dX12_reissue_49 : decode cX12_reissue 49 = .ok (.aload_n 0, 1) := by decide +kernel
theorem dX12_reissue_50 : decode cX12_reissue 50 = .ok (.iload_n 1, 1) := by decide +kernel
theorem dX12_reissue_51 : decode cX12_reissue 51 = .ok (.iconst 0, 1) := by decide +kernel
theorem dX12_reissue_52 : decode cX12_reissue 52 = .ok (.invokevirtual 240, 3) := by decide +kernel
theorem dX12_reissue_55 : decode cX12_reissue 55 = .ok (.aload_n 0, 1) := by decide +kernel
theorem dX12_reissue_56 : decode cX12_reissue 56 = .ok (.iload_n 1, 1) := by decide +kernel
theorem dX12_reissue_57 : decode cX12_reissue 57 = .ok (.iconst 1, 1) := by decide +kernel
theorem dX12_reissue_58 : decode cX12_reissue 58 = .ok (.invokevirtual 240, 3) := by decide +kernel
theorem dX12_reissue_61 : decode cX12_reissue 61 = .ok (.iadd, 1) := by decide +kernel
theorem dX12_reissue_62 : decode cX12_reissue 62 = .ok (.istore_n 3, 1) := by decide +kernel
theorem dX12_reissue_63 : decode cX12_reissue 63 = .ok (.aload_n 0, 1) := by decide +kernel
theorem dX12_reissue_64 : decode cX12_reissue 64 = .ok (.iload_n 1, 1) := by decide +kernel
theorem dX12_reissue_65 : decode cX12_reissue 65 = .ok (.iconst 4, 1) := by decide +kernel
theorem dX12_reissue_66 : decode cX12_reissue 66 = .ok (.invokevirtual 248, 3) := by decide +kernel
theorem dX12_reissue_69 : decode cX12_reissue 69 = .ok (.aload_n 0, 1) := by decide +kernel
theorem dX12_reissue_70 : decode cX12_reissue 70 = .ok (.aload_n 0, 1) := by decide +kernel
theorem dX12_reissue_71 : decode cX12_reissue 71 = .ok (.getfield 210, 3) := by decide +kernel
theorem dX12_reissue_74 : decode cX12_reissue 74 = .ok (.aload_n 0, 1) := by decide +kernel
theorem dX12_reissue_75 : decode cX12_reissue 75 = .ok (.getfield 62, 3) := by decide +kernel
theorem dX12_reissue_78 : decode cX12_reissue 78 = .ok (.iload_n 1, 1) := by decide +kernel
theorem dX12_reissue_79 : decode cX12_reissue 79 = .ok (.iaload, 1) := by decide +kernel
theorem dX12_reissue_80 : decode cX12_reissue 80 = .ok (.invokevirtual 217, 3) := by decide +kernel
theorem dX12_reissue_83 : decode cX12_reissue 83 = .ok (.aload_n 0, 1) := by decide +kernel
theorem dX12_reissue_84 : decode cX12_reissue 84 = .ok (.getfield 59, 3) := by decide +kernel
theorem dX12_reissue_87 : decode cX12_reissue 87 = .ok (.aload_n 0, 1) := by decide +kernel
theorem dX12_reissue_88 : decode cX12_reissue 88 = .ok (.getfield 210, 3) := by decide +kernel
theorem dX12_reissue_91 : decode cX12_reissue 91 = .ok (.iaload, 1) := by decide +kernel
theorem dX12_reissue_92 : decode cX12_reissue 92 = .ok (.aload_n 0, 1) := by decide +kernel
theorem dX12_reissue_93 : decode cX12_reissue 93 = .ok (.aload_n 0, 1) := by decide +kernel
theorem dX12_reissue_94 : decode cX12_reissue 94 = .ok (.getfield 210, 3) := by decide +kernel
theorem dX12_reissue_97 : decode cX12_reissue 97 = .ok (.invokevirtual 221, 3) := by decide +kernel
theorem dX12_reissue_100 : decode cX12_reissue 100 = .ok (.iadd, 1) := by decide +kernel
theorem dX12_reissue_101 : decode cX12_reissue 101 = .ok (.iload_n 3, 1) := by decide +kernel
theorem dX12_reissue_102 : decode cX12_reissue 102 = .ok (.isub, 1) := by decide +kernel
theorem dX12_reissue_103 : decode cX12_reissue 103 = .ok (.istore 4, 2) := by decide +kernel
theorem dX12_reissue_105 : decode cX12_reissue 105 = .ok (.aload_n 0, 1) := by decide +kernel
theorem dX12_reissue_106 : decode cX12_reissue 106 = .ok (.aload_n 0, 1) := by decide +kernel
theorem dX12_reissue_107 : decode cX12_reissue 107 = .ok (.getfield 62, 3) := by decide +kernel
theorem dX12_reissue_110 : decode cX12_reissue 110 = .ok (.iload_n 1, 1) := by decide +kernel
theorem dX12_reissue_111 : decode cX12_reissue 111 = .ok (.iaload, 1) := by decide +kernel
theorem dX12_reissue_112 : decode cX12_reissue 112 = .ok (.iload 4, 2) := by decide +kernel
theorem dX12_reissue_114 : decode cX12_reissue 114 = .ok (.invokevirtual 224, 3) := by decide +kernel
theorem dX12_reissue_117 : decode cX12_reissue 117 = .ok (.aload_n 0, 1) := by decide +kernel
theorem dX12_reissue_118 : decode cX12_reissue 118 = .ok (.dup, 1) := by decide +kernel
theorem dX12_reissue_119 : decode cX12_reissue 119 = .ok (.getfield 210, 3) := by decide +kernel
theorem dX12_reissue_122 : decode cX12_reissue 122 = .ok (.iconst 1, 1) := by decide +kernel
theorem dX12_reissue_123 : decode cX12_reissue 123 = .ok (.iadd, 1) := by decide +kernel
theorem dX12_reissue_124 : decode cX12_reissue 124 = .ok (.putfield 210, 3) := by decide +kernel
theorem dX12_reissue_127 : decode cX12_reissue 127 = .ok (.iload 4, 2) := by decide +kernel
theorem dX12_reissue_129 : decode cX12_reissue 129 = .ok (.ireturn, 1) := by decide +kernel
theorem dX12_pass_0 : decode cX12_pass 0 = .ok (.aload_n 0, 1) := by decide +kernel
theorem dX12_pass_1 : decode cX12_pass 1 = .ok (.iload_n 1, 1) := by decide +kernel
theorem dX12_pass_2 : decode cX12_pass 2 = .ok (.iconst 1, 1) := by decide +kernel
theorem dX12_pass_3 : decode cX12_pass 3 = .ok (.bipush 100, 2) := by decide +kernel
theorem dX12_pass_5 : decode cX12_pass 5 = .ok (.invokestatic 133, 3) := by decide +kernel
theorem dX12_pass_8 : decode cX12_pass 8 = .ok (.aload_n 0, 1) := by decide +kernel
theorem dX12_pass_9 : decode cX12_pass 9 = .ok (.getfield 158, 3) := by decide +kernel
theorem dX12_pass_12 : decode cX12_pass 12 = .ok (.iload_n 1, 1) := by decide +kernel
theorem dX12_pass_13 : decode cX12_pass 13 = .ok (.iadd, 1) := by decide +kernel
theorem dX12_pass_14 : decode cX12_pass 14 = .ok (.sipush 999, 3) := by decide +kernel
theorem dX12_pass_17 : decode cX12_pass 17 = .ok (.if_icmp .gt 7, 3) := by decide +kernel
theorem dX12_pass_20 : decode cX12_pass 20 = .ok (.iconst 1, 1) := by decide +kernel
theorem dX12_pass_21 : decode cX12_pass 21 = .ok (.goto 4, 3) := by decide +kernel
theorem dX12_pass_24 : decode cX12_pass 24 = .ok (.iconst 0, 1) := by decide +kernel
theorem dX12_pass_25 : decode cX12_pass 25 = .ok (.iconst 1, 1) := by decide +kernel
theorem dX12_pass_26 : decode cX12_pass 26 = .ok (.invokevirtual 141, 3) := by decide +kernel
theorem dX12_pass_29 : decode cX12_pass 29 = .ok (.ifCond .ne 5, 3) := by decide +kernel
theorem dX12_pass_32 : decode cX12_pass 32 = .ok (.iconst 0, 1) := by decide +kernel
theorem dX12_pass_33 : decode cX12_pass 33 = .ok (.ireturn, 1) := by decide +kernel
theorem dX12_pass_34 : decode cX12_pass 34 = .ok (.aload_n 0, 1) := by decide +kernel
theorem dX12_pass_35 : decode cX12_pass 35 = .ok (.dup, 1) := by decide +kernel
theorem dX12_pass_36 : decode cX12_pass 36 = .ok (.getfield 158, 3) := by decide +kernel
theorem dX12_pass_39 : decode cX12_pass 39 = .ok (.iload_n 1, 1) := by decide +kernel
theorem dX12_pass_40 : decode cX12_pass 40 = .ok (.iadd, 1) := by decide +kernel
theorem dX12_pass_41 : decode cX12_pass 41 = .ok (.putfield 158, 3) := by decide +kernel
theorem dX12_pass_44 : decode cX12_pass 44 = .ok (.aload_n 0, 1) := by decide +kernel
theorem dX12_pass_45 : decode cX12_pass 45 = .ok (.getfield 158, 3) := by decide +kernel
theorem dX12_pass_48 : decode cX12_pass 48 = .ok (.ireturn, 1) := by decide +kernel
theorem dX12_moves_0 : decode cX12_moves 0 = .ok (.aload_n 0, 1) := by decide +kernel
theorem dX12_moves_1 : decode cX12_moves 1 = .ok (.getfield 116, 3) := by decide +kernel
theorem dX12_moves_4 : decode cX12_moves 4 = .ok (.iload_n 1, 1) := by decide +kernel
theorem dX12_moves_5 : decode cX12_moves 5 = .ok (.dup2, 1) := by decide +kernel
theorem dX12_moves_6 : decode cX12_moves 6 = .ok (.laload, 1) := by decide +kernel
theorem dX12_moves_7 : decode cX12_moves 7 = .ok (.iload_n 3, 1) := by decide +kernel
theorem dX12_moves_8 : decode cX12_moves 8 = .ok (.i2l, 1) := by decide +kernel
theorem dX12_moves_9 : decode cX12_moves 9 = .ok (.lsub, 1) := by decide +kernel
theorem dX12_moves_10 : decode cX12_moves 10 = .ok (.lastore, 1) := by decide +kernel
theorem dX12_moves_11 : decode cX12_moves 11 = .ok (.aload_n 0, 1) := by decide +kernel
theorem dX12_moves_12 : decode cX12_moves 12 = .ok (.getfield 116, 3) := by decide +kernel
theorem dX12_moves_15 : decode cX12_moves 15 = .ok (.iload_n 2, 1) := by decide +kernel
theorem dX12_moves_16 : decode cX12_moves 16 = .ok (.dup2, 1) := by decide +kernel
theorem dX12_moves_17 : decode cX12_moves 17 = .ok (.laload, 1) := by decide +kernel
theorem dX12_moves_18 : decode cX12_moves 18 = .ok (.iload_n 3, 1) := by decide +kernel
theorem dX12_moves_19 : decode cX12_moves 19 = .ok (.i2l, 1) := by decide +kernel
theorem dX12_moves_20 : decode cX12_moves 20 = .ok (.ladd, 1) := by decide +kernel
theorem dX12_moves_21 : decode cX12_moves 21 = .ok (.lastore, 1) := by decide +kernel
theorem dX12_moves_22 : decode cX12_moves 22 = .ok (.aload_n 0, 1) := by decide +kernel
theorem dX12_moves_23 : decode cX12_moves 23 = .ok (.getfield 120, 3) := by decide +kernel
theorem dX12_moves_26 : decode cX12_moves 26 = .ok (.iload_n 1, 1) := by decide +kernel
theorem dX12_moves_27 : decode cX12_moves 27 = .ok (.dup2, 1) := by decide +kernel
theorem dX12_moves_28 : decode cX12_moves 28 = .ok (.laload, 1) := by decide +kernel
theorem dX12_moves_29 : decode cX12_moves 29 = .ok (.iload_n 3, 1) := by decide +kernel
theorem dX12_moves_30 : decode cX12_moves 30 = .ok (.i2l, 1) := by decide +kernel
theorem dX12_moves_31 : decode cX12_moves 31 = .ok (.lsub, 1) := by decide +kernel
theorem dX12_moves_32 : decode cX12_moves 32 = .ok (.lastore, 1) := by decide +kernel
theorem dX12_moves_33 : decode cX12_moves 33 = .ok (.aload_n 0, 1) := by decide +kernel
theorem dX12_moves_34 : decode cX12_moves 34 = .ok (.getfield 120, 3) := by decide +kernel
theorem dX12_moves_37 : decode cX12_moves 37 = .ok (.iload_n 2, 1) := by decide +kernel
theorem dX12_moves_38 : decode cX12_moves 38 = .ok (.dup2, 1) := by decide +kernel
theorem dX12_moves_39 : decode cX12_moves 39 = .ok (.laload, 1) := by decide +kernel
theorem dX12_moves_40 : decode cX12_moves 40 = .ok (.iload_n 3, 1) := by decide +kernel
theorem dX12_moves_41 : decode cX12_moves 41 = .ok (.i2l, 1) := by decide +kernel
theorem dX12_moves_42 : decode cX12_moves 42 = .ok (.ladd, 1) := by decide +kernel
theorem dX12_moves_43 : decode cX12_moves 43 = .ok (.lastore, 1) := by decide +kernel
theorem dX12_moves_44 : decode cX12_moves 44 = .ok (.return_, 1) := by decide +kernel
theorem dX12_backOf_0 : decode cX12_backOf 0 = .ok (.aload_n 0, 1) := by decide +kernel
theorem dX12_backOf_1 : decode cX12_backOf 1 = .ok (.getfield 107, 3) := by decide +kernel
theorem dX12_backOf_4 : decode cX12_backOf 4 = .ok (.iload_n 1, 1) := by decide +kernel
theorem dX12_backOf_5 : decode cX12_backOf 5 = .ok (.iaload, 1) := by decide +kernel
theorem dX12_backOf_6 : decode cX12_backOf 6 = .ok (.iconst 3, 1) := by decide +kernel
theorem dX12_backOf_7 : decode cX12_backOf 7 = .ok (.if_icmp .ne 14, 3) := by decide +kernel
theorem dX12_backOf_10 : decode cX12_backOf 10 = .ok (.aload_n 0, 1) := by decide +kernel
theorem dX12_backOf_11 : decode cX12_backOf 11 = .ok (.getfield 98, 3) := by decide +kernel
theorem dX12_backOf_14 : decode cX12_backOf 14 = .ok (.iload_n 1, 1) := by decide +kernel
theorem dX12_backOf_15 : decode cX12_backOf 15 = .ok (.iaload, 1) := by decide +kernel
theorem dX12_backOf_16 : decode cX12_backOf 16 = .ok (.iconst 2, 1) := by decide +kernel
theorem dX12_backOf_17 : decode cX12_backOf 17 = .ok (.idiv, 1) := by decide +kernel
theorem dX12_backOf_18 : decode cX12_backOf 18 = .ok (.goto 9, 3) := by decide +kernel
theorem dX12_backOf_21 : decode cX12_backOf 21 = .ok (.aload_n 0, 1) := by decide +kernel
theorem dX12_backOf_22 : decode cX12_backOf 22 = .ok (.getfield 98, 3) := by decide +kernel
theorem dX12_backOf_25 : decode cX12_backOf 25 = .ok (.iload_n 1, 1) := by decide +kernel
theorem dX12_backOf_26 : decode cX12_backOf 26 = .ok (.iaload, 1) := by decide +kernel
theorem dX12_backOf_27 : decode cX12_backOf 27 = .ok (.ireturn, 1) := by decide +kernel
theorem dX12_settles_0 : decode cX12_settles 0 = .ok (.aload_n 0, 1) := by decide +kernel
theorem dX12_settles_1 : decode cX12_settles 1 = .ok (.getfield 95, 3) := by decide +kernel
theorem dX12_settles_4 : decode cX12_settles 4 = .ok (.iload_n 1, 1) := by decide +kernel
theorem dX12_settles_5 : decode cX12_settles 5 = .ok (.iaload, 1) := by decide +kernel
theorem dX12_settles_6 : decode cX12_settles 6 = .ok (.ifCond .ne 35, 3) := by decide +kernel
theorem dX12_settles_9 : decode cX12_settles 9 = .ok (.aload_n 0, 1) := by decide +kernel
theorem dX12_settles_10 : decode cX12_settles 10 = .ok (.aload_n 0, 1) := by decide +kernel
theorem dX12_settles_11 : decode cX12_settles 11 = .ok (.getfield 101, 3) := by decide +kernel
theorem dX12_settles_14 : decode cX12_settles 14 = .ok (.iload_n 1, 1) := by decide +kernel
theorem dX12_settles_15 : decode cX12_settles 15 = .ok (.iaload, 1) := by decide +kernel
theorem dX12_settles_16 : decode cX12_settles 16 = .ok (.aload_n 0, 1) := by decide +kernel
theorem dX12_settles_17 : decode cX12_settles 17 = .ok (.getfield 104, 3) := by decide +kernel
theorem dX12_settles_20 : decode cX12_settles 20 = .ok (.iload_n 1, 1) := by decide +kernel
theorem dX12_settles_21 : decode cX12_settles 21 = .ok (.iaload, 1) := by decide +kernel
theorem dX12_settles_22 : decode cX12_settles 22 = .ok (.aload_n 0, 1) := by decide +kernel
theorem dX12_settles_23 : decode cX12_settles 23 = .ok (.getfield 98, 3) := by decide +kernel
theorem dX12_settles_26 : decode cX12_settles 26 = .ok (.iload_n 1, 1) := by decide +kernel
theorem dX12_settles_27 : decode cX12_settles 27 = .ok (.iaload, 1) := by decide +kernel
theorem dX12_settles_28 : decode cX12_settles 28 = .ok (.invokevirtual 251, 3) := by decide +kernel
theorem dX12_settles_31 : decode cX12_settles 31 = .ok (.aload_n 0, 1) := by decide +kernel
theorem dX12_settles_32 : decode cX12_settles 32 = .ok (.getfield 95, 3) := by decide +kernel
theorem dX12_settles_35 : decode cX12_settles 35 = .ok (.iload_n 1, 1) := by decide +kernel
theorem dX12_settles_36 : decode cX12_settles 36 = .ok (.iconst 1, 1) := by decide +kernel
theorem dX12_settles_37 : decode cX12_settles 37 = .ok (.iastore, 1) := by decide +kernel
theorem dX12_settles_38 : decode cX12_settles 38 = .ok (.goto 45, 3) := by decide +kernel
theorem dX12_settles_41 : decode cX12_settles 41 = .ok (.aload_n 0, 1) := by decide +kernel
theorem dX12_settles_42 : decode cX12_settles 42 = .ok (.aload_n 0, 1) := by decide +kernel
theorem dX12_settles_43 : decode cX12_settles 43 = .ok (.getfield 104, 3) := by decide +kernel
theorem dX12_settles_46 : decode cX12_settles 46 = .ok (.iload_n 1, 1) := by decide +kernel
theorem dX12_settles_47 : decode cX12_settles 47 = .ok (.iaload, 1) := by decide +kernel
theorem dX12_settles_48 : decode cX12_settles 48 = .ok (.aload_n 0, 1) := by decide +kernel
theorem dX12_settles_49 : decode cX12_settles 49 = .ok (.getfield 101, 3) := by decide +kernel
theorem dX12_settles_52 : decode cX12_settles 52 = .ok (.iload_n 1, 1) := by decide +kernel
theorem dX12_settles_53 : decode cX12_settles 53 = .ok (.iaload, 1) := by decide +kernel
theorem dX12_settles_54 : decode cX12_settles 54 = .ok (.aload_n 0, 1) := by decide +kernel
theorem dX12_settles_55 : decode cX12_settles 55 = .ok (.iload_n 1, 1) := by decide +kernel
theorem dX12_settles_56 : decode cX12_settles 56 = .ok (.invokevirtual 255, 3) := by decide +kernel
theorem dX12_settles_59 : decode cX12_settles 59 = .ok (.invokevirtual 251, 3) := by decide +kernel
theorem dX12_settles_62 : decode cX12_settles 62 = .ok (.aload_n 0, 1) := by decide +kernel
theorem dX12_settles_63 : decode cX12_settles 63 = .ok (.getfield 95, 3) := by decide +kernel
theorem dX12_settles_66 : decode cX12_settles 66 = .ok (.iload_n 1, 1) := by decide +kernel
theorem dX12_settles_67 : decode cX12_settles 67 = .ok (.aload_n 0, 1) := by decide +kernel
theorem dX12_settles_68 : decode cX12_settles 68 = .ok (.getfield 107, 3) := by decide +kernel
theorem dX12_settles_71 : decode cX12_settles 71 = .ok (.iload_n 1, 1) := by decide +kernel
theorem dX12_settles_72 : decode cX12_settles 72 = .ok (.iaload, 1) := by decide +kernel
theorem dX12_settles_73 : decode cX12_settles 73 = .ok (.iconst 3, 1) := by decide +kernel
theorem dX12_settles_74 : decode cX12_settles 74 = .ok (.if_icmp .ne 7, 3) := by decide +kernel
theorem dX12_settles_77 : decode cX12_settles 77 = .ok (.iconst 4, 1) := by decide +kernel
theorem dX12_settles_78 : decode cX12_settles 78 = .ok (.goto 4, 3) := by decide +kernel
theorem dX12_settles_81 : decode cX12_settles 81 = .ok (.iconst 3, 1) := by decide +kernel
theorem dX12_settles_82 : decode cX12_settles 82 = .ok (.iastore, 1) := by decide +kernel
theorem dX12_settles_83 : decode cX12_settles 83 = .ok (.aload_n 0, 1) := by decide +kernel
theorem dX12_settles_84 : decode cX12_settles 84 = .ok (.getfield 110, 3) := by decide +kernel
theorem dX12_settles_87 : decode cX12_settles 87 = .ok (.iload_n 1, 1) := by decide +kernel
theorem dX12_settles_88 : decode cX12_settles 88 = .ok (.aload_n 0, 1) := by decide +kernel
theorem dX12_settles_89 : decode cX12_settles 89 = .ok (.getfield 258, 3) := by decide +kernel
theorem dX12_settles_92 : decode cX12_settles 92 = .ok (.iastore, 1) := by decide +kernel
theorem dX12_settles_93 : decode cX12_settles 93 = .ok (.return_, 1) := by decide +kernel
theorem dX12_clear_0 : decode cX12_clear 0 = .ok (.aload_n 0, 1) := by decide +kernel
theorem dX12_clear_1 : decode cX12_clear 1 = .ok (.iconst 0, 1) := by decide +kernel
theorem dX12_clear_2 : decode cX12_clear 2 = .ok (.putfield 130, 3) := by decide +kernel
theorem dX12_clear_5 : decode cX12_clear 5 = .ok (.aload_n 0, 1) := by decide +kernel
theorem dX12_clear_6 : decode cX12_clear 6 = .ok (.dup, 1) := by decide +kernel
theorem dX12_clear_7 : decode cX12_clear 7 = .ok (.getfield 258, 3) := by decide +kernel
theorem dX12_clear_10 : decode cX12_clear 10 = .ok (.iconst 1, 1) := by decide +kernel
theorem dX12_clear_11 : decode cX12_clear 11 = .ok (.iadd, 1) := by decide +kernel
theorem dX12_clear_12 : decode cX12_clear 12 = .ok (.putfield 258, 3) := by decide +kernel
theorem dX12_clear_15 : decode cX12_clear 15 = .ok (.iconst 0, 1) := by decide +kernel
theorem dX12_clear_16 : decode cX12_clear 16 = .ok (.istore_n 1, 1) := by decide +kernel
theorem dX12_clear_17 : decode cX12_clear 17 = .ok (.iload_n 1, 1) := by decide +kernel
theorem dX12_clear_18 : decode cX12_clear 18 = .ok (.iconst 5, 1) := by decide +kernel
theorem dX12_clear_19 : decode cX12_clear 19 = .ok (.if_icmp .ge 16, 3) := by decide +kernel
theorem dX12_clear_22 : decode cX12_clear 22 = .ok (.aload_n 0, 1) := by decide +kernel
theorem dX12_clear_23 : decode cX12_clear 23 = .ok (.getfield 116, 3) := by decide +kernel
theorem dX12_clear_26 : decode cX12_clear 26 = .ok (.iload_n 1, 1) := by decide +kernel
theorem dX12_clear_27 : decode cX12_clear 27 = .ok (.lconst 0, 1) := by decide +kernel
theorem dX12_clear_28 : decode cX12_clear 28 = .ok (.lastore, 1) := by decide +kernel
theorem dX12_clear_29 : decode cX12_clear 29 = .ok (.iinc 1 1, 3) := by decide +kernel
theorem dX12_clear_32 : decode cX12_clear 32 = .ok (.goto (-15), 3) := by decide +kernel
theorem dX12_clear_35 : decode cX12_clear 35 = .ok (.iconst 0, 1) := by decide +kernel
theorem dX12_clear_36 : decode cX12_clear 36 = .ok (.istore_n 1, 1) := by decide +kernel
theorem dX12_clear_37 : decode cX12_clear 37 = .ok (.iload_n 1, 1) := by decide +kernel
theorem dX12_clear_38 : decode cX12_clear 38 = .ok (.aload_n 0, 1) := by decide +kernel
theorem dX12_clear_39 : decode cX12_clear 39 = .ok (.getfield 234, 3) := by decide +kernel
theorem dX12_clear_42 : decode cX12_clear 42 = .ok (.if_icmp .ge 61, 3) := by decide +kernel
theorem dX12_clear_45 : decode cX12_clear 45 = .ok (.aload_n 0, 1) := by decide +kernel
theorem dX12_clear_46 : decode cX12_clear 46 = .ok (.getfield 95, 3) := by decide +kernel
theorem dX12_clear_49 : decode cX12_clear 49 = .ok (.iload_n 1, 1) := by decide +kernel
theorem dX12_clear_50 : decode cX12_clear 50 = .ok (.iaload, 1) := by decide +kernel
theorem dX12_clear_51 : decode cX12_clear 51 = .ok (.ifCond .eq 13, 3) := by decide +kernel
theorem dX12_clear_54 : decode cX12_clear 54 = .ok (.aload_n 0, 1) := by decide +kernel
theorem dX12_clear_55 : decode cX12_clear 55 = .ok (.getfield 95, 3) := by decide +kernel
theorem dX12_clear_58 : decode cX12_clear 58 = .ok (.iload_n 1, 1) := by decide +kernel
theorem dX12_clear_59 : decode cX12_clear 59 = .ok (.iaload, 1) := by decide +kernel
theorem dX12_clear_60 : decode cX12_clear 60 = .ok (.iconst 2, 1) := by decide +kernel
theorem dX12_clear_61 : decode cX12_clear 61 = .ok (.if_icmp .ne 36, 3) := by decide +kernel
theorem dX12_clear_64 : decode cX12_clear 64 = .ok (.aload_n 0, 1) := by decide +kernel
theorem dX12_clear_65 : decode cX12_clear 65 = .ok (.getfield 113, 3) := by decide +kernel
theorem dX12_clear_68 : decode cX12_clear 68 = .ok (.aload_n 0, 1) := by decide +kernel
theorem dX12_clear_69 : decode cX12_clear 69 = .ok (.getfield 101, 3) := by decide +kernel
theorem dX12_clear_72 : decode cX12_clear 72 = .ok (.iload_n 1, 1) := by decide +kernel
theorem dX12_clear_73 : decode cX12_clear 73 = .ok (.iaload, 1) := by decide +kernel
theorem dX12_clear_74 : decode cX12_clear 74 = .ok (.baload, 1) := by decide +kernel
theorem dX12_clear_75 : decode cX12_clear 75 = .ok (.ifCond .ne 22, 3) := by decide +kernel
theorem dX12_clear_78 : decode cX12_clear 78 = .ok (.aload_n 0, 1) := by decide +kernel
theorem dX12_clear_79 : decode cX12_clear 79 = .ok (.getfield 113, 3) := by decide +kernel
theorem dX12_clear_82 : decode cX12_clear 82 = .ok (.aload_n 0, 1) := by decide +kernel
theorem dX12_clear_83 : decode cX12_clear 83 = .ok (.getfield 104, 3) := by decide +kernel
theorem dX12_clear_86 : decode cX12_clear 86 = .ok (.iload_n 1, 1) := by decide +kernel
theorem dX12_clear_87 : decode cX12_clear 87 = .ok (.iaload, 1) := by decide +kernel
theorem dX12_clear_88 : decode cX12_clear 88 = .ok (.baload, 1) := by decide +kernel
theorem dX12_clear_89 : decode cX12_clear 89 = .ok (.ifCond .ne 8, 3) := by decide +kernel
theorem dX12_clear_92 : decode cX12_clear 92 = .ok (.aload_n 0, 1) := by decide +kernel
theorem dX12_clear_93 : decode cX12_clear 93 = .ok (.iload_n 1, 1) := by decide +kernel
theorem dX12_clear_94 : decode cX12_clear 94 = .ok (.invokevirtual 261, 3) := by decide +kernel
theorem dX12_clear_97 : decode cX12_clear 97 = .ok (.iinc 1 1, 3) := by decide +kernel
theorem dX12_clear_100 : decode cX12_clear 100 = .ok (.goto (-63), 3) := by decide +kernel
theorem dX12_clear_103 : decode cX12_clear 103 = .ok (.lconst 0, 1) := by decide +kernel
theorem dX12_clear_104 : decode cX12_clear 104 = .ok (.lstore_n 1, 1) := by decide +kernel
theorem dX12_clear_105 : decode cX12_clear 105 = .ok (.iconst 0, 1) := by decide +kernel
theorem dX12_clear_106 : decode cX12_clear 106 = .ok (.istore_n 3, 1) := by decide +kernel
theorem dX12_clear_107 : decode cX12_clear 107 = .ok (.iload_n 3, 1) := by decide +kernel
theorem dX12_clear_108 : decode cX12_clear 108 = .ok (.iconst 5, 1) := by decide +kernel
theorem dX12_clear_109 : decode cX12_clear 109 = .ok (.if_icmp .ge 33, 3) := by decide +kernel
theorem dX12_clear_112 : decode cX12_clear 112 = .ok (.lload_n 1, 1) := by decide +kernel
theorem dX12_clear_113 : decode cX12_clear 113 = .ok (.aload_n 0, 1) := by decide +kernel
theorem dX12_clear_114 : decode cX12_clear 114 = .ok (.getfield 116, 3) := by decide +kernel
theorem dX12_clear_117 : decode cX12_clear 117 = .ok (.iload_n 3, 1) := by decide +kernel
theorem dX12_clear_118 : decode cX12_clear 118 = .ok (.laload, 1) := by decide +kernel
theorem dX12_clear_119 : decode cX12_clear 119 = .ok (.lconst 0, 1) := by decide +kernel
theorem dX12_clear_120 : decode cX12_clear 120 = .ok (.lcmp, 1) := by decide +kernel
theorem dX12_clear_121 : decode cX12_clear 121 = .ok (.ifCond .le 12, 3) := by decide +kernel
theorem dX12_clear_124 : decode cX12_clear 124 = .ok (.aload_n 0, 1) := by decide +kernel
theorem dX12_clear_125 : decode cX12_clear 125 = .ok (.getfield 116, 3) := by decide +kernel
theorem dX12_clear_128 : decode cX12_clear 128 = .ok (.iload_n 3, 1) := by decide +kernel
theorem dX12_clear_129 : decode cX12_clear 129 = .ok (.laload, 1) := by decide +kernel
theorem dX12_clear_130 : decode cX12_clear 130 = .ok (.goto 4, 3) := by decide +kernel
theorem dX12_clear_133 : decode cX12_clear 133 = .ok (.lconst 0, 1) := by decide +kernel
theorem dX12_clear_134 : decode cX12_clear 134 = .ok (.ladd, 1) := by decide +kernel
theorem dX12_clear_135 : decode cX12_clear 135 = .ok (.lstore_n 1, 1) := by decide +kernel
theorem dX12_clear_136 : decode cX12_clear 136 = .ok (.iinc 3 1, 3) := by decide +kernel
theorem dX12_clear_139 : decode cX12_clear 139 = .ok (.goto (-32), 3) := by decide +kernel
theorem dX12_clear_142 : decode cX12_clear 142 = .ok (.lload_n 1, 1) := by decide +kernel
theorem dX12_clear_143 : decode cX12_clear 143 = .ok (.lreturn, 1) := by decide +kernel
theorem dX12_isBill_0 : decode cX12_isBill 0 = .ok (.iload_n 1, 1) := by decide +kernel
theorem dX12_isBill_1 : decode cX12_isBill 1 = .ok (.iconst 0, 1) := by decide +kernel
theorem dX12_isBill_2 : decode cX12_isBill 2 = .ok (.aload_n 0, 1) := by decide +kernel
theorem dX12_isBill_3 : decode cX12_isBill 3 = .ok (.getfield 234, 3) := by decide +kernel
theorem dX12_isBill_6 : decode cX12_isBill 6 = .ok (.iconst 1, 1) := by decide +kernel
theorem dX12_isBill_7 : decode cX12_isBill 7 = .ok (.isub, 1) := by decide +kernel
theorem dX12_isBill_8 : decode cX12_isBill 8 = .ok (.invokestatic 133, 3) := by decide +kernel
theorem dX12_isBill_11 : decode cX12_isBill 11 = .ok (.ireturn, 1) := by decide +kernel
theorem dX12_reject_0 : decode cX12_reject 0 = .ok (.aload_n 0, 1) := by decide +kernel
theorem dX12_reject_1 : decode cX12_reject 1 = .ok (.iload_n 1, 1) := by decide +kernel
theorem dX12_reject_2 : decode cX12_reject 2 = .ok (.invokevirtual 265, 3) := by decide +kernel
theorem dX12_reject_5 : decode cX12_reject 5 = .ok (.istore_n 2, 1) := by decide +kernel
theorem dX12_reject_6 : decode cX12_reject 6 = .ok (.aload_n 0, 1) := by decide +kernel
theorem dX12_reject_7 : decode cX12_reject 7 = .ok (.iload_n 2, 1) := by decide +kernel
theorem dX12_reject_8 : decode cX12_reject 8 = .ok (.iload_n 2, 1) := by decide +kernel
theorem dX12_reject_9 : decode cX12_reject 9 = .ok (.ifCond .eq 48, 3) := by decide +kernel
theorem dX12_reject_12 : decode cX12_reject 12 = .ok (.aload_n 0, 1) := by decide +kernel
theorem dX12_reject_13 : decode cX12_reject 13 = .ok (.getfield 95, 3) := by decide +kernel
theorem dX12_reject_16 : decode cX12_reject 16 = .ok (.iload_n 2, 1) := by decide +kernel
theorem dX12_reject_17 : decode cX12_reject 17 = .ok (.ifCond .eq 7, 3) := by decide +kernel
theorem dX12_reject_20 : decode cX12_reject 20 = .ok (.iload_n 1, 1) := by decide +kernel
theorem dX12_reject_21 : decode cX12_reject 21 = .ok (.goto 4, 3) := by decide +kernel
theorem dX12_reject_24 : decode cX12_reject 24 = .ok (.iconst 0, 1) := by decide +kernel
theorem dX12_reject_25 : decode cX12_reject 25 = .ok (.iaload, 1) := by decide +kernel
theorem dX12_reject_26 : decode cX12_reject 26 = .ok (.iconst 1, 1) := by decide +kernel
theorem dX12_reject_27 : decode cX12_reject 27 = .ok (.if_icmp .ne 30, 3) := by decide +kernel
theorem dX12_reject_30 : decode cX12_reject 30 = .ok (.aload_n 0, 1) := by decide +kernel
theorem dX12_reject_31 : decode cX12_reject 31 = .ok (.getfield 110, 3) := by decide +kernel
theorem dX12_reject_34 : decode cX12_reject 34 = .ok (.iload_n 2, 1) := by decide +kernel
theorem dX12_reject_35 : decode cX12_reject 35 = .ok (.ifCond .eq 7, 3) := by decide +kernel
theorem dX12_reject_38 : decode cX12_reject 38 = .ok (.iload_n 1, 1) := by decide +kernel
theorem dX12_reject_39 : decode cX12_reject 39 = .ok (.goto 4, 3) := by decide +kernel
theorem dX12_reject_42 : decode cX12_reject 42 = .ok (.iconst 0, 1) := by decide +kernel
theorem dX12_reject_43 : decode cX12_reject 43 = .ok (.iaload, 1) := by decide +kernel
theorem dX12_reject_44 : decode cX12_reject 44 = .ok (.aload_n 0, 1) := by decide +kernel
theorem dX12_reject_45 : decode cX12_reject 45 = .ok (.getfield 258, 3) := by decide +kernel
theorem dX12_reject_48 : decode cX12_reject 48 = .ok (.iconst 1, 1) := by decide +kernel
theorem dX12_reject_49 : decode cX12_reject 49 = .ok (.isub, 1) := by decide +kernel
theorem dX12_reject_50 : decode cX12_reject 50 = .ok (.if_icmp .lt 7, 3) := by decide +kernel
theorem dX12_reject_53 : decode cX12_reject 53 = .ok (.iconst 1, 1) := by decide +kernel
theorem dX12_reject_54 : decode cX12_reject 54 = .ok (.goto 4, 3) := by decide +kernel
theorem dX12_reject_57 : decode cX12_reject 57 = .ok (.iconst 0, 1) := by decide +kernel
theorem dX12_reject_58 : decode cX12_reject 58 = .ok (.iconst 1, 1) := by decide +kernel
theorem dX12_reject_59 : decode cX12_reject 59 = .ok (.invokevirtual 141, 3) := by decide +kernel
theorem dX12_reject_62 : decode cX12_reject 62 = .ok (.ifCond .ne 5, 3) := by decide +kernel
theorem dX12_reject_65 : decode cX12_reject 65 = .ok (.iconst 0, 1) := by decide +kernel
theorem dX12_reject_66 : decode cX12_reject 66 = .ok (.ireturn, 1) := by decide +kernel
theorem dX12_reject_67 : decode cX12_reject 67 = .ok (.aload_n 0, 1) := by decide +kernel
theorem dX12_reject_68 : decode cX12_reject 68 = .ok (.getfield 95, 3) := by decide +kernel
theorem dX12_reject_71 : decode cX12_reject 71 = .ok (.iload_n 1, 1) := by decide +kernel
theorem dX12_reject_72 : decode cX12_reject 72 = .ok (.iconst 2, 1) := by decide +kernel
theorem dX12_reject_73 : decode cX12_reject 73 = .ok (.iastore, 1) := by decide +kernel
theorem dX12_reject_74 : decode cX12_reject 74 = .ok (.aload_n 0, 1) := by decide +kernel
theorem dX12_reject_75 : decode cX12_reject 75 = .ok (.getfield 107, 3) := by decide +kernel
theorem dX12_reject_78 : decode cX12_reject 78 = .ok (.iload_n 1, 1) := by decide +kernel
theorem dX12_reject_79 : decode cX12_reject 79 = .ok (.dup2, 1) := by decide +kernel
theorem dX12_reject_80 : decode cX12_reject 80 = .ok (.iaload, 1) := by decide +kernel
theorem dX12_reject_81 : decode cX12_reject 81 = .ok (.iconst 1, 1) := by decide +kernel
theorem dX12_reject_82 : decode cX12_reject 82 = .ok (.iadd, 1) := by decide +kernel
theorem dX12_reject_83 : decode cX12_reject 83 = .ok (.iastore, 1) := by decide +kernel
theorem dX12_reject_84 : decode cX12_reject 84 = .ok (.aload_n 0, 1) := by decide +kernel
theorem dX12_reject_85 : decode cX12_reject 85 = .ok (.getfield 107, 3) := by decide +kernel
theorem dX12_reject_88 : decode cX12_reject 88 = .ok (.iload_n 1, 1) := by decide +kernel
theorem dX12_reject_89 : decode cX12_reject 89 = .ok (.iaload, 1) := by decide +kernel
theorem dX12_reject_90 : decode cX12_reject 90 = .ok (.ireturn, 1) := by decide +kernel
theorem dX12_rebill_0 : decode cX12_rebill 0 = .ok (.aload_n 0, 1) := by decide +kernel
theorem dX12_rebill_1 : decode cX12_rebill 1 = .ok (.iload_n 1, 1) := by decide +kernel
theorem dX12_rebill_2 : decode cX12_rebill 2 = .ok (.invokevirtual 265, 3) := by decide +kernel
theorem dX12_rebill_5 : decode cX12_rebill 5 = .ok (.istore_n 2, 1) := by decide +kernel
theorem dX12_rebill_6 : decode cX12_rebill 6 = .ok (.aload_n 0, 1) := by decide +kernel
theorem dX12_rebill_7 : decode cX12_rebill 7 = .ok (.iload_n 2, 1) := by decide +kernel
theorem dX12_rebill_8 : decode cX12_rebill 8 = .ok (.iload_n 2, 1) := by decide +kernel
theorem dX12_rebill_9 : decode cX12_rebill 9 = .ok (.ifCond .eq 25, 3) := by decide +kernel
theorem dX12_rebill_12 : decode cX12_rebill 12 = .ok (.aload_n 0, 1) := by decide +kernel
theorem dX12_rebill_13 : decode cX12_rebill 13 = .ok (.getfield 95, 3) := by decide +kernel
theorem dX12_rebill_16 : decode cX12_rebill 16 = .ok (.iload_n 2, 1) := by decide +kernel
theorem dX12_rebill_17 : decode cX12_rebill 17 = .ok (.ifCond .eq 7, 3) := by decide +kernel
theorem dX12_rebill_20 : decode cX12_rebill 20 = .ok (.iload_n 1, 1) := by decide +kernel
theorem dX12_rebill_21 : decode cX12_rebill 21 = .ok (.goto 4, 3) := by decide +kernel
theorem dX12_rebill_24 : decode cX12_rebill 24 = .ok (.iconst 0, 1) := by decide +kernel
theorem dX12_rebill_25 : decode cX12_rebill 25 = .ok (.iaload, 1) := by decide +kernel
theorem dX12_rebill_26 : decode cX12_rebill 26 = .ok (.iconst 3, 1) := by decide +kernel
theorem dX12_rebill_27 : decode cX12_rebill 27 = .ok (.if_icmp .ne 7, 3) := by decide +kernel
theorem dX12_rebill_30 : decode cX12_rebill 30 = .ok (.iconst 1, 1) := by decide +kernel
theorem dX12_rebill_31 : decode cX12_rebill 31 = .ok (.goto 4, 3) := by decide +kernel
theorem dX12_rebill_34 : decode cX12_rebill 34 = .ok (.iconst 0, 1) := by decide +kernel
theorem dX12_rebill_35 : decode cX12_rebill 35 = .ok (.iconst 1, 1) := by decide +kernel
theorem dX12_rebill_36 : decode cX12_rebill 36 = .ok (.invokevirtual 141, 3) := by decide +kernel
theorem dX12_rebill_39 : decode cX12_rebill 39 = .ok (.ifCond .eq 10, 3) := by decide +kernel
theorem dX12_rebill_42 : decode cX12_rebill 42 = .ok (.aload_n 0, 1) := by decide +kernel
theorem dX12_rebill_43 : decode cX12_rebill 43 = .ok (.getfield 95, 3) := by decide +kernel
theorem dX12_rebill_46 : decode cX12_rebill 46 = .ok (.iload_n 1, 1) := by decide +kernel
theorem dX12_rebill_47 : decode cX12_rebill 47 = .ok (.iconst 0, 1) := by decide +kernel
theorem dX12_rebill_48 : decode cX12_rebill 48 = .ok (.iastore, 1) := by decide +kernel
theorem dX12_rebill_49 : decode cX12_rebill 49 = .ok (.return_, 1) := by decide +kernel
theorem dX12_undoes_0 : decode cX12_undoes 0 = .ok (.aload_n 0, 1) := by decide +kernel
theorem dX12_undoes_1 : decode cX12_undoes 1 = .ok (.getfield 95, 3) := by decide +kernel
theorem dX12_undoes_4 : decode cX12_undoes 4 = .ok (.iload_n 1, 1) := by decide +kernel
theorem dX12_undoes_5 : decode cX12_undoes 5 = .ok (.iaload, 1) := by decide +kernel
theorem dX12_undoes_6 : decode cX12_undoes 6 = .ok (.iconst 1, 1) := by decide +kernel
theorem dX12_undoes_7 : decode cX12_undoes 7 = .ok (.if_icmp .ne 35, 3) := by decide +kernel
theorem dX12_undoes_10 : decode cX12_undoes 10 = .ok (.aload_n 0, 1) := by decide +kernel
theorem dX12_undoes_11 : decode cX12_undoes 11 = .ok (.aload_n 0, 1) := by decide +kernel
theorem dX12_undoes_12 : decode cX12_undoes 12 = .ok (.getfield 104, 3) := by decide +kernel
theorem dX12_undoes_15 : decode cX12_undoes 15 = .ok (.iload_n 1, 1) := by decide +kernel
theorem dX12_undoes_16 : decode cX12_undoes 16 = .ok (.iaload, 1) := by decide +kernel
theorem dX12_undoes_17 : decode cX12_undoes 17 = .ok (.aload_n 0, 1) := by decide +kernel
theorem dX12_undoes_18 : decode cX12_undoes 18 = .ok (.getfield 101, 3) := by decide +kernel
theorem dX12_undoes_21 : decode cX12_undoes 21 = .ok (.iload_n 1, 1) := by decide +kernel
theorem dX12_undoes_22 : decode cX12_undoes 22 = .ok (.iaload, 1) := by decide +kernel
theorem dX12_undoes_23 : decode cX12_undoes 23 = .ok (.aload_n 0, 1) := by decide +kernel
theorem dX12_undoes_24 : decode cX12_undoes 24 = .ok (.getfield 98, 3) := by decide +kernel
theorem dX12_undoes_27 : decode cX12_undoes 27 = .ok (.iload_n 1, 1) := by decide +kernel
theorem dX12_undoes_28 : decode cX12_undoes 28 = .ok (.iaload, 1) := by decide +kernel
theorem dX12_undoes_29 : decode cX12_undoes 29 = .ok (.invokevirtual 251, 3) := by decide +kernel
theorem dX12_undoes_32 : decode cX12_undoes 32 = .ok (.aload_n 0, 1) := by decide +kernel
theorem dX12_undoes_33 : decode cX12_undoes 33 = .ok (.getfield 95, 3) := by decide +kernel
theorem dX12_undoes_36 : decode cX12_undoes 36 = .ok (.iload_n 1, 1) := by decide +kernel
theorem dX12_undoes_37 : decode cX12_undoes 37 = .ok (.iconst 0, 1) := by decide +kernel
theorem dX12_undoes_38 : decode cX12_undoes 38 = .ok (.iastore, 1) := by decide +kernel
theorem dX12_undoes_39 : decode cX12_undoes 39 = .ok (.goto 31, 3) := by decide +kernel
theorem dX12_undoes_42 : decode cX12_undoes 42 = .ok (.aload_n 0, 1) := by decide +kernel
theorem dX12_undoes_43 : decode cX12_undoes 43 = .ok (.aload_n 0, 1) := by decide +kernel
theorem dX12_undoes_44 : decode cX12_undoes 44 = .ok (.getfield 101, 3) := by decide +kernel
theorem dX12_undoes_47 : decode cX12_undoes 47 = .ok (.iload_n 1, 1) := by decide +kernel
theorem dX12_undoes_48 : decode cX12_undoes 48 = .ok (.iaload, 1) := by decide +kernel
theorem dX12_undoes_49 : decode cX12_undoes 49 = .ok (.aload_n 0, 1) := by decide +kernel
theorem dX12_undoes_50 : decode cX12_undoes 50 = .ok (.getfield 104, 3) := by decide +kernel
theorem dX12_undoes_53 : decode cX12_undoes 53 = .ok (.iload_n 1, 1) := by decide +kernel
theorem dX12_undoes_54 : decode cX12_undoes 54 = .ok (.iaload, 1) := by decide +kernel
theorem dX12_undoes_55 : decode cX12_undoes 55 = .ok (.aload_n 0, 1) := by decide +kernel
theorem dX12_undoes_56 : decode cX12_undoes 56 = .ok (.iload_n 1, 1) := by decide +kernel
theorem dX12_undoes_57 : decode cX12_undoes 57 = .ok (.invokevirtual 255, 3) := by decide +kernel
theorem dX12_undoes_60 : decode cX12_undoes 60 = .ok (.invokevirtual 251, 3) := by decide +kernel
theorem dX12_undoes_63 : decode cX12_undoes 63 = .ok (.aload_n 0, 1) := by decide +kernel
theorem dX12_undoes_64 : decode cX12_undoes 64 = .ok (.getfield 95, 3) := by decide +kernel
theorem dX12_undoes_67 : decode cX12_undoes 67 = .ok (.iload_n 1, 1) := by decide +kernel
theorem dX12_undoes_68 : decode cX12_undoes 68 = .ok (.iconst 2, 1) := by decide +kernel
theorem dX12_undoes_69 : decode cX12_undoes 69 = .ok (.iastore, 1) := by decide +kernel
theorem dX12_undoes_70 : decode cX12_undoes 70 = .ok (.aload_n 0, 1) := by decide +kernel
theorem dX12_undoes_71 : decode cX12_undoes 71 = .ok (.getfield 110, 3) := by decide +kernel
theorem dX12_undoes_74 : decode cX12_undoes 74 = .ok (.iload_n 1, 1) := by decide +kernel
theorem dX12_undoes_75 : decode cX12_undoes 75 = .ok (.iconst 0, 1) := by decide +kernel
theorem dX12_undoes_76 : decode cX12_undoes 76 = .ok (.iastore, 1) := by decide +kernel
theorem dX12_undoes_77 : decode cX12_undoes 77 = .ok (.return_, 1) := by decide +kernel
theorem dX12_fails_0 : decode cX12_fails 0 = .ok (.aload_n 0, 1) := by decide +kernel
theorem dX12_fails_1 : decode cX12_fails 1 = .ok (.iload_n 1, 1) := by decide +kernel
theorem dX12_fails_2 : decode cX12_fails 2 = .ok (.invokestatic 149, 3) := by decide +kernel
theorem dX12_fails_5 : decode cX12_fails 5 = .ok (.iconst 1, 1) := by decide +kernel
theorem dX12_fails_6 : decode cX12_fails 6 = .ok (.iconst 1, 1) := by decide +kernel
theorem dX12_fails_7 : decode cX12_fails 7 = .ok (.invokevirtual 141, 3) := by decide +kernel
theorem dX12_fails_10 : decode cX12_fails 10 = .ok (.ifCond .ne 5, 3) := by decide +kernel
theorem dX12_fails_13 : decode cX12_fails 13 = .ok (.iconst 0, 1) := by decide +kernel
theorem dX12_fails_14 : decode cX12_fails 14 = .ok (.ireturn, 1) := by decide +kernel
theorem dX12_fails_15 : decode cX12_fails 15 = .ok (.iconst 0, 1) := by decide +kernel
theorem dX12_fails_16 : decode cX12_fails 16 = .ok (.istore_n 3, 1) := by decide +kernel
theorem dX12_fails_17 : decode cX12_fails 17 = .ok (.iconst 0, 1) := by decide +kernel
theorem dX12_fails_18 : decode cX12_fails 18 = .ok (.istore 4, 2) := by decide +kernel
theorem dX12_fails_20 : decode cX12_fails 20 = .ok (.iload 4, 2) := by decide +kernel
theorem dX12_fails_22 : decode cX12_fails 22 = .ok (.aload_n 0, 1) := by decide +kernel
theorem dX12_fails_23 : decode cX12_fails 23 = .ok (.getfield 234, 3) := by decide +kernel
theorem dX12_fails_26 : decode cX12_fails 26 = .ok (.if_icmp .ge 107, 3) := by decide +kernel
theorem dX12_fails_29 : decode cX12_fails 29 = .ok (.iload_n 2, 1) := by decide +kernel
theorem dX12_fails_30 : decode cX12_fails 30 = .ok (.ifCond .eq 103, 3) := by decide +kernel
theorem dX12_fails_33 : decode cX12_fails 33 = .ok (.aload_n 0, 1) := by decide +kernel
theorem dX12_fails_34 : decode cX12_fails 34 = .ok (.getfield 113, 3) := by decide +kernel
theorem dX12_fails_37 : decode cX12_fails 37 = .ok (.iload_n 1, 1) := by decide +kernel
theorem dX12_fails_38 : decode cX12_fails 38 = .ok (.baload, 1) := by decide +kernel
theorem dX12_fails_39 : decode cX12_fails 39 = .ok (.ifCond .ne 94, 3) := by decide +kernel
theorem dX12_fails_42 : decode cX12_fails 42 = .ok (.aload_n 0, 1) := by decide +kernel
theorem dX12_fails_43 : decode cX12_fails 43 = .ok (.getfield 101, 3) := by decide +kernel
theorem dX12_fails_46 : decode cX12_fails 46 = .ok (.iload 4, 2) := by decide +kernel
theorem dX12_fails_48 : decode cX12_fails 48 = .ok (.iaload, 1) := by decide +kernel
theorem dX12_fails_49 : decode cX12_fails 49 = .ok (.iload_n 1, 1) := by decide +kernel
theorem dX12_fails_50 : decode cX12_fails 50 = .ok (.if_icmp .eq 14, 3) := by decide +kernel
theorem dX12_fails_53 : decode cX12_fails 53 = .ok (.aload_n 0, 1) := by decide +kernel
theorem dX12_fails_54 : decode cX12_fails 54 = .ok (.getfield 104, 3) := by decide +kernel
theorem dX12_fails_57 : decode cX12_fails 57 = .ok (.iload 4, 2) := by decide +kernel
theorem dX12_fails_59 : decode cX12_fails 59 = .ok (.iaload, 1) := by decide +kernel
theorem dX12_fails_60 : decode cX12_fails 60 = .ok (.iload_n 1, 1) := by decide +kernel
theorem dX12_fails_61 : decode cX12_fails 61 = .ok (.if_icmp .ne 7, 3) := by decide +kernel
theorem dX12_fails_64 : decode cX12_fails 64 = .ok (.iconst 1, 1) := by decide +kernel
theorem dX12_fails_65 : decode cX12_fails 65 = .ok (.goto 4, 3) := by decide +kernel
theorem dX12_fails_68 : decode cX12_fails 68 = .ok (.iconst 0, 1) := by decide +kernel
theorem dX12_fails_69 : decode cX12_fails 69 = .ok (.istore 5, 2) := by decide +kernel
theorem dX12_fails_71 : decode cX12_fails 71 = .ok (.iload 5, 2) := by decide +kernel
theorem dX12_fails_73 : decode cX12_fails 73 = .ok (.ifCond .eq 54, 3) := by decide +kernel
theorem dX12_fails_76 : decode cX12_fails 76 = .ok (.aload_n 0, 1) := by decide +kernel
theorem dX12_fails_77 : decode cX12_fails 77 = .ok (.getfield 110, 3) := by decide +kernel
theorem dX12_fails_80 : decode cX12_fails 80 = .ok (.iload 4, 2) := by decide +kernel
theorem dX12_fails_82 : decode cX12_fails 82 = .ok (.iaload, 1) := by decide +kernel
theorem dX12_fails_83 : decode cX12_fails 83 = .ok (.aload_n 0, 1) := by decide +kernel
theorem dX12_fails_84 : decode cX12_fails 84 = .ok (.getfield 258, 3) := by decide +kernel
theorem dX12_fails_87 : decode cX12_fails 87 = .ok (.if_icmp .ne 40, 3) := by decide +kernel
theorem dX12_fails_90 : decode cX12_fails 90 = .ok (.aload_n 0, 1) := by decide +kernel
theorem dX12_fails_91 : decode cX12_fails 91 = .ok (.getfield 258, 3) := by decide +kernel
theorem dX12_fails_94 : decode cX12_fails 94 = .ok (.ifCond .le 33, 3) := by decide +kernel
theorem dX12_fails_97 : decode cX12_fails 97 = .ok (.aload_n 0, 1) := by decide +kernel
theorem dX12_fails_98 : decode cX12_fails 98 = .ok (.getfield 95, 3) := by decide +kernel
theorem dX12_fails_101 : decode cX12_fails 101 = .ok (.iload 4, 2) := by decide +kernel
theorem dX12_fails_103 : decode cX12_fails 103 = .ok (.iaload, 1) := by decide +kernel
theorem dX12_fails_104 : decode cX12_fails 104 = .ok (.ifCond .eq 23, 3) := by decide +kernel
theorem dX12_fails_107 : decode cX12_fails 107 = .ok (.aload_n 0, 1) := by decide +kernel
theorem dX12_fails_108 : decode cX12_fails 108 = .ok (.getfield 95, 3) := by decide +kernel
theorem dX12_fails_111 : decode cX12_fails 111 = .ok (.iload 4, 2) := by decide +kernel
theorem dX12_fails_113 : decode cX12_fails 113 = .ok (.iaload, 1) := by decide +kernel
theorem dX12_fails_114 : decode cX12_fails 114 = .ok (.iconst 2, 1) := by decide +kernel
theorem dX12_fails_115 : decode cX12_fails 115 = .ok (.if_icmp .eq 12, 3) := by decide +kernel
theorem dX12_fails_118 : decode cX12_fails 118 = .ok (.aload_n 0, 1) := by decide +kernel
theorem dX12_fails_119 : decode cX12_fails 119 = .ok (.iload 4, 2) := by decide +kernel
theorem dX12_fails_121 : decode cX12_fails 121 = .ok (.invokevirtual 268, 3) := by decide +kernel
theorem dX12_fails_124 : decode cX12_fails 124 = .ok (.iinc 3 1, 3) := by decide +kernel
theorem dX12_fails_127 : decode cX12_fails 127 = .ok (.iinc 4 1, 3) := by decide +kernel
theorem dX12_fails_130 : decode cX12_fails 130 = .ok (.goto (-110), 3) := by decide +kernel
theorem dX12_fails_133 : decode cX12_fails 133 = .ok (.aload_n 0, 1) := by decide +kernel
theorem dX12_fails_134 : decode cX12_fails 134 = .ok (.getfield 113, 3) := by decide +kernel
theorem dX12_fails_137 : decode cX12_fails 137 = .ok (.iload_n 1, 1) := by decide +kernel
theorem dX12_fails_138 : decode cX12_fails 138 = .ok (.iload_n 2, 1) := by decide +kernel
theorem dX12_fails_139 : decode cX12_fails 139 = .ok (.bastore, 1) := by decide +kernel
theorem dX12_fails_140 : decode cX12_fails 140 = .ok (.iload_n 3, 1) := by decide +kernel
theorem dX12_fails_141 : decode cX12_fails 141 = .ok (.ireturn, 1) := by decide +kernel
theorem dX12_ofTicket_0 : decode cX12_ofTicket 0 = .ok (.aload_n 0, 1) := by decide +kernel
theorem dX12_ofTicket_1 : decode cX12_ofTicket 1 = .ok (.aload_n 0, 1) := by decide +kernel
theorem dX12_ofTicket_2 : decode cX12_ofTicket 2 = .ok (.iload_n 1, 1) := by decide +kernel
theorem dX12_ofTicket_3 : decode cX12_ofTicket 3 = .ok (.invokevirtual 227, 3) := by decide +kernel
theorem dX12_ofTicket_6 : decode cX12_ofTicket 6 = .ok (.iload_n 2, 1) := by decide +kernel
theorem dX12_ofTicket_7 : decode cX12_ofTicket 7 = .ok (.iconst 0, 1) := by decide +kernel
theorem dX12_ofTicket_8 : decode cX12_ofTicket 8 = .ok (.iconst 5, 1) := by decide +kernel
theorem dX12_ofTicket_9 : decode cX12_ofTicket 9 = .ok (.invokestatic 133, 3) := by decide +kernel
theorem dX12_ofTicket_12 : decode cX12_ofTicket 12 = .ok (.iconst 1, 1) := by decide +kernel
theorem dX12_ofTicket_13 : decode cX12_ofTicket 13 = .ok (.invokevirtual 141, 3) := by decide +kernel
theorem dX12_ofTicket_16 : decode cX12_ofTicket 16 = .ok (.ifCond .ne 5, 3) := by decide +kernel
theorem dX12_ofTicket_19 : decode cX12_ofTicket 19 = .ok (.iconst 0, 1) := by decide +kernel
theorem dX12_ofTicket_20 : decode cX12_ofTicket 20 = .ok (.ireturn, 1) := by decide +kernel
theorem dX12_ofTicket_21 : decode cX12_ofTicket 21 = .ok (.iload_n 2, 1) := by decide +kernel
theorem dX12_ofTicket_22 : decode cX12_ofTicket 22 = .ok (.ifCond .ne 12, 3) := by decide +kernel
theorem dX12_ofTicket_25 : decode cX12_ofTicket 25 = .ok (.aload_n 0, 1) := by decide +kernel
theorem dX12_ofTicket_26 : decode cX12_ofTicket 26 = .ok (.getfield 59, 3) := by decide +kernel
theorem dX12_ofTicket_29 : decode cX12_ofTicket 29 = .ok (.iload_n 1, 1) := by decide +kernel
theorem dX12_ofTicket_30 : decode cX12_ofTicket 30 = .ok (.iaload, 1) := by decide +kernel
theorem dX12_ofTicket_31 : decode cX12_ofTicket 31 = .ok (.goto 64, 3) := by decide +kernel
theorem dX12_ofTicket_34 : decode cX12_ofTicket 34 = .ok (.iload_n 2, 1) := by decide +kernel
theorem dX12_ofTicket_35 : decode cX12_ofTicket 35 = .ok (.iconst 1, 1) := by decide +kernel
theorem dX12_ofTicket_36 : decode cX12_ofTicket 36 = .ok (.if_icmp .ne 11, 3) := by decide +kernel
theorem dX12_ofTicket_39 : decode cX12_ofTicket 39 = .ok (.aload_n 0, 1) := by decide +kernel
theorem dX12_ofTicket_40 : decode cX12_ofTicket 40 = .ok (.iload_n 1, 1) := by decide +kernel
theorem dX12_ofTicket_41 : decode cX12_ofTicket 41 = .ok (.invokevirtual 221, 3) := by decide +kernel
theorem dX12_ofTicket_44 : decode cX12_ofTicket 44 = .ok (.goto 51, 3) := by decide +kernel
theorem dX12_ofTicket_47 : decode cX12_ofTicket 47 = .ok (.iload_n 2, 1) := by decide +kernel
theorem dX12_ofTicket_48 : decode cX12_ofTicket 48 = .ok (.iconst 2, 1) := by decide +kernel
theorem dX12_ofTicket_49 : decode cX12_ofTicket 49 = .ok (.if_icmp .ne 12, 3) := by decide +kernel
theorem dX12_ofTicket_52 : decode cX12_ofTicket 52 = .ok (.aload_n 0, 1) := by decide +kernel
theorem dX12_ofTicket_53 : decode cX12_ofTicket 53 = .ok (.getfield 62, 3) := by decide +kernel
theorem dX12_ofTicket_56 : decode cX12_ofTicket 56 = .ok (.iload_n 1, 1) := by decide +kernel
theorem dX12_ofTicket_57 : decode cX12_ofTicket 57 = .ok (.iaload, 1) := by decide +kernel
theorem dX12_ofTicket_58 : decode cX12_ofTicket 58 = .ok (.goto 37, 3) := by decide +kernel
theorem dX12_ofTicket_61 : decode cX12_ofTicket 61 = .ok (.iload_n 2, 1) := by decide +kernel
theorem dX12_ofTicket_62 : decode cX12_ofTicket 62 = .ok (.iconst 3, 1) := by decide +kernel
theorem dX12_ofTicket_63 : decode cX12_ofTicket 63 = .ok (.if_icmp .ne 12, 3) := by decide +kernel
theorem dX12_ofTicket_66 : decode cX12_ofTicket 66 = .ok (.aload_n 0, 1) := by decide +kernel
theorem dX12_ofTicket_67 : decode cX12_ofTicket 67 = .ok (.getfield 65, 3) := by decide +kernel
theorem dX12_ofTicket_70 : decode cX12_ofTicket 70 = .ok (.iload_n 1, 1) := by decide +kernel
theorem dX12_ofTicket_71 : decode cX12_ofTicket 71 = .ok (.iaload, 1) := by decide +kernel
theorem dX12_ofTicket_72 : decode cX12_ofTicket 72 = .ok (.goto 23, 3) := by decide +kernel
theorem dX12_ofTicket_75 : decode cX12_ofTicket 75 = .ok (.iload_n 2, 1) := by decide +kernel
theorem dX12_ofTicket_76 : decode cX12_ofTicket 76 = .ok (.iconst 4, 1) := by decide +kernel
theorem dX12_ofTicket_77 : decode cX12_ofTicket 77 = .ok (.if_icmp .ne 12, 3) := by decide +kernel
theorem dX12_ofTicket_80 : decode cX12_ofTicket 80 = .ok (.aload_n 0, 1) := by decide +kernel
theorem dX12_ofTicket_81 : decode cX12_ofTicket 81 = .ok (.getfield 68, 3) := by decide +kernel
theorem dX12_ofTicket_84 : decode cX12_ofTicket 84 = .ok (.iload_n 1, 1) := by decide +kernel
theorem dX12_ofTicket_85 : decode cX12_ofTicket 85 = .ok (.iaload, 1) := by decide +kernel
theorem dX12_ofTicket_86 : decode cX12_ofTicket 86 = .ok (.goto 9, 3) := by decide +kernel
theorem dX12_ofTicket_89 : decode cX12_ofTicket 89 = .ok (.aload_n 0, 1) := by decide +kernel
theorem dX12_ofTicket_90 : decode cX12_ofTicket 90 = .ok (.getfield 71, 3) := by decide +kernel
theorem dX12_ofTicket_93 : decode cX12_ofTicket 93 = .ok (.iload_n 1, 1) := by decide +kernel
theorem dX12_ofTicket_94 : decode cX12_ofTicket 94 = .ok (.iaload, 1) := by decide +kernel
theorem dX12_ofTicket_95 : decode cX12_ofTicket 95 = .ok (.ireturn, 1) := by decide +kernel
theorem dX12_ofCoupon_0 : decode cX12_ofCoupon 0 = .ok (.aload_n 0, 1) := by decide +kernel
theorem dX12_ofCoupon_1 : decode cX12_ofCoupon 1 = .ok (.aload_n 0, 1) := by decide +kernel
theorem dX12_ofCoupon_2 : decode cX12_ofCoupon 2 = .ok (.iload_n 1, 1) := by decide +kernel
theorem dX12_ofCoupon_3 : decode cX12_ofCoupon 3 = .ok (.iload_n 2, 1) := by decide +kernel
theorem dX12_ofCoupon_4 : decode cX12_ofCoupon 4 = .ok (.invokevirtual 230, 3) := by decide +kernel
theorem dX12_ofCoupon_7 : decode cX12_ofCoupon 7 = .ok (.iload_n 3, 1) := by decide +kernel
theorem dX12_ofCoupon_8 : decode cX12_ofCoupon 8 = .ok (.iconst 0, 1) := by decide +kernel
theorem dX12_ofCoupon_9 : decode cX12_ofCoupon 9 = .ok (.iconst 5, 1) := by decide +kernel
theorem dX12_ofCoupon_10 : decode cX12_ofCoupon 10 = .ok (.invokestatic 133, 3) := by decide +kernel
theorem dX12_ofCoupon_13 : decode cX12_ofCoupon 13 = .ok (.iconst 1, 1) := by decide +kernel
theorem dX12_ofCoupon_14 : decode cX12_ofCoupon 14 = .ok (.invokevirtual 141, 3) := by decide +kernel
theorem dX12_ofCoupon_17 : decode cX12_ofCoupon 17 = .ok (.ifCond .ne 5, 3) := by decide +kernel
theorem dX12_ofCoupon_20 : decode cX12_ofCoupon 20 = .ok (.iconst 0, 1) := by decide +kernel
theorem dX12_ofCoupon_21 : decode cX12_ofCoupon 21 = .ok (.ireturn, 1) := by decide +kernel
theorem dX12_ofCoupon_22 : decode cX12_ofCoupon 22 = .ok (.bipush 8, 2) := by decide +kernel
theorem dX12_ofCoupon_24 : decode cX12_ofCoupon 24 = .ok (.iload_n 1, 1) := by decide +kernel
theorem dX12_ofCoupon_25 : decode cX12_ofCoupon 25 = .ok (.imul, 1) := by decide +kernel
theorem dX12_ofCoupon_26 : decode cX12_ofCoupon 26 = .ok (.iload_n 2, 1) := by decide +kernel
theorem dX12_ofCoupon_27 : decode cX12_ofCoupon 27 = .ok (.iadd, 1) := by decide +kernel
theorem dX12_ofCoupon_28 : decode cX12_ofCoupon 28 = .ok (.istore 4, 2) := by decide +kernel
theorem dX12_ofCoupon_30 : decode cX12_ofCoupon 30 = .ok (.iload_n 3, 1) := by decide +kernel
theorem dX12_ofCoupon_31 : decode cX12_ofCoupon 31 = .ok (.ifCond .ne 13, 3) := by decide +kernel
theorem dX12_ofCoupon_34 : decode cX12_ofCoupon 34 = .ok (.aload_n 0, 1) := by decide +kernel
theorem dX12_ofCoupon_35 : decode cX12_ofCoupon 35 = .ok (.getfield 74, 3) := by decide +kernel
theorem dX12_ofCoupon_38 : decode cX12_ofCoupon 38 = .ok (.iload 4, 2) := by decide +kernel
theorem dX12_ofCoupon_40 : decode cX12_ofCoupon 40 = .ok (.iaload, 1) := by decide +kernel
theorem dX12_ofCoupon_41 : decode cX12_ofCoupon 41 = .ok (.goto 70, 3) := by decide +kernel
theorem dX12_ofCoupon_44 : decode cX12_ofCoupon 44 = .ok (.iload_n 3, 1) := by decide +kernel
theorem dX12_ofCoupon_45 : decode cX12_ofCoupon 45 = .ok (.iconst 1, 1) := by decide +kernel
theorem dX12_ofCoupon_46 : decode cX12_ofCoupon 46 = .ok (.if_icmp .ne 13, 3) := by decide +kernel
theorem dX12_ofCoupon_49 : decode cX12_ofCoupon 49 = .ok (.aload_n 0, 1) := by decide +kernel
theorem dX12_ofCoupon_50 : decode cX12_ofCoupon 50 = .ok (.getfield 77, 3) := by decide +kernel
theorem dX12_ofCoupon_53 : decode cX12_ofCoupon 53 = .ok (.iload 4, 2) := by decide +kernel
theorem dX12_ofCoupon_55 : decode cX12_ofCoupon 55 = .ok (.iaload, 1) := by decide +kernel
theorem dX12_ofCoupon_56 : decode cX12_ofCoupon 56 = .ok (.goto 55, 3) := by decide +kernel
theorem dX12_ofCoupon_59 : decode cX12_ofCoupon 59 = .ok (.iload_n 3, 1) := by decide +kernel
theorem dX12_ofCoupon_60 : decode cX12_ofCoupon 60 = .ok (.iconst 2, 1) := by decide +kernel
theorem dX12_ofCoupon_61 : decode cX12_ofCoupon 61 = .ok (.if_icmp .ne 13, 3) := by decide +kernel
theorem dX12_ofCoupon_64 : decode cX12_ofCoupon 64 = .ok (.aload_n 0, 1) := by decide +kernel
theorem dX12_ofCoupon_65 : decode cX12_ofCoupon 65 = .ok (.getfield 80, 3) := by decide +kernel
theorem dX12_ofCoupon_68 : decode cX12_ofCoupon 68 = .ok (.iload 4, 2) := by decide +kernel
theorem dX12_ofCoupon_70 : decode cX12_ofCoupon 70 = .ok (.iaload, 1) := by decide +kernel
theorem dX12_ofCoupon_71 : decode cX12_ofCoupon 71 = .ok (.goto 40, 3) := by decide +kernel
theorem dX12_ofCoupon_74 : decode cX12_ofCoupon 74 = .ok (.iload_n 3, 1) := by decide +kernel
theorem dX12_ofCoupon_75 : decode cX12_ofCoupon 75 = .ok (.iconst 3, 1) := by decide +kernel
theorem dX12_ofCoupon_76 : decode cX12_ofCoupon 76 = .ok (.if_icmp .ne 13, 3) := by decide +kernel
theorem dX12_ofCoupon_79 : decode cX12_ofCoupon 79 = .ok (.aload_n 0, 1) := by decide +kernel
theorem dX12_ofCoupon_80 : decode cX12_ofCoupon 80 = .ok (.getfield 83, 3) := by decide +kernel
theorem dX12_ofCoupon_83 : decode cX12_ofCoupon 83 = .ok (.iload 4, 2) := by decide +kernel
theorem dX12_ofCoupon_85 : decode cX12_ofCoupon 85 = .ok (.iaload, 1) := by decide +kernel
theorem dX12_ofCoupon_86 : decode cX12_ofCoupon 86 = .ok (.goto 25, 3) := by decide +kernel
theorem dX12_ofCoupon_89 : decode cX12_ofCoupon 89 = .ok (.iload_n 3, 1) := by decide +kernel
theorem dX12_ofCoupon_90 : decode cX12_ofCoupon 90 = .ok (.iconst 4, 1) := by decide +kernel
theorem dX12_ofCoupon_91 : decode cX12_ofCoupon 91 = .ok (.if_icmp .ne 13, 3) := by decide +kernel
theorem dX12_ofCoupon_94 : decode cX12_ofCoupon 94 = .ok (.aload_n 0, 1) := by decide +kernel
theorem dX12_ofCoupon_95 : decode cX12_ofCoupon 95 = .ok (.getfield 86, 3) := by decide +kernel
theorem dX12_ofCoupon_98 : decode cX12_ofCoupon 98 = .ok (.iload 4, 2) := by decide +kernel
theorem dX12_ofCoupon_100 : decode cX12_ofCoupon 100 = .ok (.iaload, 1) := by decide +kernel
theorem dX12_ofCoupon_101 : decode cX12_ofCoupon 101 = .ok (.goto 10, 3) := by decide +kernel
theorem dX12_ofCoupon_104 : decode cX12_ofCoupon 104 = .ok (.aload_n 0, 1) := by decide +kernel
theorem dX12_ofCoupon_105 : decode cX12_ofCoupon 105 = .ok (.getfield 92, 3) := by decide +kernel
theorem dX12_ofCoupon_108 : decode cX12_ofCoupon 108 = .ok (.iload 4, 2) := by decide +kernel
theorem dX12_ofCoupon_110 : decode cX12_ofCoupon 110 = .ok (.iaload, 1) := by decide +kernel
theorem dX12_ofCoupon_111 : decode cX12_ofCoupon 111 = .ok (.ireturn, 1) := by decide +kernel
theorem dX12_ofBill_0 : decode cX12_ofBill 0 = .ok (.aload_n 0, 1) := by decide +kernel
theorem dX12_ofBill_1 : decode cX12_ofBill 1 = .ok (.aload_n 0, 1) := by decide +kernel
theorem dX12_ofBill_2 : decode cX12_ofBill 2 = .ok (.iload_n 1, 1) := by decide +kernel
theorem dX12_ofBill_3 : decode cX12_ofBill 3 = .ok (.invokevirtual 265, 3) := by decide +kernel
theorem dX12_ofBill_6 : decode cX12_ofBill 6 = .ok (.iload_n 2, 1) := by decide +kernel
theorem dX12_ofBill_7 : decode cX12_ofBill 7 = .ok (.iconst 0, 1) := by decide +kernel
theorem dX12_ofBill_8 : decode cX12_ofBill 8 = .ok (.iconst 5, 1) := by decide +kernel
theorem dX12_ofBill_9 : decode cX12_ofBill 9 = .ok (.invokestatic 133, 3) := by decide +kernel
theorem dX12_ofBill_12 : decode cX12_ofBill 12 = .ok (.iconst 1, 1) := by decide +kernel
theorem dX12_ofBill_13 : decode cX12_ofBill 13 = .ok (.invokevirtual 141, 3) := by decide +kernel
theorem dX12_ofBill_16 : decode cX12_ofBill 16 = .ok (.ifCond .ne 5, 3) := by decide +kernel
theorem dX12_ofBill_19 : decode cX12_ofBill 19 = .ok (.iconst 0, 1) := by decide +kernel
theorem dX12_ofBill_20 : decode cX12_ofBill 20 = .ok (.ireturn, 1) := by decide +kernel
theorem dX12_ofBill_21 : decode cX12_ofBill 21 = .ok (.iload_n 2, 1) := by decide +kernel
theorem dX12_ofBill_22 : decode cX12_ofBill 22 = .ok (.ifCond .ne 12, 3) := by decide +kernel
theorem dX12_ofBill_25 : decode cX12_ofBill 25 = .ok (.aload_n 0, 1) := by decide +kernel
theorem dX12_ofBill_26 : decode cX12_ofBill 26 = .ok (.getfield 95, 3) := by decide +kernel
theorem dX12_ofBill_29 : decode cX12_ofBill 29 = .ok (.iload_n 1, 1) := by decide +kernel
theorem dX12_ofBill_30 : decode cX12_ofBill 30 = .ok (.iaload, 1) := by decide +kernel
theorem dX12_ofBill_31 : decode cX12_ofBill 31 = .ok (.goto 65, 3) := by decide +kernel
theorem dX12_ofBill_34 : decode cX12_ofBill 34 = .ok (.iload_n 2, 1) := by decide +kernel
theorem dX12_ofBill_35 : decode cX12_ofBill 35 = .ok (.iconst 1, 1) := by decide +kernel
theorem dX12_ofBill_36 : decode cX12_ofBill 36 = .ok (.if_icmp .ne 12, 3) := by decide +kernel
theorem dX12_ofBill_39 : decode cX12_ofBill 39 = .ok (.aload_n 0, 1) := by decide +kernel
theorem dX12_ofBill_40 : decode cX12_ofBill 40 = .ok (.getfield 98, 3) := by decide +kernel
theorem dX12_ofBill_43 : decode cX12_ofBill 43 = .ok (.iload_n 1, 1) := by decide +kernel
theorem dX12_ofBill_44 : decode cX12_ofBill 44 = .ok (.iaload, 1) := by decide +kernel
theorem dX12_ofBill_45 : decode cX12_ofBill 45 = .ok (.goto 51, 3) := by decide +kernel
theorem dX12_ofBill_48 : decode cX12_ofBill 48 = .ok (.iload_n 2, 1) := by decide +kernel
theorem dX12_ofBill_49 : decode cX12_ofBill 49 = .ok (.iconst 2, 1) := by decide +kernel
theorem dX12_ofBill_50 : decode cX12_ofBill 50 = .ok (.if_icmp .ne 12, 3) := by decide +kernel
theorem dX12_ofBill_53 : decode cX12_ofBill 53 = .ok (.aload_n 0, 1) := by decide +kernel
theorem dX12_ofBill_54 : decode cX12_ofBill 54 = .ok (.getfield 101, 3) := by decide +kernel
theorem dX12_ofBill_57 : decode cX12_ofBill 57 = .ok (.iload_n 1, 1) := by decide +kernel
theorem dX12_ofBill_58 : decode cX12_ofBill 58 = .ok (.iaload, 1) := by decide +kernel
theorem dX12_ofBill_59 : decode cX12_ofBill 59 = .ok (.goto 37, 3) := by decide +kernel
theorem dX12_ofBill_62 : decode cX12_ofBill 62 = .ok (.iload_n 2, 1) := by decide +kernel
theorem dX12_ofBill_63 : decode cX12_ofBill 63 = .ok (.iconst 3, 1) := by decide +kernel
theorem dX12_ofBill_64 : decode cX12_ofBill 64 = .ok (.if_icmp .ne 12, 3) := by decide +kernel
theorem dX12_ofBill_67 : decode cX12_ofBill 67 = .ok (.aload_n 0, 1) := by decide +kernel
theorem dX12_ofBill_68 : decode cX12_ofBill 68 = .ok (.getfield 104, 3) := by decide +kernel
theorem dX12_ofBill_71 : decode cX12_ofBill 71 = .ok (.iload_n 1, 1) := by decide +kernel
theorem dX12_ofBill_72 : decode cX12_ofBill 72 = .ok (.iaload, 1) := by decide +kernel
theorem dX12_ofBill_73 : decode cX12_ofBill 73 = .ok (.goto 23, 3) := by decide +kernel
theorem dX12_ofBill_76 : decode cX12_ofBill 76 = .ok (.iload_n 2, 1) := by decide +kernel
theorem dX12_ofBill_77 : decode cX12_ofBill 77 = .ok (.iconst 4, 1) := by decide +kernel
theorem dX12_ofBill_78 : decode cX12_ofBill 78 = .ok (.if_icmp .ne 12, 3) := by decide +kernel
theorem dX12_ofBill_81 : decode cX12_ofBill 81 = .ok (.aload_n 0, 1) := by decide +kernel
theorem dX12_ofBill_82 : decode cX12_ofBill 82 = .ok (.getfield 107, 3) := by decide +kernel
theorem dX12_ofBill_85 : decode cX12_ofBill 85 = .ok (.iload_n 1, 1) := by decide +kernel
theorem dX12_ofBill_86 : decode cX12_ofBill 86 = .ok (.iaload, 1) := by decide +kernel
theorem dX12_ofBill_87 : decode cX12_ofBill 87 = .ok (.goto 9, 3) := by decide +kernel
theorem dX12_ofBill_90 : decode cX12_ofBill 90 = .ok (.aload_n 0, 1) := by decide +kernel
theorem dX12_ofBill_91 : decode cX12_ofBill 91 = .ok (.getfield 110, 3) := by decide +kernel
theorem dX12_ofBill_94 : decode cX12_ofBill 94 = .ok (.iload_n 1, 1) := by decide +kernel
theorem dX12_ofBill_95 : decode cX12_ofBill 95 = .ok (.iaload, 1) := by decide +kernel
theorem dX12_ofBill_96 : decode cX12_ofBill 96 = .ok (.ireturn, 1) := by decide +kernel
theorem dX12_cash_0 : decode cX12_cash 0 = .ok (.aload_n 0, 1) := by decide +kernel
theorem dX12_cash_1 : decode cX12_cash 1 = .ok (.iload_n 1, 1) := by decide +kernel
theorem dX12_cash_2 : decode cX12_cash 2 = .ok (.invokestatic 149, 3) := by decide +kernel
theorem dX12_cash_5 : decode cX12_cash 5 = .ok (.iconst 1, 1) := by decide +kernel
theorem dX12_cash_6 : decode cX12_cash 6 = .ok (.iconst 1, 1) := by decide +kernel
theorem dX12_cash_7 : decode cX12_cash 7 = .ok (.invokevirtual 141, 3) := by decide +kernel
theorem dX12_cash_10 : decode cX12_cash 10 = .ok (.ifCond .eq 12, 3) := by decide +kernel
theorem dX12_cash_13 : decode cX12_cash 13 = .ok (.aload_n 0, 1) := by decide +kernel
theorem dX12_cash_14 : decode cX12_cash 14 = .ok (.getfield 120, 3) := by decide +kernel
theorem dX12_cash_17 : decode cX12_cash 17 = .ok (.iload_n 1, 1) := by decide +kernel
theorem dX12_cash_18 : decode cX12_cash 18 = .ok (.laload, 1) := by decide +kernel
theorem dX12_cash_19 : decode cX12_cash 19 = .ok (.goto 4, 3) := by decide +kernel
theorem dX12_cash_22 : decode cX12_cash 22 = .ok (.lconst 0, 1) := by decide +kernel
theorem dX12_cash_23 : decode cX12_cash 23 = .ok (.lreturn, 1) := by decide +kernel
theorem dX12_cashAnew_0 : decode cX12_cashAnew 0 = .ok (.aload_n 0, 1) := by decide +kernel
theorem dX12_cashAnew_1 : decode cX12_cashAnew 1 = .ok (.iload_n 1, 1) := by decide +kernel
theorem dX12_cashAnew_2 : decode cX12_cashAnew 2 = .ok (.invokevirtual 271, 3) := by decide +kernel
theorem dX12_cashAnew_5 : decode cX12_cashAnew 5 = .ok (.lreturn, 1) := by decide +kernel
theorem dX12_state_0 : decode cX12_state 0 = .ok (.aload_n 0, 1) := by decide +kernel
theorem dX12_state_1 : decode cX12_state 1 = .ok (.iload_n 1, 1) := by decide +kernel
theorem dX12_state_2 : decode cX12_state 2 = .ok (.invokestatic 137, 3) := by decide +kernel
theorem dX12_state_5 : decode cX12_state 5 = .ok (.iconst 1, 1) := by decide +kernel
theorem dX12_state_6 : decode cX12_state 6 = .ok (.iconst 1, 1) := by decide +kernel
theorem dX12_state_7 : decode cX12_state 7 = .ok (.invokevirtual 141, 3) := by decide +kernel
theorem dX12_state_10 : decode cX12_state 10 = .ok (.ifCond .eq 12, 3) := by decide +kernel
theorem dX12_state_13 : decode cX12_state 13 = .ok (.aload_n 0, 1) := by decide +kernel
theorem dX12_state_14 : decode cX12_state 14 = .ok (.getfield 123, 3) := by decide +kernel
theorem dX12_state_17 : decode cX12_state 17 = .ok (.iload_n 1, 1) := by decide +kernel
theorem dX12_state_18 : decode cX12_state 18 = .ok (.laload, 1) := by decide +kernel
theorem dX12_state_19 : decode cX12_state 19 = .ok (.goto 4, 3) := by decide +kernel
theorem dX12_state_22 : decode cX12_state 22 = .ok (.lconst 0, 1) := by decide +kernel
theorem dX12_state_23 : decode cX12_state 23 = .ok (.lreturn, 1) := by decide +kernel
theorem dX12_paid_0 : decode cX12_paid 0 = .ok (.aload_n 0, 1) := by decide +kernel
theorem dX12_paid_1 : decode cX12_paid 1 = .ok (.iconst 0, 1) := by decide +kernel
theorem dX12_paid_2 : decode cX12_paid 2 = .ok (.putfield 130, 3) := by decide +kernel
theorem dX12_paid_5 : decode cX12_paid 5 = .ok (.aload_n 0, 1) := by decide +kernel
theorem dX12_paid_6 : decode cX12_paid 6 = .ok (.getfield 206, 3) := by decide +kernel
theorem dX12_paid_9 : decode cX12_paid 9 = .ok (.lreturn, 1) := by decide +kernel
theorem dX12_defaults_0 : decode cX12_defaults 0 = .ok (.iconst 0, 1) := by decide +kernel
theorem dX12_defaults_1 : decode cX12_defaults 1 = .ok (.istore_n 1, 1) := by decide +kernel
theorem dX12_defaults_2 : decode cX12_defaults 2 = .ok (.iconst 0, 1) := by decide +kernel
theorem dX12_defaults_3 : decode cX12_defaults 3 = .ok (.istore_n 2, 1) := by decide +kernel
theorem dX12_defaults_4 : decode cX12_defaults 4 = .ok (.iload_n 2, 1) := by decide +kernel
theorem dX12_defaults_5 : decode cX12_defaults 5 = .ok (.iconst 5, 1) := by decide +kernel
theorem dX12_defaults_6 : decode cX12_defaults 6 = .ok (.if_icmp .ge 28, 3) := by decide +kernel
theorem dX12_defaults_9 : decode cX12_defaults 9 = .ok (.iload_n 1, 1) := by decide +kernel
theorem dX12_defaults_10 : decode cX12_defaults 10 = .ok (.aload_n 0, 1) := by decide +kernel
theorem dX12_defaults_11 : decode cX12_defaults 11 = .ok (.getfield 113, 3) := by decide +kernel
theorem dX12_defaults_14 : decode cX12_defaults 14 = .ok (.iload_n 2, 1) := by decide +kernel
theorem dX12_defaults_15 : decode cX12_defaults 15 = .ok (.baload, 1) := by decide +kernel
theorem dX12_defaults_16 : decode cX12_defaults 16 = .ok (.ifCond .eq 9, 3) := by decide +kernel
theorem dX12_defaults_19 : decode cX12_defaults 19 = .ok (.iconst 1, 1) := by decide +kernel
theorem dX12_defaults_20 : decode cX12_defaults 20 = .ok (.iload_n 2, 1) := by decide +kernel
theorem dX12_defaults_21 : decode cX12_defaults 21 = .ok (.ishl, 1) := by decide +kernel
theorem dX12_defaults_22 : decode cX12_defaults 22 = .ok (.goto 4, 3) := by decide +kernel
theorem dX12_defaults_25 : decode cX12_defaults 25 = .ok (.iconst 0, 1) := by decide +kernel
theorem dX12_defaults_26 : decode cX12_defaults 26 = .ok (.ior, 1) := by decide +kernel
theorem dX12_defaults_27 : decode cX12_defaults 27 = .ok (.istore_n 1, 1) := by decide +kernel
theorem dX12_defaults_28 : decode cX12_defaults 28 = .ok (.iinc 2 1, 3) := by decide +kernel
theorem dX12_defaults_31 : decode cX12_defaults 31 = .ok (.goto (-27), 3) := by decide +kernel
theorem dX12_defaults_34 : decode cX12_defaults 34 = .ok (.iload_n 1, 1) := by decide +kernel
theorem dX12_defaults_35 : decode cX12_defaults 35 = .ok (.ireturn, 1) := by decide +kernel
theorem dX12_of_0 : decode cX12_of 0 = .ok (.aload_n 0, 1) := by decide +kernel
theorem dX12_of_1 : decode cX12_of 1 = .ok (.iload_n 1, 1) := by decide +kernel
theorem dX12_of_2 : decode cX12_of 2 = .ok (.iconst 0, 1) := by decide +kernel
theorem dX12_of_3 : decode cX12_of 3 = .ok (.iconst 5, 1) := by decide +kernel
theorem dX12_of_4 : decode cX12_of 4 = .ok (.invokestatic 133, 3) := by decide +kernel
theorem dX12_of_7 : decode cX12_of 7 = .ok (.iconst 1, 1) := by decide +kernel
theorem dX12_of_8 : decode cX12_of 8 = .ok (.iconst 1, 1) := by decide +kernel
theorem dX12_of_9 : decode cX12_of 9 = .ok (.invokevirtual 141, 3) := by decide +kernel
theorem dX12_of_12 : decode cX12_of 12 = .ok (.ifCond .ne 5, 3) := by decide +kernel
theorem dX12_of_15 : decode cX12_of 15 = .ok (.iconst 0, 1) := by decide +kernel
theorem dX12_of_16 : decode cX12_of 16 = .ok (.ireturn, 1) := by decide +kernel
theorem dX12_of_17 : decode cX12_of 17 = .ok (.iload_n 1, 1) := by decide +kernel
theorem dX12_of_18 : decode cX12_of 18 = .ok (.ifCond .ne 10, 3) := by decide +kernel
theorem dX12_of_21 : decode cX12_of 21 = .ok (.aload_n 0, 1) := by decide +kernel
theorem dX12_of_22 : decode cX12_of 22 = .ok (.getfield 158, 3) := by decide +kernel
theorem dX12_of_25 : decode cX12_of 25 = .ok (.goto 55, 3) := by decide +kernel
theorem dX12_of_28 : decode cX12_of 28 = .ok (.iload_n 1, 1) := by decide +kernel
theorem dX12_of_29 : decode cX12_of 29 = .ok (.iconst 1, 1) := by decide +kernel
theorem dX12_of_30 : decode cX12_of 30 = .ok (.if_icmp .ne 10, 3) := by decide +kernel
theorem dX12_of_33 : decode cX12_of 33 = .ok (.aload_n 0, 1) := by decide +kernel
theorem dX12_of_34 : decode cX12_of 34 = .ok (.getfield 155, 3) := by decide +kernel
theorem dX12_of_37 : decode cX12_of 37 = .ok (.goto 43, 3) := by decide +kernel
theorem dX12_of_40 : decode cX12_of 40 = .ok (.iload_n 1, 1) := by decide +kernel
theorem dX12_of_41 : decode cX12_of 41 = .ok (.iconst 2, 1) := by decide +kernel
theorem dX12_of_42 : decode cX12_of 42 = .ok (.if_icmp .ne 10, 3) := by decide +kernel
theorem dX12_of_45 : decode cX12_of 45 = .ok (.aload_n 0, 1) := by decide +kernel
theorem dX12_of_46 : decode cX12_of 46 = .ok (.getfield 210, 3) := by decide +kernel
theorem dX12_of_49 : decode cX12_of 49 = .ok (.goto 31, 3) := by decide +kernel
theorem dX12_of_52 : decode cX12_of 52 = .ok (.iload_n 1, 1) := by decide +kernel
theorem dX12_of_53 : decode cX12_of 53 = .ok (.iconst 3, 1) := by decide +kernel
theorem dX12_of_54 : decode cX12_of 54 = .ok (.if_icmp .ne 10, 3) := by decide +kernel
theorem dX12_of_57 : decode cX12_of 57 = .ok (.aload_n 0, 1) := by decide +kernel
theorem dX12_of_58 : decode cX12_of 58 = .ok (.getfield 234, 3) := by decide +kernel
theorem dX12_of_61 : decode cX12_of 61 = .ok (.goto 19, 3) := by decide +kernel
theorem dX12_of_64 : decode cX12_of 64 = .ok (.iload_n 1, 1) := by decide +kernel
theorem dX12_of_65 : decode cX12_of 65 = .ok (.iconst 4, 1) := by decide +kernel
theorem dX12_of_66 : decode cX12_of 66 = .ok (.if_icmp .ne 10, 3) := by decide +kernel
theorem dX12_of_69 : decode cX12_of 69 = .ok (.aload_n 0, 1) := by decide +kernel
theorem dX12_of_70 : decode cX12_of 70 = .ok (.getfield 258, 3) := by decide +kernel
theorem dX12_of_73 : decode cX12_of 73 = .ok (.goto 7, 3) := by decide +kernel
theorem dX12_of_76 : decode cX12_of 76 = .ok (.aload_n 0, 1) := by decide +kernel
theorem dX12_of_77 : decode cX12_of 77 = .ok (.invokevirtual 274, 3) := by decide +kernel
theorem dX12_of_80 : decode cX12_of 80 = .ok (.ireturn, 1) := by decide +kernel
theorem dJ9_max_7cf53_0 : decode cJ9_max_7cf53 0 = .ok (.iload_n 0, 1) := by decide +kernel
theorem dJ9_max_7cf53_1 : decode cJ9_max_7cf53 1 = .ok (.iload_n 1, 1) := by decide +kernel
theorem dJ9_max_7cf53_2 : decode cJ9_max_7cf53 2 = .ok (.if_icmp .lt 7, 3) := by decide +kernel
theorem dJ9_max_7cf53_5 : decode cJ9_max_7cf53 5 = .ok (.iload_n 0, 1) := by decide +kernel
theorem dJ9_max_7cf53_6 : decode cJ9_max_7cf53 6 = .ok (.goto 4, 3) := by decide +kernel
theorem dJ9_max_7cf53_9 : decode cJ9_max_7cf53 9 = .ok (.iload_n 1, 1) := by decide +kernel
theorem dJ9_max_7cf53_10 : decode cJ9_max_7cf53 10 = .ok (.ireturn, 1) := by decide +kernel
theorem dJ9_max_f86c9_0 : decode cJ9_max_f86c9 0 = .ok (.lload_n 0, 1) := by decide +kernel
theorem dJ9_max_f86c9_1 : decode cJ9_max_f86c9 1 = .ok (.lload_n 2, 1) := by decide +kernel
theorem dJ9_max_f86c9_2 : decode cJ9_max_f86c9 2 = .ok (.lcmp, 1) := by decide +kernel
theorem dJ9_max_f86c9_3 : decode cJ9_max_f86c9 3 = .ok (.ifCond .lt 7, 3) := by decide +kernel
theorem dJ9_max_f86c9_6 : decode cJ9_max_f86c9 6 = .ok (.lload_n 0, 1) := by decide +kernel
theorem dJ9_max_f86c9_7 : decode cJ9_max_f86c9 7 = .ok (.goto 4, 3) := by decide +kernel
theorem dJ9_max_f86c9_10 : decode cJ9_max_f86c9 10 = .ok (.lload_n 2, 1) := by decide +kernel
theorem dJ9_max_f86c9_11 : decode cJ9_max_f86c9 11 = .ok (.lreturn, 1) := by decide +kernel
theorem dJ9_min_7cf53_0 : decode cJ9_min_7cf53 0 = .ok (.iload_n 0, 1) := by decide +kernel
theorem dJ9_min_7cf53_1 : decode cJ9_min_7cf53 1 = .ok (.iload_n 1, 1) := by decide +kernel
theorem dJ9_min_7cf53_2 : decode cJ9_min_7cf53 2 = .ok (.if_icmp .gt 7, 3) := by decide +kernel
theorem dJ9_min_7cf53_5 : decode cJ9_min_7cf53 5 = .ok (.iload_n 0, 1) := by decide +kernel
theorem dJ9_min_7cf53_6 : decode cJ9_min_7cf53 6 = .ok (.goto 4, 3) := by decide +kernel
theorem dJ9_min_7cf53_9 : decode cJ9_min_7cf53 9 = .ok (.iload_n 1, 1) := by decide +kernel
theorem dJ9_min_7cf53_10 : decode cJ9_min_7cf53 10 = .ok (.ireturn, 1) := by decide +kernel
theorem dL_miles_0 : decode cL_miles 0 = .ok (.aload 4, 2) := by decide +kernel
theorem dL_miles_2 : decode cL_miles 2 = .ok (.iconst 0, 1) := by decide +kernel
theorem dL_miles_3 : decode cL_miles 3 = .ok (.aload_n 0, 1) := by decide +kernel
theorem dL_miles_4 : decode cL_miles 4 = .ok (.iload_n 1, 1) := by decide +kernel
theorem dL_miles_5 : decode cL_miles 5 = .ok (.iload_n 2, 1) := by decide +kernel
theorem dL_miles_6 : decode cL_miles 6 = .ok (.iload_n 3, 1) := by decide +kernel
theorem dL_miles_7 : decode cL_miles 7 = .ok (.invokevirtual 7, 3) := by decide +kernel
theorem dL_miles_10 : decode cL_miles 10 = .ok (.i2l, 1) := by decide +kernel
theorem dL_miles_11 : decode cL_miles 11 = .ok (.lastore, 1) := by decide +kernel
theorem dL_miles_12 : decode cL_miles 12 = .ok (.goto 11, 3) := by decide +kernel
theorem dL_miles_15 : decode cL_miles 15 = .ok (.astore 5, 2) := by decide +kernel
theorem dL_miles_17 : decode cL_miles 17 = .ok (.iconst 1, 1) := by decide +kernel
theorem dL_miles_18 : decode cL_miles 18 = .ok (.ireturn, 1) := by decide +kernel
theorem dL_miles_19 : decode cL_miles 19 = .ok (.astore 5, 2) := by decide +kernel
theorem dL_miles_21 : decode cL_miles 21 = .ok (.iconst 2, 1) := by decide +kernel
theorem dL_miles_22 : decode cL_miles 22 = .ok (.ireturn, 1) := by decide +kernel
theorem dL_miles_23 : decode cL_miles 23 = .ok (.iconst 0, 1) := by decide +kernel
theorem dL_miles_24 : decode cL_miles 24 = .ok (.ireturn, 1) := by decide +kernel
theorem dL_fare_0 : decode cL_fare 0 = .ok (.aload 7, 2) := by decide +kernel
theorem dL_fare_2 : decode cL_fare 2 = .ok (.iconst 0, 1) := by decide +kernel
theorem dL_fare_3 : decode cL_fare 3 = .ok (.aload_n 0, 1) := by decide +kernel
theorem dL_fare_4 : decode cL_fare 4 = .ok (.iload_n 1, 1) := by decide +kernel
theorem dL_fare_5 : decode cL_fare 5 = .ok (.iload_n 2, 1) := by decide +kernel
theorem dL_fare_6 : decode cL_fare 6 = .ok (.iload_n 3, 1) := by decide +kernel
theorem dL_fare_7 : decode cL_fare 7 = .ok (.iload 4, 2) := by decide +kernel
theorem dL_fare_9 : decode cL_fare 9 = .ok (.iload 5, 2) := by decide +kernel
theorem dL_fare_11 : decode cL_fare 11 = .ok (.iload 6, 2) := by decide +kernel
theorem dL_fare_13 : decode cL_fare 13 = .ok (.invokevirtual 17, 3) := by decide +kernel
theorem dL_fare_16 : decode cL_fare 16 = .ok (.i2l, 1) := by decide +kernel
theorem dL_fare_17 : decode cL_fare 17 = .ok (.lastore, 1) := by decide +kernel
theorem dL_fare_18 : decode cL_fare 18 = .ok (.goto 15, 3) := by decide +kernel
theorem dL_fare_21 : decode cL_fare 21 = .ok (.astore 8, 2) := by decide +kernel
theorem dL_fare_23 : decode cL_fare 23 = .ok (.iconst 1, 1) := by decide +kernel
theorem dL_fare_24 : decode cL_fare 24 = .ok (.ireturn, 1) := by decide +kernel
theorem dL_fare_25 : decode cL_fare 25 = .ok (.astore 8, 2) := by decide +kernel
theorem dL_fare_27 : decode cL_fare 27 = .ok (.iconst 2, 1) := by decide +kernel
theorem dL_fare_28 : decode cL_fare 28 = .ok (.ireturn, 1) := by decide +kernel
theorem dL_fare_29 : decode cL_fare 29 = .ok (.astore 8, 2) := by decide +kernel
theorem dL_fare_31 : decode cL_fare 31 = .ok (.iconst 3, 1) := by decide +kernel
theorem dL_fare_32 : decode cL_fare 32 = .ok (.ireturn, 1) := by decide +kernel
theorem dL_fare_33 : decode cL_fare 33 = .ok (.iconst 0, 1) := by decide +kernel
theorem dL_fare_34 : decode cL_fare 34 = .ok (.ireturn, 1) := by decide +kernel
theorem dL_withdraw_0 : decode cL_withdraw 0 = .ok (.aload_n 0, 1) := by decide +kernel
theorem dL_withdraw_1 : decode cL_withdraw 1 = .ok (.iload_n 1, 1) := by decide +kernel
theorem dL_withdraw_2 : decode cL_withdraw 2 = .ok (.invokevirtual 23, 3) := by decide +kernel
theorem dL_withdraw_5 : decode cL_withdraw 5 = .ok (.goto 9, 3) := by decide +kernel
theorem dL_withdraw_8 : decode cL_withdraw 8 = .ok (.astore_n 2, 1) := by decide +kernel
theorem dL_withdraw_9 : decode cL_withdraw 9 = .ok (.iconst 1, 1) := by decide +kernel
theorem dL_withdraw_10 : decode cL_withdraw 10 = .ok (.ireturn, 1) := by decide +kernel
theorem dL_withdraw_11 : decode cL_withdraw 11 = .ok (.astore_n 2, 1) := by decide +kernel
theorem dL_withdraw_12 : decode cL_withdraw 12 = .ok (.iconst 2, 1) := by decide +kernel
theorem dL_withdraw_13 : decode cL_withdraw 13 = .ok (.ireturn, 1) := by decide +kernel
theorem dL_withdraw_14 : decode cL_withdraw 14 = .ok (.iconst 0, 1) := by decide +kernel
theorem dL_withdraw_15 : decode cL_withdraw 15 = .ok (.ireturn, 1) := by decide +kernel
theorem dL_unit_0 : decode cL_unit 0 = .ok (.aload_n 2, 1) := by decide +kernel
theorem dL_unit_1 : decode cL_unit 1 = .ok (.iconst 0, 1) := by decide +kernel
theorem dL_unit_2 : decode cL_unit 2 = .ok (.aload_n 0, 1) := by decide +kernel
theorem dL_unit_3 : decode cL_unit 3 = .ok (.iload_n 1, 1) := by decide +kernel
theorem dL_unit_4 : decode cL_unit 4 = .ok (.invokevirtual 27, 3) := by decide +kernel
theorem dL_unit_7 : decode cL_unit 7 = .ok (.i2l, 1) := by decide +kernel
theorem dL_unit_8 : decode cL_unit 8 = .ok (.lastore, 1) := by decide +kernel
theorem dL_unit_9 : decode cL_unit 9 = .ok (.goto 6, 3) := by decide +kernel
theorem dL_unit_12 : decode cL_unit 12 = .ok (.astore_n 3, 1) := by decide +kernel
theorem dL_unit_13 : decode cL_unit 13 = .ok (.iconst 1, 1) := by decide +kernel
theorem dL_unit_14 : decode cL_unit 14 = .ok (.ireturn, 1) := by decide +kernel
theorem dL_unit_15 : decode cL_unit 15 = .ok (.iconst 0, 1) := by decide +kernel
theorem dL_unit_16 : decode cL_unit 16 = .ok (.ireturn, 1) := by decide +kernel
theorem dL_tax_0 : decode cL_tax 0 = .ok (.aload_n 0, 1) := by decide +kernel
theorem dL_tax_1 : decode cL_tax 1 = .ok (.iload_n 1, 1) := by decide +kernel
theorem dL_tax_2 : decode cL_tax 2 = .ok (.iload_n 2, 1) := by decide +kernel
theorem dL_tax_3 : decode cL_tax 3 = .ok (.iload_n 3, 1) := by decide +kernel
theorem dL_tax_4 : decode cL_tax 4 = .ok (.invokevirtual 31, 3) := by decide +kernel
theorem dL_tax_7 : decode cL_tax 7 = .ok (.goto 11, 3) := by decide +kernel
theorem dL_tax_10 : decode cL_tax 10 = .ok (.astore 4, 2) := by decide +kernel
theorem dL_tax_12 : decode cL_tax 12 = .ok (.iconst 1, 1) := by decide +kernel
theorem dL_tax_13 : decode cL_tax 13 = .ok (.ireturn, 1) := by decide +kernel
theorem dL_tax_14 : decode cL_tax 14 = .ok (.astore 4, 2) := by decide +kernel
theorem dL_tax_16 : decode cL_tax 16 = .ok (.iconst 2, 1) := by decide +kernel
theorem dL_tax_17 : decode cL_tax 17 = .ok (.ireturn, 1) := by decide +kernel
theorem dL_tax_18 : decode cL_tax 18 = .ok (.iconst 0, 1) := by decide +kernel
theorem dL_tax_19 : decode cL_tax 19 = .ok (.ireturn, 1) := by decide +kernel
theorem dL_weight_0 : decode cL_weight 0 = .ok (.aload 4, 2) := by decide +kernel
theorem dL_weight_2 : decode cL_weight 2 = .ok (.iconst 0, 1) := by decide +kernel
theorem dL_weight_3 : decode cL_weight 3 = .ok (.aload_n 0, 1) := by decide +kernel
theorem dL_weight_4 : decode cL_weight 4 = .ok (.iload_n 1, 1) := by decide +kernel
theorem dL_weight_5 : decode cL_weight 5 = .ok (.iload_n 2, 1) := by decide +kernel
theorem dL_weight_6 : decode cL_weight 6 = .ok (.iload_n 3, 1) := by decide +kernel
theorem dL_weight_7 : decode cL_weight 7 = .ok (.invokevirtual 35, 3) := by decide +kernel
theorem dL_weight_10 : decode cL_weight 10 = .ok (.i2l, 1) := by decide +kernel
theorem dL_weight_11 : decode cL_weight 11 = .ok (.lastore, 1) := by decide +kernel
theorem dL_weight_12 : decode cL_weight 12 = .ok (.goto 11, 3) := by decide +kernel
theorem dL_weight_15 : decode cL_weight 15 = .ok (.astore 5, 2) := by decide +kernel
theorem dL_weight_17 : decode cL_weight 17 = .ok (.iconst 1, 1) := by decide +kernel
theorem dL_weight_18 : decode cL_weight 18 = .ok (.ireturn, 1) := by decide +kernel
theorem dL_weight_19 : decode cL_weight 19 = .ok (.astore 5, 2) := by decide +kernel
theorem dL_weight_21 : decode cL_weight 21 = .ok (.iconst 2, 1) := by decide +kernel
theorem dL_weight_22 : decode cL_weight 22 = .ok (.ireturn, 1) := by decide +kernel
theorem dL_weight_23 : decode cL_weight 23 = .ok (.iconst 0, 1) := by decide +kernel
theorem dL_weight_24 : decode cL_weight 24 = .ok (.ireturn, 1) := by decide +kernel
theorem dL_proviso_0 : decode cL_proviso 0 = .ok (.aload 5, 2) := by decide +kernel
theorem dL_proviso_2 : decode cL_proviso 2 = .ok (.iconst 0, 1) := by decide +kernel
theorem dL_proviso_3 : decode cL_proviso 3 = .ok (.aload_n 0, 1) := by decide +kernel
theorem dL_proviso_4 : decode cL_proviso 4 = .ok (.iload_n 1, 1) := by decide +kernel
theorem dL_proviso_5 : decode cL_proviso 5 = .ok (.iload_n 2, 1) := by decide +kernel
theorem dL_proviso_6 : decode cL_proviso 6 = .ok (.iload_n 3, 1) := by decide +kernel
theorem dL_proviso_7 : decode cL_proviso 7 = .ok (.iload 4, 2) := by decide +kernel
theorem dL_proviso_9 : decode cL_proviso 9 = .ok (.invokevirtual 38, 3) := by decide +kernel
theorem dL_proviso_12 : decode cL_proviso 12 = .ok (.i2l, 1) := by decide +kernel
theorem dL_proviso_13 : decode cL_proviso 13 = .ok (.lastore, 1) := by decide +kernel
theorem dL_proviso_14 : decode cL_proviso 14 = .ok (.goto 11, 3) := by decide +kernel
theorem dL_proviso_17 : decode cL_proviso 17 = .ok (.astore 6, 2) := by decide +kernel
theorem dL_proviso_19 : decode cL_proviso 19 = .ok (.iconst 1, 1) := by decide +kernel
theorem dL_proviso_20 : decode cL_proviso 20 = .ok (.ireturn, 1) := by decide +kernel
theorem dL_proviso_21 : decode cL_proviso 21 = .ok (.astore 6, 2) := by decide +kernel
theorem dL_proviso_23 : decode cL_proviso 23 = .ok (.iconst 2, 1) := by decide +kernel
theorem dL_proviso_24 : decode cL_proviso 24 = .ok (.ireturn, 1) := by decide +kernel
theorem dL_proviso_25 : decode cL_proviso 25 = .ok (.iconst 0, 1) := by decide +kernel
theorem dL_proviso_26 : decode cL_proviso 26 = .ok (.ireturn, 1) := by decide +kernel
theorem dL_penalty_0 : decode cL_penalty 0 = .ok (.aload_n 2, 1) := by decide +kernel
theorem dL_penalty_1 : decode cL_penalty 1 = .ok (.iconst 0, 1) := by decide +kernel
theorem dL_penalty_2 : decode cL_penalty 2 = .ok (.aload_n 0, 1) := by decide +kernel
theorem dL_penalty_3 : decode cL_penalty 3 = .ok (.iload_n 1, 1) := by decide +kernel
theorem dL_penalty_4 : decode cL_penalty 4 = .ok (.invokevirtual 42, 3) := by decide +kernel
theorem dL_penalty_7 : decode cL_penalty 7 = .ok (.i2l, 1) := by decide +kernel
theorem dL_penalty_8 : decode cL_penalty 8 = .ok (.lastore, 1) := by decide +kernel
theorem dL_penalty_9 : decode cL_penalty 9 = .ok (.goto 6, 3) := by decide +kernel
theorem dL_penalty_12 : decode cL_penalty 12 = .ok (.astore_n 3, 1) := by decide +kernel
theorem dL_penalty_13 : decode cL_penalty 13 = .ok (.iconst 1, 1) := by decide +kernel
theorem dL_penalty_14 : decode cL_penalty 14 = .ok (.ireturn, 1) := by decide +kernel
theorem dL_penalty_15 : decode cL_penalty 15 = .ok (.iconst 0, 1) := by decide +kernel
theorem dL_penalty_16 : decode cL_penalty 16 = .ok (.ireturn, 1) := by decide +kernel
theorem dL_leg_0 : decode cL_leg 0 = .ok (.aload 5, 2) := by decide +kernel
theorem dL_leg_2 : decode cL_leg 2 = .ok (.iconst 0, 1) := by decide +kernel
theorem dL_leg_3 : decode cL_leg 3 = .ok (.aload_n 0, 1) := by decide +kernel
theorem dL_leg_4 : decode cL_leg 4 = .ok (.iload_n 1, 1) := by decide +kernel
theorem dL_leg_5 : decode cL_leg 5 = .ok (.iload_n 2, 1) := by decide +kernel
theorem dL_leg_6 : decode cL_leg 6 = .ok (.iload_n 3, 1) := by decide +kernel
theorem dL_leg_7 : decode cL_leg 7 = .ok (.iload 4, 2) := by decide +kernel
theorem dL_leg_9 : decode cL_leg 9 = .ok (.invokevirtual 45, 3) := by decide +kernel
theorem dL_leg_12 : decode cL_leg 12 = .ok (.i2l, 1) := by decide +kernel
theorem dL_leg_13 : decode cL_leg 13 = .ok (.lastore, 1) := by decide +kernel
theorem dL_leg_14 : decode cL_leg 14 = .ok (.goto 15, 3) := by decide +kernel
theorem dL_leg_17 : decode cL_leg 17 = .ok (.astore 6, 2) := by decide +kernel
theorem dL_leg_19 : decode cL_leg 19 = .ok (.iconst 1, 1) := by decide +kernel
theorem dL_leg_20 : decode cL_leg 20 = .ok (.ireturn, 1) := by decide +kernel
theorem dL_leg_21 : decode cL_leg 21 = .ok (.astore 6, 2) := by decide +kernel
theorem dL_leg_23 : decode cL_leg 23 = .ok (.iconst 2, 1) := by decide +kernel
theorem dL_leg_24 : decode cL_leg 24 = .ok (.ireturn, 1) := by decide +kernel
theorem dL_leg_25 : decode cL_leg 25 = .ok (.astore 6, 2) := by decide +kernel
theorem dL_leg_27 : decode cL_leg 27 = .ok (.iconst 3, 1) := by decide +kernel
theorem dL_leg_28 : decode cL_leg 28 = .ok (.ireturn, 1) := by decide +kernel
theorem dL_leg_29 : decode cL_leg 29 = .ok (.iconst 0, 1) := by decide +kernel
theorem dL_leg_30 : decode cL_leg 30 = .ok (.ireturn, 1) := by decide +kernel
theorem dL_part_0 : decode cL_part 0 = .ok (.aload_n 3, 1) := by decide +kernel
theorem dL_part_1 : decode cL_part 1 = .ok (.iconst 0, 1) := by decide +kernel
theorem dL_part_2 : decode cL_part 2 = .ok (.aload_n 0, 1) := by decide +kernel
theorem dL_part_3 : decode cL_part 3 = .ok (.iload_n 1, 1) := by decide +kernel
theorem dL_part_4 : decode cL_part 4 = .ok (.iload_n 2, 1) := by decide +kernel
theorem dL_part_5 : decode cL_part 5 = .ok (.invokevirtual 48, 3) := by decide +kernel
theorem dL_part_8 : decode cL_part 8 = .ok (.i2l, 1) := by decide +kernel
theorem dL_part_9 : decode cL_part 9 = .ok (.lastore, 1) := by decide +kernel
theorem dL_part_10 : decode cL_part 10 = .ok (.goto 11, 3) := by decide +kernel
theorem dL_part_13 : decode cL_part 13 = .ok (.astore 4, 2) := by decide +kernel
theorem dL_part_15 : decode cL_part 15 = .ok (.iconst 1, 1) := by decide +kernel
theorem dL_part_16 : decode cL_part 16 = .ok (.ireturn, 1) := by decide +kernel
theorem dL_part_17 : decode cL_part 17 = .ok (.astore 4, 2) := by decide +kernel
theorem dL_part_19 : decode cL_part 19 = .ok (.iconst 2, 1) := by decide +kernel
theorem dL_part_20 : decode cL_part 20 = .ok (.ireturn, 1) := by decide +kernel
theorem dL_part_21 : decode cL_part 21 = .ok (.iconst 0, 1) := by decide +kernel
theorem dL_part_22 : decode cL_part 22 = .ok (.ireturn, 1) := by decide +kernel
theorem dL_issue_0 : decode cL_issue 0 = .ok (.aload_n 2, 1) := by decide +kernel
theorem dL_issue_1 : decode cL_issue 1 = .ok (.iconst 0, 1) := by decide +kernel
theorem dL_issue_2 : decode cL_issue 2 = .ok (.aload_n 0, 1) := by decide +kernel
theorem dL_issue_3 : decode cL_issue 3 = .ok (.iload_n 1, 1) := by decide +kernel
theorem dL_issue_4 : decode cL_issue 4 = .ok (.invokevirtual 52, 3) := by decide +kernel
theorem dL_issue_7 : decode cL_issue 7 = .ok (.i2l, 1) := by decide +kernel
theorem dL_issue_8 : decode cL_issue 8 = .ok (.lastore, 1) := by decide +kernel
theorem dL_issue_9 : decode cL_issue 9 = .ok (.goto 9, 3) := by decide +kernel
theorem dL_issue_12 : decode cL_issue 12 = .ok (.astore_n 3, 1) := by decide +kernel
theorem dL_issue_13 : decode cL_issue 13 = .ok (.iconst 1, 1) := by decide +kernel
theorem dL_issue_14 : decode cL_issue 14 = .ok (.ireturn, 1) := by decide +kernel
theorem dL_issue_15 : decode cL_issue 15 = .ok (.astore_n 3, 1) := by decide +kernel
theorem dL_issue_16 : decode cL_issue 16 = .ok (.iconst 2, 1) := by decide +kernel
theorem dL_issue_17 : decode cL_issue 17 = .ok (.ireturn, 1) := by decide +kernel
theorem dL_issue_18 : decode cL_issue 18 = .ok (.iconst 0, 1) := by decide +kernel
theorem dL_issue_19 : decode cL_issue 19 = .ok (.ireturn, 1) := by decide +kernel
theorem dL_fly_0 : decode cL_fly 0 = .ok (.aload_n 3, 1) := by decide +kernel
theorem dL_fly_1 : decode cL_fly 1 = .ok (.iconst 0, 1) := by decide +kernel
theorem dL_fly_2 : decode cL_fly 2 = .ok (.aload_n 0, 1) := by decide +kernel
theorem dL_fly_3 : decode cL_fly 3 = .ok (.iload_n 1, 1) := by decide +kernel
theorem dL_fly_4 : decode cL_fly 4 = .ok (.iload_n 2, 1) := by decide +kernel
theorem dL_fly_5 : decode cL_fly 5 = .ok (.invokevirtual 55, 3) := by decide +kernel
theorem dL_fly_8 : decode cL_fly 8 = .ok (.i2l, 1) := by decide +kernel
theorem dL_fly_9 : decode cL_fly 9 = .ok (.lastore, 1) := by decide +kernel
theorem dL_fly_10 : decode cL_fly 10 = .ok (.goto 11, 3) := by decide +kernel
theorem dL_fly_13 : decode cL_fly 13 = .ok (.astore 4, 2) := by decide +kernel
theorem dL_fly_15 : decode cL_fly 15 = .ok (.iconst 1, 1) := by decide +kernel
theorem dL_fly_16 : decode cL_fly 16 = .ok (.ireturn, 1) := by decide +kernel
theorem dL_fly_17 : decode cL_fly 17 = .ok (.astore 4, 2) := by decide +kernel
theorem dL_fly_19 : decode cL_fly 19 = .ok (.iconst 2, 1) := by decide +kernel
theorem dL_fly_20 : decode cL_fly 20 = .ok (.ireturn, 1) := by decide +kernel
theorem dL_fly_21 : decode cL_fly 21 = .ok (.iconst 0, 1) := by decide +kernel
theorem dL_fly_22 : decode cL_fly 22 = .ok (.ireturn, 1) := by decide +kernel
theorem dL_endorse_0 : decode cL_endorse 0 = .ok (.aload 4, 2) := by decide +kernel
theorem dL_endorse_2 : decode cL_endorse 2 = .ok (.iconst 0, 1) := by decide +kernel
theorem dL_endorse_3 : decode cL_endorse 3 = .ok (.aload_n 0, 1) := by decide +kernel
theorem dL_endorse_4 : decode cL_endorse 4 = .ok (.iload_n 1, 1) := by decide +kernel
theorem dL_endorse_5 : decode cL_endorse 5 = .ok (.iload_n 2, 1) := by decide +kernel
theorem dL_endorse_6 : decode cL_endorse 6 = .ok (.iload_n 3, 1) := by decide +kernel
theorem dL_endorse_7 : decode cL_endorse 7 = .ok (.invokevirtual 58, 3) := by decide +kernel
theorem dL_endorse_10 : decode cL_endorse 10 = .ok (.i2l, 1) := by decide +kernel
theorem dL_endorse_11 : decode cL_endorse 11 = .ok (.lastore, 1) := by decide +kernel
theorem dL_endorse_12 : decode cL_endorse 12 = .ok (.goto 11, 3) := by decide +kernel
theorem dL_endorse_15 : decode cL_endorse 15 = .ok (.astore 5, 2) := by decide +kernel
theorem dL_endorse_17 : decode cL_endorse 17 = .ok (.iconst 1, 1) := by decide +kernel
theorem dL_endorse_18 : decode cL_endorse 18 = .ok (.ireturn, 1) := by decide +kernel
theorem dL_endorse_19 : decode cL_endorse 19 = .ok (.astore 5, 2) := by decide +kernel
theorem dL_endorse_21 : decode cL_endorse 21 = .ok (.iconst 2, 1) := by decide +kernel
theorem dL_endorse_22 : decode cL_endorse 22 = .ok (.ireturn, 1) := by decide +kernel
theorem dL_endorse_23 : decode cL_endorse 23 = .ok (.iconst 0, 1) := by decide +kernel
theorem dL_endorse_24 : decode cL_endorse 24 = .ok (.ireturn, 1) := by decide +kernel
theorem dL_refund_0 : decode cL_refund 0 = .ok (.aload_n 2, 1) := by decide +kernel
theorem dL_refund_1 : decode cL_refund 1 = .ok (.iconst 0, 1) := by decide +kernel
theorem dL_refund_2 : decode cL_refund 2 = .ok (.aload_n 0, 1) := by decide +kernel
theorem dL_refund_3 : decode cL_refund 3 = .ok (.iload_n 1, 1) := by decide +kernel
theorem dL_refund_4 : decode cL_refund 4 = .ok (.invokevirtual 61, 3) := by decide +kernel
theorem dL_refund_7 : decode cL_refund 7 = .ok (.i2l, 1) := by decide +kernel
theorem dL_refund_8 : decode cL_refund 8 = .ok (.lastore, 1) := by decide +kernel
theorem dL_refund_9 : decode cL_refund 9 = .ok (.goto 9, 3) := by decide +kernel
theorem dL_refund_12 : decode cL_refund 12 = .ok (.astore_n 3, 1) := by decide +kernel
theorem dL_refund_13 : decode cL_refund 13 = .ok (.iconst 1, 1) := by decide +kernel
theorem dL_refund_14 : decode cL_refund 14 = .ok (.ireturn, 1) := by decide +kernel
theorem dL_refund_15 : decode cL_refund 15 = .ok (.astore_n 3, 1) := by decide +kernel
theorem dL_refund_16 : decode cL_refund 16 = .ok (.iconst 2, 1) := by decide +kernel
theorem dL_refund_17 : decode cL_refund 17 = .ok (.ireturn, 1) := by decide +kernel
theorem dL_refund_18 : decode cL_refund 18 = .ok (.iconst 0, 1) := by decide +kernel
theorem dL_refund_19 : decode cL_refund 19 = .ok (.ireturn, 1) := by decide +kernel
theorem dL_reissue_0 : decode cL_reissue 0 = .ok (.aload_n 2, 1) := by decide +kernel
theorem dL_reissue_1 : decode cL_reissue 1 = .ok (.iconst 0, 1) := by decide +kernel
theorem dL_reissue_2 : decode cL_reissue 2 = .ok (.aload_n 0, 1) := by decide +kernel
theorem dL_reissue_3 : decode cL_reissue 3 = .ok (.iload_n 1, 1) := by decide +kernel
theorem dL_reissue_4 : decode cL_reissue 4 = .ok (.invokevirtual 64, 3) := by decide +kernel
theorem dL_reissue_7 : decode cL_reissue 7 = .ok (.i2l, 1) := by decide +kernel
theorem dL_reissue_8 : decode cL_reissue 8 = .ok (.lastore, 1) := by decide +kernel
theorem dL_reissue_9 : decode cL_reissue 9 = .ok (.goto 9, 3) := by decide +kernel
theorem dL_reissue_12 : decode cL_reissue 12 = .ok (.astore_n 3, 1) := by decide +kernel
theorem dL_reissue_13 : decode cL_reissue 13 = .ok (.iconst 1, 1) := by decide +kernel
theorem dL_reissue_14 : decode cL_reissue 14 = .ok (.ireturn, 1) := by decide +kernel
theorem dL_reissue_15 : decode cL_reissue 15 = .ok (.astore_n 3, 1) := by decide +kernel
theorem dL_reissue_16 : decode cL_reissue 16 = .ok (.iconst 2, 1) := by decide +kernel
theorem dL_reissue_17 : decode cL_reissue 17 = .ok (.ireturn, 1) := by decide +kernel
theorem dL_reissue_18 : decode cL_reissue 18 = .ok (.iconst 0, 1) := by decide +kernel
theorem dL_reissue_19 : decode cL_reissue 19 = .ok (.ireturn, 1) := by decide +kernel
theorem dL_pass_0 : decode cL_pass 0 = .ok (.aload_n 2, 1) := by decide +kernel
theorem dL_pass_1 : decode cL_pass 1 = .ok (.iconst 0, 1) := by decide +kernel
theorem dL_pass_2 : decode cL_pass 2 = .ok (.aload_n 0, 1) := by decide +kernel
theorem dL_pass_3 : decode cL_pass 3 = .ok (.iload_n 1, 1) := by decide +kernel
theorem dL_pass_4 : decode cL_pass 4 = .ok (.invokevirtual 67, 3) := by decide +kernel
theorem dL_pass_7 : decode cL_pass 7 = .ok (.i2l, 1) := by decide +kernel
theorem dL_pass_8 : decode cL_pass 8 = .ok (.lastore, 1) := by decide +kernel
theorem dL_pass_9 : decode cL_pass 9 = .ok (.goto 9, 3) := by decide +kernel
theorem dL_pass_12 : decode cL_pass 12 = .ok (.astore_n 3, 1) := by decide +kernel
theorem dL_pass_13 : decode cL_pass 13 = .ok (.iconst 1, 1) := by decide +kernel
theorem dL_pass_14 : decode cL_pass 14 = .ok (.ireturn, 1) := by decide +kernel
theorem dL_pass_15 : decode cL_pass 15 = .ok (.astore_n 3, 1) := by decide +kernel
theorem dL_pass_16 : decode cL_pass 16 = .ok (.iconst 2, 1) := by decide +kernel
theorem dL_pass_17 : decode cL_pass 17 = .ok (.ireturn, 1) := by decide +kernel
theorem dL_pass_18 : decode cL_pass 18 = .ok (.iconst 0, 1) := by decide +kernel
theorem dL_pass_19 : decode cL_pass 19 = .ok (.ireturn, 1) := by decide +kernel
theorem dL_reject_0 : decode cL_reject 0 = .ok (.aload_n 2, 1) := by decide +kernel
theorem dL_reject_1 : decode cL_reject 1 = .ok (.iconst 0, 1) := by decide +kernel
theorem dL_reject_2 : decode cL_reject 2 = .ok (.aload_n 0, 1) := by decide +kernel
theorem dL_reject_3 : decode cL_reject 3 = .ok (.iload_n 1, 1) := by decide +kernel
theorem dL_reject_4 : decode cL_reject 4 = .ok (.invokevirtual 70, 3) := by decide +kernel
theorem dL_reject_7 : decode cL_reject 7 = .ok (.i2l, 1) := by decide +kernel
theorem dL_reject_8 : decode cL_reject 8 = .ok (.lastore, 1) := by decide +kernel
theorem dL_reject_9 : decode cL_reject 9 = .ok (.goto 9, 3) := by decide +kernel
theorem dL_reject_12 : decode cL_reject 12 = .ok (.astore_n 3, 1) := by decide +kernel
theorem dL_reject_13 : decode cL_reject 13 = .ok (.iconst 1, 1) := by decide +kernel
theorem dL_reject_14 : decode cL_reject 14 = .ok (.ireturn, 1) := by decide +kernel
theorem dL_reject_15 : decode cL_reject 15 = .ok (.astore_n 3, 1) := by decide +kernel
theorem dL_reject_16 : decode cL_reject 16 = .ok (.iconst 2, 1) := by decide +kernel
theorem dL_reject_17 : decode cL_reject 17 = .ok (.ireturn, 1) := by decide +kernel
theorem dL_reject_18 : decode cL_reject 18 = .ok (.iconst 0, 1) := by decide +kernel
theorem dL_reject_19 : decode cL_reject 19 = .ok (.ireturn, 1) := by decide +kernel
theorem dL_rebill_0 : decode cL_rebill 0 = .ok (.aload_n 0, 1) := by decide +kernel
theorem dL_rebill_1 : decode cL_rebill 1 = .ok (.iload_n 1, 1) := by decide +kernel
theorem dL_rebill_2 : decode cL_rebill 2 = .ok (.invokevirtual 73, 3) := by decide +kernel
theorem dL_rebill_5 : decode cL_rebill 5 = .ok (.goto 9, 3) := by decide +kernel
theorem dL_rebill_8 : decode cL_rebill 8 = .ok (.astore_n 2, 1) := by decide +kernel
theorem dL_rebill_9 : decode cL_rebill 9 = .ok (.iconst 1, 1) := by decide +kernel
theorem dL_rebill_10 : decode cL_rebill 10 = .ok (.ireturn, 1) := by decide +kernel
theorem dL_rebill_11 : decode cL_rebill 11 = .ok (.astore_n 2, 1) := by decide +kernel
theorem dL_rebill_12 : decode cL_rebill 12 = .ok (.iconst 2, 1) := by decide +kernel
theorem dL_rebill_13 : decode cL_rebill 13 = .ok (.ireturn, 1) := by decide +kernel
theorem dL_rebill_14 : decode cL_rebill 14 = .ok (.iconst 0, 1) := by decide +kernel
theorem dL_rebill_15 : decode cL_rebill 15 = .ok (.ireturn, 1) := by decide +kernel
theorem dL_fails_0 : decode cL_fails 0 = .ok (.aload_n 3, 1) := by decide +kernel
theorem dL_fails_1 : decode cL_fails 1 = .ok (.iconst 0, 1) := by decide +kernel
theorem dL_fails_2 : decode cL_fails 2 = .ok (.aload_n 0, 1) := by decide +kernel
theorem dL_fails_3 : decode cL_fails 3 = .ok (.iload_n 1, 1) := by decide +kernel
theorem dL_fails_4 : decode cL_fails 4 = .ok (.iload_n 2, 1) := by decide +kernel
theorem dL_fails_5 : decode cL_fails 5 = .ok (.invokevirtual 76, 3) := by decide +kernel
theorem dL_fails_8 : decode cL_fails 8 = .ok (.i2l, 1) := by decide +kernel
theorem dL_fails_9 : decode cL_fails 9 = .ok (.lastore, 1) := by decide +kernel
theorem dL_fails_10 : decode cL_fails 10 = .ok (.goto 7, 3) := by decide +kernel
theorem dL_fails_13 : decode cL_fails 13 = .ok (.astore 4, 2) := by decide +kernel
theorem dL_fails_15 : decode cL_fails 15 = .ok (.iconst 1, 1) := by decide +kernel
theorem dL_fails_16 : decode cL_fails 16 = .ok (.ireturn, 1) := by decide +kernel
theorem dL_fails_17 : decode cL_fails 17 = .ok (.iconst 0, 1) := by decide +kernel
theorem dL_fails_18 : decode cL_fails 18 = .ok (.ireturn, 1) := by decide +kernel
theorem dL_ofTicket_0 : decode cL_ofTicket 0 = .ok (.aload_n 3, 1) := by decide +kernel
theorem dL_ofTicket_1 : decode cL_ofTicket 1 = .ok (.iconst 0, 1) := by decide +kernel
theorem dL_ofTicket_2 : decode cL_ofTicket 2 = .ok (.aload_n 0, 1) := by decide +kernel
theorem dL_ofTicket_3 : decode cL_ofTicket 3 = .ok (.iload_n 1, 1) := by decide +kernel
theorem dL_ofTicket_4 : decode cL_ofTicket 4 = .ok (.iload_n 2, 1) := by decide +kernel
theorem dL_ofTicket_5 : decode cL_ofTicket 5 = .ok (.invokevirtual 80, 3) := by decide +kernel
theorem dL_ofTicket_8 : decode cL_ofTicket 8 = .ok (.i2l, 1) := by decide +kernel
theorem dL_ofTicket_9 : decode cL_ofTicket 9 = .ok (.lastore, 1) := by decide +kernel
theorem dL_ofTicket_10 : decode cL_ofTicket 10 = .ok (.goto 11, 3) := by decide +kernel
theorem dL_ofTicket_13 : decode cL_ofTicket 13 = .ok (.astore 4, 2) := by decide +kernel
theorem dL_ofTicket_15 : decode cL_ofTicket 15 = .ok (.iconst 1, 1) := by decide +kernel
theorem dL_ofTicket_16 : decode cL_ofTicket 16 = .ok (.ireturn, 1) := by decide +kernel
theorem dL_ofTicket_17 : decode cL_ofTicket 17 = .ok (.astore 4, 2) := by decide +kernel
theorem dL_ofTicket_19 : decode cL_ofTicket 19 = .ok (.iconst 2, 1) := by decide +kernel
theorem dL_ofTicket_20 : decode cL_ofTicket 20 = .ok (.ireturn, 1) := by decide +kernel
theorem dL_ofTicket_21 : decode cL_ofTicket 21 = .ok (.iconst 0, 1) := by decide +kernel
theorem dL_ofTicket_22 : decode cL_ofTicket 22 = .ok (.ireturn, 1) := by decide +kernel
theorem dL_ofCoupon_0 : decode cL_ofCoupon 0 = .ok (.aload 4, 2) := by decide +kernel
theorem dL_ofCoupon_2 : decode cL_ofCoupon 2 = .ok (.iconst 0, 1) := by decide +kernel
theorem dL_ofCoupon_3 : decode cL_ofCoupon 3 = .ok (.aload_n 0, 1) := by decide +kernel
theorem dL_ofCoupon_4 : decode cL_ofCoupon 4 = .ok (.iload_n 1, 1) := by decide +kernel
theorem dL_ofCoupon_5 : decode cL_ofCoupon 5 = .ok (.iload_n 2, 1) := by decide +kernel
theorem dL_ofCoupon_6 : decode cL_ofCoupon 6 = .ok (.iload_n 3, 1) := by decide +kernel
theorem dL_ofCoupon_7 : decode cL_ofCoupon 7 = .ok (.invokevirtual 83, 3) := by decide +kernel
theorem dL_ofCoupon_10 : decode cL_ofCoupon 10 = .ok (.i2l, 1) := by decide +kernel
theorem dL_ofCoupon_11 : decode cL_ofCoupon 11 = .ok (.lastore, 1) := by decide +kernel
theorem dL_ofCoupon_12 : decode cL_ofCoupon 12 = .ok (.goto 11, 3) := by decide +kernel
theorem dL_ofCoupon_15 : decode cL_ofCoupon 15 = .ok (.astore 5, 2) := by decide +kernel
theorem dL_ofCoupon_17 : decode cL_ofCoupon 17 = .ok (.iconst 1, 1) := by decide +kernel
theorem dL_ofCoupon_18 : decode cL_ofCoupon 18 = .ok (.ireturn, 1) := by decide +kernel
theorem dL_ofCoupon_19 : decode cL_ofCoupon 19 = .ok (.astore 5, 2) := by decide +kernel
theorem dL_ofCoupon_21 : decode cL_ofCoupon 21 = .ok (.iconst 2, 1) := by decide +kernel
theorem dL_ofCoupon_22 : decode cL_ofCoupon 22 = .ok (.ireturn, 1) := by decide +kernel
theorem dL_ofCoupon_23 : decode cL_ofCoupon 23 = .ok (.iconst 0, 1) := by decide +kernel
theorem dL_ofCoupon_24 : decode cL_ofCoupon 24 = .ok (.ireturn, 1) := by decide +kernel
theorem dL_ofBill_0 : decode cL_ofBill 0 = .ok (.aload_n 3, 1) := by decide +kernel
theorem dL_ofBill_1 : decode cL_ofBill 1 = .ok (.iconst 0, 1) := by decide +kernel
theorem dL_ofBill_2 : decode cL_ofBill 2 = .ok (.aload_n 0, 1) := by decide +kernel
theorem dL_ofBill_3 : decode cL_ofBill 3 = .ok (.iload_n 1, 1) := by decide +kernel
theorem dL_ofBill_4 : decode cL_ofBill 4 = .ok (.iload_n 2, 1) := by decide +kernel
theorem dL_ofBill_5 : decode cL_ofBill 5 = .ok (.invokevirtual 86, 3) := by decide +kernel
theorem dL_ofBill_8 : decode cL_ofBill 8 = .ok (.i2l, 1) := by decide +kernel
theorem dL_ofBill_9 : decode cL_ofBill 9 = .ok (.lastore, 1) := by decide +kernel
theorem dL_ofBill_10 : decode cL_ofBill 10 = .ok (.goto 11, 3) := by decide +kernel
theorem dL_ofBill_13 : decode cL_ofBill 13 = .ok (.astore 4, 2) := by decide +kernel
theorem dL_ofBill_15 : decode cL_ofBill 15 = .ok (.iconst 1, 1) := by decide +kernel
theorem dL_ofBill_16 : decode cL_ofBill 16 = .ok (.ireturn, 1) := by decide +kernel
theorem dL_ofBill_17 : decode cL_ofBill 17 = .ok (.astore 4, 2) := by decide +kernel
theorem dL_ofBill_19 : decode cL_ofBill 19 = .ok (.iconst 2, 1) := by decide +kernel
theorem dL_ofBill_20 : decode cL_ofBill 20 = .ok (.ireturn, 1) := by decide +kernel
theorem dL_ofBill_21 : decode cL_ofBill 21 = .ok (.iconst 0, 1) := by decide +kernel
theorem dL_ofBill_22 : decode cL_ofBill 22 = .ok (.ireturn, 1) := by decide +kernel
theorem dL_cash_0 : decode cL_cash 0 = .ok (.aload_n 2, 1) := by decide +kernel
theorem dL_cash_1 : decode cL_cash 1 = .ok (.iconst 0, 1) := by decide +kernel
theorem dL_cash_2 : decode cL_cash 2 = .ok (.aload_n 0, 1) := by decide +kernel
theorem dL_cash_3 : decode cL_cash 3 = .ok (.iload_n 1, 1) := by decide +kernel
theorem dL_cash_4 : decode cL_cash 4 = .ok (.invokevirtual 89, 3) := by decide +kernel
theorem dL_cash_7 : decode cL_cash 7 = .ok (.lastore, 1) := by decide +kernel
theorem dL_cash_8 : decode cL_cash 8 = .ok (.goto 6, 3) := by decide +kernel
theorem dL_cash_11 : decode cL_cash 11 = .ok (.astore_n 3, 1) := by decide +kernel
theorem dL_cash_12 : decode cL_cash 12 = .ok (.iconst 1, 1) := by decide +kernel
theorem dL_cash_13 : decode cL_cash 13 = .ok (.ireturn, 1) := by decide +kernel
theorem dL_cash_14 : decode cL_cash 14 = .ok (.iconst 0, 1) := by decide +kernel
theorem dL_cash_15 : decode cL_cash 15 = .ok (.ireturn, 1) := by decide +kernel
theorem dL_cashAnew_0 : decode cL_cashAnew 0 = .ok (.aload_n 2, 1) := by decide +kernel
theorem dL_cashAnew_1 : decode cL_cashAnew 1 = .ok (.iconst 0, 1) := by decide +kernel
theorem dL_cashAnew_2 : decode cL_cashAnew 2 = .ok (.aload_n 0, 1) := by decide +kernel
theorem dL_cashAnew_3 : decode cL_cashAnew 3 = .ok (.iload_n 1, 1) := by decide +kernel
theorem dL_cashAnew_4 : decode cL_cashAnew 4 = .ok (.invokevirtual 93, 3) := by decide +kernel
theorem dL_cashAnew_7 : decode cL_cashAnew 7 = .ok (.lastore, 1) := by decide +kernel
theorem dL_cashAnew_8 : decode cL_cashAnew 8 = .ok (.goto 6, 3) := by decide +kernel
theorem dL_cashAnew_11 : decode cL_cashAnew 11 = .ok (.astore_n 3, 1) := by decide +kernel
theorem dL_cashAnew_12 : decode cL_cashAnew 12 = .ok (.iconst 1, 1) := by decide +kernel
theorem dL_cashAnew_13 : decode cL_cashAnew 13 = .ok (.ireturn, 1) := by decide +kernel
theorem dL_cashAnew_14 : decode cL_cashAnew 14 = .ok (.iconst 0, 1) := by decide +kernel
theorem dL_cashAnew_15 : decode cL_cashAnew 15 = .ok (.ireturn, 1) := by decide +kernel
theorem dL_state_0 : decode cL_state 0 = .ok (.aload_n 2, 1) := by decide +kernel
theorem dL_state_1 : decode cL_state 1 = .ok (.iconst 0, 1) := by decide +kernel
theorem dL_state_2 : decode cL_state 2 = .ok (.aload_n 0, 1) := by decide +kernel
theorem dL_state_3 : decode cL_state 3 = .ok (.iload_n 1, 1) := by decide +kernel
theorem dL_state_4 : decode cL_state 4 = .ok (.invokevirtual 96, 3) := by decide +kernel
theorem dL_state_7 : decode cL_state 7 = .ok (.lastore, 1) := by decide +kernel
theorem dL_state_8 : decode cL_state 8 = .ok (.goto 6, 3) := by decide +kernel
theorem dL_state_11 : decode cL_state 11 = .ok (.astore_n 3, 1) := by decide +kernel
theorem dL_state_12 : decode cL_state 12 = .ok (.iconst 1, 1) := by decide +kernel
theorem dL_state_13 : decode cL_state 13 = .ok (.ireturn, 1) := by decide +kernel
theorem dL_state_14 : decode cL_state 14 = .ok (.iconst 0, 1) := by decide +kernel
theorem dL_state_15 : decode cL_state 15 = .ok (.ireturn, 1) := by decide +kernel
theorem dL_of_0 : decode cL_of 0 = .ok (.aload_n 2, 1) := by decide +kernel
theorem dL_of_1 : decode cL_of 1 = .ok (.iconst 0, 1) := by decide +kernel
theorem dL_of_2 : decode cL_of 2 = .ok (.aload_n 0, 1) := by decide +kernel
theorem dL_of_3 : decode cL_of 3 = .ok (.iload_n 1, 1) := by decide +kernel
theorem dL_of_4 : decode cL_of 4 = .ok (.invokevirtual 99, 3) := by decide +kernel
theorem dL_of_7 : decode cL_of 7 = .ok (.i2l, 1) := by decide +kernel
theorem dL_of_8 : decode cL_of 8 = .ok (.lastore, 1) := by decide +kernel
theorem dL_of_9 : decode cL_of 9 = .ok (.goto 6, 3) := by decide +kernel
theorem dL_of_12 : decode cL_of 12 = .ok (.astore_n 3, 1) := by decide +kernel
theorem dL_of_13 : decode cL_of 13 = .ok (.iconst 1, 1) := by decide +kernel
theorem dL_of_14 : decode cL_of 14 = .ok (.ireturn, 1) := by decide +kernel
theorem dL_of_15 : decode cL_of 15 = .ok (.iconst 0, 1) := by decide +kernel
theorem dL_of_16 : decode cL_of 16 = .ok (.ireturn, 1) := by decide +kernel
theorem dL_law_0 : decode cL_law 0 = .ok (.new 8, 3) := by decide +kernel
theorem dL_law_3 : decode cL_law 3 = .ok (.dup, 1) := by decide +kernel
theorem dL_law_4 : decode cL_law 4 = .ok (.invokespecial 102, 3) := by decide +kernel
theorem dL_law_7 : decode cL_law 7 = .ok (.astore_n 1, 1) := by decide +kernel
theorem dL_law_8 : decode cL_law 8 = .ok (.new 103, 3) := by decide +kernel
theorem dL_law_11 : decode cL_law 11 = .ok (.dup, 1) := by decide +kernel
theorem dL_law_12 : decode cL_law 12 = .ok (.invokespecial 105, 3) := by decide +kernel
theorem dL_law_15 : decode cL_law 15 = .ok (.astore_n 2, 1) := by decide +kernel
theorem dL_law_16 : decode cL_law 16 = .ok (.iconst 1, 1) := by decide +kernel
theorem dL_law_17 : decode cL_law 17 = .ok (.newarray .long, 2) := by decide +kernel
theorem dL_law_19 : decode cL_law 19 = .ok (.astore_n 3, 1) := by decide +kernel
theorem dL_law_20 : decode cL_law 20 = .ok (.iconst 0, 1) := by decide +kernel
theorem dL_law_21 : decode cL_law 21 = .ok (.istore 4, 2) := by decide +kernel
theorem dL_law_23 : decode cL_law 23 = .ok (.iload 4, 2) := by decide +kernel
theorem dL_law_25 : decode cL_law 25 = .ok (.aload_n 0, 1) := by decide +kernel
theorem dL_law_26 : decode cL_law 26 = .ok (.arraylength, 1) := by decide +kernel
theorem dL_law_27 : decode cL_law 27 = .ok (.bipush 7, 2) := by decide +kernel
theorem dL_law_29 : decode cL_law 29 = .ok (.isub, 1) := by decide +kernel
theorem dL_law_30 : decode cL_law 30 = .ok (.if_icmp .gt 1963, 3) := by decide +kernel
theorem dL_law_33 : decode cL_law 33 = .ok (.aload_n 0, 1) := by decide +kernel
theorem dL_law_34 : decode cL_law 34 = .ok (.iload 4, 2) := by decide +kernel
theorem dL_law_36 : decode cL_law 36 = .ok (.iaload, 1) := by decide +kernel
theorem dL_law_37 : decode cL_law 37 = .ok (.bipush 31, 2) := by decide +kernel
theorem dL_law_39 : decode cL_law 39 = .ok (.iand, 1) := by decide +kernel
theorem dL_law_40 : decode cL_law 40 = .ok (.tableswitch 1947 0 31 #[144, 224, 342, 378, 434, 494, 574, 666, 722, 814, 827, 895, 908, 921, 934, 990, 1058, 1138, 1194, 1250, 1306, 1320, 1376, 1412, 1496, 1564, 1644, 1712, 1767, 1822, 1877, 1891], 144) := by decide +kernel
theorem dL_law_184 : decode cL_law 184 = .ok (.aload_n 1, 1) := by decide +kernel
theorem dL_law_185 : decode cL_law 185 = .ok (.aload_n 0, 1) := by decide +kernel
theorem dL_law_186 : decode cL_law 186 = .ok (.iload 4, 2) := by decide +kernel
theorem dL_law_188 : decode cL_law 188 = .ok (.iconst 1, 1) := by decide +kernel
theorem dL_law_189 : decode cL_law 189 = .ok (.iadd, 1) := by decide +kernel
theorem dL_law_190 : decode cL_law 190 = .ok (.iaload, 1) := by decide +kernel
theorem dL_law_191 : decode cL_law 191 = .ok (.aload_n 0, 1) := by decide +kernel
theorem dL_law_192 : decode cL_law 192 = .ok (.iload 4, 2) := by decide +kernel
theorem dL_law_194 : decode cL_law 194 = .ok (.iconst 2, 1) := by decide +kernel
theorem dL_law_195 : decode cL_law 195 = .ok (.iadd, 1) := by decide +kernel
theorem dL_law_196 : decode cL_law 196 = .ok (.iaload, 1) := by decide +kernel
theorem dL_law_197 : decode cL_law 197 = .ok (.aload_n 0, 1) := by decide +kernel
theorem dL_law_198 : decode cL_law 198 = .ok (.iload 4, 2) := by decide +kernel
theorem dL_law_200 : decode cL_law 200 = .ok (.iconst 3, 1) := by decide +kernel
theorem dL_law_201 : decode cL_law 201 = .ok (.iadd, 1) := by decide +kernel
theorem dL_law_202 : decode cL_law 202 = .ok (.iaload, 1) := by decide +kernel
theorem dL_law_203 : decode cL_law 203 = .ok (.aload_n 3, 1) := by decide +kernel
theorem dL_law_204 : decode cL_law 204 = .ok (.invokestatic 106, 3) := by decide +kernel
theorem dL_law_207 : decode cL_law 207 = .ok (.istore 5, 2) := by decide +kernel
theorem dL_law_209 : decode cL_law 209 = .ok (.aload_n 2, 1) := by decide +kernel
theorem dL_law_210 : decode cL_law 210 = .ok (.aload_n 0, 1) := by decide +kernel
theorem dL_law_211 : decode cL_law 211 = .ok (.iload 4, 2) := by decide +kernel
theorem dL_law_213 : decode cL_law 213 = .ok (.iconst 1, 1) := by decide +kernel
theorem dL_law_214 : decode cL_law 214 = .ok (.iadd, 1) := by decide +kernel
theorem dL_law_215 : decode cL_law 215 = .ok (.iaload, 1) := by decide +kernel
theorem dL_law_216 : decode cL_law 216 = .ok (.aload_n 0, 1) := by decide +kernel
theorem dL_law_217 : decode cL_law 217 = .ok (.iload 4, 2) := by decide +kernel
theorem dL_law_219 : decode cL_law 219 = .ok (.iconst 2, 1) := by decide +kernel
theorem dL_law_220 : decode cL_law 220 = .ok (.iadd, 1) := by decide +kernel
theorem dL_law_221 : decode cL_law 221 = .ok (.iaload, 1) := by decide +kernel
theorem dL_law_222 : decode cL_law 222 = .ok (.aload_n 0, 1) := by decide +kernel
theorem dL_law_223 : decode cL_law 223 = .ok (.iload 4, 2) := by decide +kernel
theorem dL_law_225 : decode cL_law 225 = .ok (.iconst 3, 1) := by decide +kernel
theorem dL_law_226 : decode cL_law 226 = .ok (.iadd, 1) := by decide +kernel
theorem dL_law_227 : decode cL_law 227 = .ok (.iaload, 1) := by decide +kernel
theorem dL_law_228 : decode cL_law 228 = .ok (.invokevirtual 111, 3) := by decide +kernel
theorem dL_law_231 : decode cL_law 231 = .ok (.istore 6, 2) := by decide +kernel
theorem dL_law_233 : decode cL_law 233 = .ok (.aload_n 2, 1) := by decide +kernel
theorem dL_law_234 : decode cL_law 234 = .ok (.invokevirtual 112, 3) := by decide +kernel
theorem dL_law_237 : decode cL_law 237 = .ok (.iload 5, 2) := by decide +kernel
theorem dL_law_239 : decode cL_law 239 = .ok (.if_icmp .eq 5, 3) := by decide +kernel
theorem dL_law_242 : decode cL_law 242 = .ok (.iconst 0, 1) := by decide +kernel
theorem dL_law_243 : decode cL_law 243 = .ok (.ireturn, 1) := by decide +kernel
theorem dL_law_244 : decode cL_law 244 = .ok (.iload 5, 2) := by decide +kernel
theorem dL_law_246 : decode cL_law 246 = .ok (.ifCond .ne 15, 3) := by decide +kernel
theorem dL_law_249 : decode cL_law 249 = .ok (.aload_n 3, 1) := by decide +kernel
theorem dL_law_250 : decode cL_law 250 = .ok (.iconst 0, 1) := by decide +kernel
theorem dL_law_251 : decode cL_law 251 = .ok (.laload, 1) := by decide +kernel
theorem dL_law_252 : decode cL_law 252 = .ok (.iload 6, 2) := by decide +kernel
theorem dL_law_254 : decode cL_law 254 = .ok (.i2l, 1) := by decide +kernel
theorem dL_law_255 : decode cL_law 255 = .ok (.lcmp, 1) := by decide +kernel
theorem dL_law_256 : decode cL_law 256 = .ok (.ifCond .eq 5, 3) := by decide +kernel
theorem dL_law_259 : decode cL_law 259 = .ok (.iconst 0, 1) := by decide +kernel
theorem dL_law_260 : decode cL_law 260 = .ok (.ireturn, 1) := by decide +kernel
theorem dL_law_261 : decode cL_law 261 = .ok (.goto 1726, 3) := by decide +kernel
theorem dL_law_264 : decode cL_law 264 = .ok (.aload_n 1, 1) := by decide +kernel
theorem dL_law_265 : decode cL_law 265 = .ok (.aload_n 0, 1) := by decide +kernel
theorem dL_law_266 : decode cL_law 266 = .ok (.iload 4, 2) := by decide +kernel
theorem dL_law_268 : decode cL_law 268 = .ok (.iconst 1, 1) := by decide +kernel
theorem dL_law_269 : decode cL_law 269 = .ok (.iadd, 1) := by decide +kernel
theorem dL_law_270 : decode cL_law 270 = .ok (.iaload, 1) := by decide +kernel
theorem dL_law_271 : decode cL_law 271 = .ok (.aload_n 0, 1) := by decide +kernel
theorem dL_law_272 : decode cL_law 272 = .ok (.iload 4, 2) := by decide +kernel
theorem dL_law_274 : decode cL_law 274 = .ok (.iconst 2, 1) := by decide +kernel
theorem dL_law_275 : decode cL_law 275 = .ok (.iadd, 1) := by decide +kernel
theorem dL_law_276 : decode cL_law 276 = .ok (.iaload, 1) := by decide +kernel
theorem dL_law_277 : decode cL_law 277 = .ok (.aload_n 0, 1) := by decide +kernel
theorem dL_law_278 : decode cL_law 278 = .ok (.iload 4, 2) := by decide +kernel
theorem dL_law_280 : decode cL_law 280 = .ok (.iconst 3, 1) := by decide +kernel
theorem dL_law_281 : decode cL_law 281 = .ok (.iadd, 1) := by decide +kernel
theorem dL_law_282 : decode cL_law 282 = .ok (.iaload, 1) := by decide +kernel
theorem dL_law_283 : decode cL_law 283 = .ok (.aload_n 0, 1) := by decide +kernel
theorem dL_law_284 : decode cL_law 284 = .ok (.iload 4, 2) := by decide +kernel
theorem dL_law_286 : decode cL_law 286 = .ok (.iconst 4, 1) := by decide +kernel
theorem dL_law_287 : decode cL_law 287 = .ok (.iadd, 1) := by decide +kernel
theorem dL_law_288 : decode cL_law 288 = .ok (.iaload, 1) := by decide +kernel
theorem dL_law_289 : decode cL_law 289 = .ok (.aload_n 0, 1) := by decide +kernel
theorem dL_law_290 : decode cL_law 290 = .ok (.iload 4, 2) := by decide +kernel
theorem dL_law_292 : decode cL_law 292 = .ok (.iconst 5, 1) := by decide +kernel
theorem dL_law_293 : decode cL_law 293 = .ok (.iadd, 1) := by decide +kernel
theorem dL_law_294 : decode cL_law 294 = .ok (.iaload, 1) := by decide +kernel
theorem dL_law_295 : decode cL_law 295 = .ok (.aload_n 0, 1) := by decide +kernel
theorem dL_law_296 : decode cL_law 296 = .ok (.iload 4, 2) := by decide +kernel
theorem dL_law_298 : decode cL_law 298 = .ok (.bipush 6, 2) := by decide +kernel
theorem dL_law_300 : decode cL_law 300 = .ok (.iadd, 1) := by decide +kernel
theorem dL_law_301 : decode cL_law 301 = .ok (.iaload, 1) := by decide +kernel
theorem dL_law_302 : decode cL_law 302 = .ok (.aload_n 3, 1) := by decide +kernel
theorem dL_law_303 : decode cL_law 303 = .ok (.invokestatic 116, 3) := by decide +kernel
theorem dL_law_306 : decode cL_law 306 = .ok (.istore 5, 2) := by decide +kernel
theorem dL_law_308 : decode cL_law 308 = .ok (.aload_n 2, 1) := by decide +kernel
theorem dL_law_309 : decode cL_law 309 = .ok (.aload_n 0, 1) := by decide +kernel
theorem dL_law_310 : decode cL_law 310 = .ok (.iload 4, 2) := by decide +kernel
theorem dL_law_312 : decode cL_law 312 = .ok (.iconst 1, 1) := by decide +kernel
theorem dL_law_313 : decode cL_law 313 = .ok (.iadd, 1) := by decide +kernel
theorem dL_law_314 : decode cL_law 314 = .ok (.iaload, 1) := by decide +kernel
theorem dL_law_315 : decode cL_law 315 = .ok (.aload_n 0, 1) := by decide +kernel
theorem dL_law_316 : decode cL_law 316 = .ok (.iload 4, 2) := by decide +kernel
theorem dL_law_318 : decode cL_law 318 = .ok (.iconst 2, 1) := by decide +kernel
theorem dL_law_319 : decode cL_law 319 = .ok (.iadd, 1) := by decide +kernel
theorem dL_law_320 : decode cL_law 320 = .ok (.iaload, 1) := by decide +kernel
theorem dL_law_321 : decode cL_law 321 = .ok (.aload_n 0, 1) := by decide +kernel
theorem dL_law_322 : decode cL_law 322 = .ok (.iload 4, 2) := by decide +kernel
theorem dL_law_324 : decode cL_law 324 = .ok (.iconst 3, 1) := by decide +kernel
theorem dL_law_325 : decode cL_law 325 = .ok (.iadd, 1) := by decide +kernel
theorem dL_law_326 : decode cL_law 326 = .ok (.iaload, 1) := by decide +kernel
theorem dL_law_327 : decode cL_law 327 = .ok (.aload_n 0, 1) := by decide +kernel
theorem dL_law_328 : decode cL_law 328 = .ok (.iload 4, 2) := by decide +kernel
theorem dL_law_330 : decode cL_law 330 = .ok (.iconst 4, 1) := by decide +kernel
theorem dL_law_331 : decode cL_law 331 = .ok (.iadd, 1) := by decide +kernel
theorem dL_law_332 : decode cL_law 332 = .ok (.iaload, 1) := by decide +kernel
theorem dL_law_333 : decode cL_law 333 = .ok (.aload_n 0, 1) := by decide +kernel
theorem dL_law_334 : decode cL_law 334 = .ok (.iload 4, 2) := by decide +kernel
theorem dL_law_336 : decode cL_law 336 = .ok (.iconst 5, 1) := by decide +kernel
theorem dL_law_337 : decode cL_law 337 = .ok (.iadd, 1) := by decide +kernel
theorem dL_law_338 : decode cL_law 338 = .ok (.iaload, 1) := by decide +kernel
theorem dL_law_339 : decode cL_law 339 = .ok (.aload_n 0, 1) := by decide +kernel
theorem dL_law_340 : decode cL_law 340 = .ok (.iload 4, 2) := by decide +kernel
theorem dL_law_342 : decode cL_law 342 = .ok (.bipush 6, 2) := by decide +kernel
theorem dL_law_344 : decode cL_law 344 = .ok (.iadd, 1) := by decide +kernel
theorem dL_law_345 : decode cL_law 345 = .ok (.iaload, 1) := by decide +kernel
theorem dL_law_346 : decode cL_law 346 = .ok (.invokevirtual 119, 3) := by decide +kernel
theorem dL_law_349 : decode cL_law 349 = .ok (.istore 6, 2) := by decide +kernel
theorem dL_law_351 : decode cL_law 351 = .ok (.aload_n 2, 1) := by decide +kernel
theorem dL_law_352 : decode cL_law 352 = .ok (.invokevirtual 112, 3) := by decide +kernel
theorem dL_law_355 : decode cL_law 355 = .ok (.iload 5, 2) := by decide +kernel
theorem dL_law_357 : decode cL_law 357 = .ok (.if_icmp .eq 5, 3) := by decide +kernel
theorem dL_law_360 : decode cL_law 360 = .ok (.iconst 0, 1) := by decide +kernel
theorem dL_law_361 : decode cL_law 361 = .ok (.ireturn, 1) := by decide +kernel
theorem dL_law_362 : decode cL_law 362 = .ok (.iload 5, 2) := by decide +kernel
theorem dL_law_364 : decode cL_law 364 = .ok (.ifCond .ne 15, 3) := by decide +kernel
theorem dL_law_367 : decode cL_law 367 = .ok (.aload_n 3, 1) := by decide +kernel
theorem dL_law_368 : decode cL_law 368 = .ok (.iconst 0, 1) := by decide +kernel
theorem dL_law_369 : decode cL_law 369 = .ok (.laload, 1) := by decide +kernel
theorem dL_law_370 : decode cL_law 370 = .ok (.iload 6, 2) := by decide +kernel
theorem dL_law_372 : decode cL_law 372 = .ok (.i2l, 1) := by decide +kernel
theorem dL_law_373 : decode cL_law 373 = .ok (.lcmp, 1) := by decide +kernel
theorem dL_law_374 : decode cL_law 374 = .ok (.ifCond .eq 5, 3) := by decide +kernel
theorem dL_law_377 : decode cL_law 377 = .ok (.iconst 0, 1) := by decide +kernel
theorem dL_law_378 : decode cL_law 378 = .ok (.ireturn, 1) := by decide +kernel
theorem dL_law_379 : decode cL_law 379 = .ok (.goto 1608, 3) := by decide +kernel
theorem dL_law_382 : decode cL_law 382 = .ok (.aload_n 1, 1) := by decide +kernel
theorem dL_law_383 : decode cL_law 383 = .ok (.aload_n 0, 1) := by decide +kernel
theorem dL_law_384 : decode cL_law 384 = .ok (.iload 4, 2) := by decide +kernel
theorem dL_law_386 : decode cL_law 386 = .ok (.iconst 1, 1) := by decide +kernel
theorem dL_law_387 : decode cL_law 387 = .ok (.iadd, 1) := by decide +kernel
theorem dL_law_388 : decode cL_law 388 = .ok (.iaload, 1) := by decide +kernel
theorem dL_law_389 : decode cL_law 389 = .ok (.invokestatic 120, 3) := by decide +kernel
theorem dL_law_392 : decode cL_law 392 = .ok (.istore 5, 2) := by decide +kernel
theorem dL_law_394 : decode cL_law 394 = .ok (.aload_n 2, 1) := by decide +kernel
theorem dL_law_395 : decode cL_law 395 = .ok (.aload_n 0, 1) := by decide +kernel
theorem dL_law_396 : decode cL_law 396 = .ok (.iload 4, 2) := by decide +kernel
theorem dL_law_398 : decode cL_law 398 = .ok (.iconst 1, 1) := by decide +kernel
theorem dL_law_399 : decode cL_law 399 = .ok (.iadd, 1) := by decide +kernel
theorem dL_law_400 : decode cL_law 400 = .ok (.iaload, 1) := by decide +kernel
theorem dL_law_401 : decode cL_law 401 = .ok (.invokevirtual 123, 3) := by decide +kernel
theorem dL_law_404 : decode cL_law 404 = .ok (.aload_n 2, 1) := by decide +kernel
theorem dL_law_405 : decode cL_law 405 = .ok (.invokevirtual 112, 3) := by decide +kernel
theorem dL_law_408 : decode cL_law 408 = .ok (.iload 5, 2) := by decide +kernel
theorem dL_law_410 : decode cL_law 410 = .ok (.if_icmp .eq 5, 3) := by decide +kernel
theorem dL_law_413 : decode cL_law 413 = .ok (.iconst 0, 1) := by decide +kernel
theorem dL_law_414 : decode cL_law 414 = .ok (.ireturn, 1) := by decide +kernel
theorem dL_law_415 : decode cL_law 415 = .ok (.goto 1572, 3) := by decide +kernel
theorem dL_law_418 : decode cL_law 418 = .ok (.aload_n 1, 1) := by decide +kernel
theorem dL_law_419 : decode cL_law 419 = .ok (.aload_n 0, 1) := by decide +kernel
theorem dL_law_420 : decode cL_law 420 = .ok (.iload 4, 2) := by decide +kernel
theorem dL_law_422 : decode cL_law 422 = .ok (.iconst 1, 1) := by decide +kernel
theorem dL_law_423 : decode cL_law 423 = .ok (.iadd, 1) := by decide +kernel
theorem dL_law_424 : decode cL_law 424 = .ok (.iaload, 1) := by decide +kernel
theorem dL_law_425 : decode cL_law 425 = .ok (.aload_n 3, 1) := by decide +kernel
theorem dL_law_426 : decode cL_law 426 = .ok (.invokestatic 124, 3) := by decide +kernel
theorem dL_law_429 : decode cL_law 429 = .ok (.istore 5, 2) := by decide +kernel
theorem dL_law_431 : decode cL_law 431 = .ok (.aload_n 2, 1) := by decide +kernel
theorem dL_law_432 : decode cL_law 432 = .ok (.aload_n 0, 1) := by decide +kernel
theorem dL_law_433 : decode cL_law 433 = .ok (.iload 4, 2) := by decide +kernel
theorem dL_law_435 : decode cL_law 435 = .ok (.iconst 1, 1) := by decide +kernel
theorem dL_law_436 : decode cL_law 436 = .ok (.iadd, 1) := by decide +kernel
theorem dL_law_437 : decode cL_law 437 = .ok (.iaload, 1) := by decide +kernel
theorem dL_law_438 : decode cL_law 438 = .ok (.invokevirtual 127, 3) := by decide +kernel
theorem dL_law_441 : decode cL_law 441 = .ok (.istore 6, 2) := by decide +kernel
theorem dL_law_443 : decode cL_law 443 = .ok (.aload_n 2, 1) := by decide +kernel
theorem dL_law_444 : decode cL_law 444 = .ok (.invokevirtual 112, 3) := by decide +kernel
theorem dL_law_447 : decode cL_law 447 = .ok (.iload 5, 2) := by decide +kernel
theorem dL_law_449 : decode cL_law 449 = .ok (.if_icmp .eq 5, 3) := by decide +kernel
theorem dL_law_452 : decode cL_law 452 = .ok (.iconst 0, 1) := by decide +kernel
theorem dL_law_453 : decode cL_law 453 = .ok (.ireturn, 1) := by decide +kernel
theorem dL_law_454 : decode cL_law 454 = .ok (.iload 5, 2) := by decide +kernel
theorem dL_law_456 : decode cL_law 456 = .ok (.ifCond .ne 15, 3) := by decide +kernel
theorem dL_law_459 : decode cL_law 459 = .ok (.aload_n 3, 1) := by decide +kernel
theorem dL_law_460 : decode cL_law 460 = .ok (.iconst 0, 1) := by decide +kernel
theorem dL_law_461 : decode cL_law 461 = .ok (.laload, 1) := by decide +kernel
theorem dL_law_462 : decode cL_law 462 = .ok (.iload 6, 2) := by decide +kernel
theorem dL_law_464 : decode cL_law 464 = .ok (.i2l, 1) := by decide +kernel
theorem dL_law_465 : decode cL_law 465 = .ok (.lcmp, 1) := by decide +kernel
theorem dL_law_466 : decode cL_law 466 = .ok (.ifCond .eq 5, 3) := by decide +kernel
theorem dL_law_469 : decode cL_law 469 = .ok (.iconst 0, 1) := by decide +kernel
theorem dL_law_470 : decode cL_law 470 = .ok (.ireturn, 1) := by decide +kernel
theorem dL_law_471 : decode cL_law 471 = .ok (.goto 1516, 3) := by decide +kernel
theorem dL_law_474 : decode cL_law 474 = .ok (.aload_n 1, 1) := by decide +kernel
theorem dL_law_475 : decode cL_law 475 = .ok (.aload_n 0, 1) := by decide +kernel
theorem dL_law_476 : decode cL_law 476 = .ok (.iload 4, 2) := by decide +kernel
theorem dL_law_478 : decode cL_law 478 = .ok (.iconst 1, 1) := by decide +kernel
theorem dL_law_479 : decode cL_law 479 = .ok (.iadd, 1) := by decide +kernel
theorem dL_law_480 : decode cL_law 480 = .ok (.iaload, 1) := by decide +kernel
theorem dL_law_481 : decode cL_law 481 = .ok (.aload_n 0, 1) := by decide +kernel
theorem dL_law_482 : decode cL_law 482 = .ok (.iload 4, 2) := by decide +kernel
theorem dL_law_484 : decode cL_law 484 = .ok (.iconst 2, 1) := by decide +kernel
theorem dL_law_485 : decode cL_law 485 = .ok (.iadd, 1) := by decide +kernel
theorem dL_law_486 : decode cL_law 486 = .ok (.iaload, 1) := by decide +kernel
theorem dL_law_487 : decode cL_law 487 = .ok (.aload_n 0, 1) := by decide +kernel
theorem dL_law_488 : decode cL_law 488 = .ok (.iload 4, 2) := by decide +kernel
theorem dL_law_490 : decode cL_law 490 = .ok (.iconst 3, 1) := by decide +kernel
theorem dL_law_491 : decode cL_law 491 = .ok (.iadd, 1) := by decide +kernel
theorem dL_law_492 : decode cL_law 492 = .ok (.iaload, 1) := by decide +kernel
theorem dL_law_493 : decode cL_law 493 = .ok (.invokestatic 128, 3) := by decide +kernel
theorem dL_law_496 : decode cL_law 496 = .ok (.istore 5, 2) := by decide +kernel
theorem dL_law_498 : decode cL_law 498 = .ok (.aload_n 2, 1) := by decide +kernel
theorem dL_law_499 : decode cL_law 499 = .ok (.aload_n 0, 1) := by decide +kernel
theorem dL_law_500 : decode cL_law 500 = .ok (.iload 4, 2) := by decide +kernel
theorem dL_law_502 : decode cL_law 502 = .ok (.iconst 1, 1) := by decide +kernel
theorem dL_law_503 : decode cL_law 503 = .ok (.iadd, 1) := by decide +kernel
theorem dL_law_504 : decode cL_law 504 = .ok (.iaload, 1) := by decide +kernel
theorem dL_law_505 : decode cL_law 505 = .ok (.aload_n 0, 1) := by decide +kernel
theorem dL_law_506 : decode cL_law 506 = .ok (.iload 4, 2) := by decide +kernel
theorem dL_law_508 : decode cL_law 508 = .ok (.iconst 2, 1) := by decide +kernel
theorem dL_law_509 : decode cL_law 509 = .ok (.iadd, 1) := by decide +kernel
theorem dL_law_510 : decode cL_law 510 = .ok (.iaload, 1) := by decide +kernel
theorem dL_law_511 : decode cL_law 511 = .ok (.aload_n 0, 1) := by decide +kernel
theorem dL_law_512 : decode cL_law 512 = .ok (.iload 4, 2) := by decide +kernel
theorem dL_law_514 : decode cL_law 514 = .ok (.iconst 3, 1) := by decide +kernel
theorem dL_law_515 : decode cL_law 515 = .ok (.iadd, 1) := by decide +kernel
theorem dL_law_516 : decode cL_law 516 = .ok (.iaload, 1) := by decide +kernel
theorem dL_law_517 : decode cL_law 517 = .ok (.invokevirtual 131, 3) := by decide +kernel
theorem dL_law_520 : decode cL_law 520 = .ok (.aload_n 2, 1) := by decide +kernel
theorem dL_law_521 : decode cL_law 521 = .ok (.invokevirtual 112, 3) := by decide +kernel
theorem dL_law_524 : decode cL_law 524 = .ok (.iload 5, 2) := by decide +kernel
theorem dL_law_526 : decode cL_law 526 = .ok (.if_icmp .eq 5, 3) := by decide +kernel
theorem dL_law_529 : decode cL_law 529 = .ok (.iconst 0, 1) := by decide +kernel
theorem dL_law_530 : decode cL_law 530 = .ok (.ireturn, 1) := by decide +kernel
theorem dL_law_531 : decode cL_law 531 = .ok (.goto 1456, 3) := by decide +kernel
theorem dL_law_534 : decode cL_law 534 = .ok (.aload_n 1, 1) := by decide +kernel
theorem dL_law_535 : decode cL_law 535 = .ok (.aload_n 0, 1) := by decide +kernel
theorem dL_law_536 : decode cL_law 536 = .ok (.iload 4, 2) := by decide +kernel
theorem dL_law_538 : decode cL_law 538 = .ok (.iconst 1, 1) := by decide +kernel
theorem dL_law_539 : decode cL_law 539 = .ok (.iadd, 1) := by decide +kernel
theorem dL_law_540 : decode cL_law 540 = .ok (.iaload, 1) := by decide +kernel
theorem dL_law_541 : decode cL_law 541 = .ok (.aload_n 0, 1) := by decide +kernel
theorem dL_law_542 : decode cL_law 542 = .ok (.iload 4, 2) := by decide +kernel
theorem dL_law_544 : decode cL_law 544 = .ok (.iconst 2, 1) := by decide +kernel
theorem dL_law_545 : decode cL_law 545 = .ok (.iadd, 1) := by decide +kernel
theorem dL_law_546 : decode cL_law 546 = .ok (.iaload, 1) := by decide +kernel
theorem dL_law_547 : decode cL_law 547 = .ok (.aload_n 0, 1) := by decide +kernel
theorem dL_law_548 : decode cL_law 548 = .ok (.iload 4, 2) := by decide +kernel
theorem dL_law_550 : decode cL_law 550 = .ok (.iconst 3, 1) := by decide +kernel
theorem dL_law_551 : decode cL_law 551 = .ok (.iadd, 1) := by decide +kernel
theorem dL_law_552 : decode cL_law 552 = .ok (.iaload, 1) := by decide +kernel
theorem dL_law_553 : decode cL_law 553 = .ok (.aload_n 3, 1) := by decide +kernel
theorem dL_law_554 : decode cL_law 554 = .ok (.invokestatic 132, 3) := by decide +kernel
theorem dL_law_557 : decode cL_law 557 = .ok (.istore 5, 2) := by decide +kernel
theorem dL_law_559 : decode cL_law 559 = .ok (.aload_n 2, 1) := by decide +kernel
theorem dL_law_560 : decode cL_law 560 = .ok (.aload_n 0, 1) := by decide +kernel
theorem dL_law_561 : decode cL_law 561 = .ok (.iload 4, 2) := by decide +kernel
theorem dL_law_563 : decode cL_law 563 = .ok (.iconst 1, 1) := by decide +kernel
theorem dL_law_564 : decode cL_law 564 = .ok (.iadd, 1) := by decide +kernel
theorem dL_law_565 : decode cL_law 565 = .ok (.iaload, 1) := by decide +kernel
theorem dL_law_566 : decode cL_law 566 = .ok (.aload_n 0, 1) := by decide +kernel
theorem dL_law_567 : decode cL_law 567 = .ok (.iload 4, 2) := by decide +kernel
theorem dL_law_569 : decode cL_law 569 = .ok (.iconst 2, 1) := by decide +kernel
theorem dL_law_570 : decode cL_law 570 = .ok (.iadd, 1) := by decide +kernel
theorem dL_law_571 : decode cL_law 571 = .ok (.iaload, 1) := by decide +kernel
theorem dL_law_572 : decode cL_law 572 = .ok (.aload_n 0, 1) := by decide +kernel
theorem dL_law_573 : decode cL_law 573 = .ok (.iload 4, 2) := by decide +kernel
theorem dL_law_575 : decode cL_law 575 = .ok (.iconst 3, 1) := by decide +kernel
theorem dL_law_576 : decode cL_law 576 = .ok (.iadd, 1) := by decide +kernel
theorem dL_law_577 : decode cL_law 577 = .ok (.iaload, 1) := by decide +kernel
theorem dL_law_578 : decode cL_law 578 = .ok (.invokevirtual 134, 3) := by decide +kernel
theorem dL_law_581 : decode cL_law 581 = .ok (.istore 6, 2) := by decide +kernel
theorem dL_law_583 : decode cL_law 583 = .ok (.aload_n 2, 1) := by decide +kernel
theorem dL_law_584 : decode cL_law 584 = .ok (.invokevirtual 112, 3) := by decide +kernel
theorem dL_law_587 : decode cL_law 587 = .ok (.iload 5, 2) := by decide +kernel
theorem dL_law_589 : decode cL_law 589 = .ok (.if_icmp .eq 5, 3) := by decide +kernel
theorem dL_law_592 : decode cL_law 592 = .ok (.iconst 0, 1) := by decide +kernel
theorem dL_law_593 : decode cL_law 593 = .ok (.ireturn, 1) := by decide +kernel
theorem dL_law_594 : decode cL_law 594 = .ok (.iload 5, 2) := by decide +kernel
theorem dL_law_596 : decode cL_law 596 = .ok (.ifCond .ne 15, 3) := by decide +kernel
theorem dL_law_599 : decode cL_law 599 = .ok (.aload_n 3, 1) := by decide +kernel
theorem dL_law_600 : decode cL_law 600 = .ok (.iconst 0, 1) := by decide +kernel
theorem dL_law_601 : decode cL_law 601 = .ok (.laload, 1) := by decide +kernel
theorem dL_law_602 : decode cL_law 602 = .ok (.iload 6, 2) := by decide +kernel
theorem dL_law_604 : decode cL_law 604 = .ok (.i2l, 1) := by decide +kernel
theorem dL_law_605 : decode cL_law 605 = .ok (.lcmp, 1) := by decide +kernel
theorem dL_law_606 : decode cL_law 606 = .ok (.ifCond .eq 5, 3) := by decide +kernel
theorem dL_law_609 : decode cL_law 609 = .ok (.iconst 0, 1) := by decide +kernel
theorem dL_law_610 : decode cL_law 610 = .ok (.ireturn, 1) := by decide +kernel
theorem dL_law_611 : decode cL_law 611 = .ok (.goto 1376, 3) := by decide +kernel
theorem dL_law_614 : decode cL_law 614 = .ok (.aload_n 1, 1) := by decide +kernel
theorem dL_law_615 : decode cL_law 615 = .ok (.aload_n 0, 1) := by decide +kernel
theorem dL_law_616 : decode cL_law 616 = .ok (.iload 4, 2) := by decide +kernel
theorem dL_law_618 : decode cL_law 618 = .ok (.iconst 1, 1) := by decide +kernel
theorem dL_law_619 : decode cL_law 619 = .ok (.iadd, 1) := by decide +kernel
theorem dL_law_620 : decode cL_law 620 = .ok (.iaload, 1) := by decide +kernel
theorem dL_law_621 : decode cL_law 621 = .ok (.aload_n 0, 1) := by decide +kernel
theorem dL_law_622 : decode cL_law 622 = .ok (.iload 4, 2) := by decide +kernel
theorem dL_law_624 : decode cL_law 624 = .ok (.iconst 2, 1) := by decide +kernel
theorem dL_law_625 : decode cL_law 625 = .ok (.iadd, 1) := by decide +kernel
theorem dL_law_626 : decode cL_law 626 = .ok (.iaload, 1) := by decide +kernel
theorem dL_law_627 : decode cL_law 627 = .ok (.aload_n 0, 1) := by decide +kernel
theorem dL_law_628 : decode cL_law 628 = .ok (.iload 4, 2) := by decide +kernel
theorem dL_law_630 : decode cL_law 630 = .ok (.iconst 3, 1) := by decide +kernel
theorem dL_law_631 : decode cL_law 631 = .ok (.iadd, 1) := by decide +kernel
theorem dL_law_632 : decode cL_law 632 = .ok (.iaload, 1) := by decide +kernel
theorem dL_law_633 : decode cL_law 633 = .ok (.aload_n 0, 1) := by decide +kernel
theorem dL_law_634 : decode cL_law 634 = .ok (.iload 4, 2) := by decide +kernel
theorem dL_law_636 : decode cL_law 636 = .ok (.iconst 4, 1) := by decide +kernel
theorem dL_law_637 : decode cL_law 637 = .ok (.iadd, 1) := by decide +kernel
theorem dL_law_638 : decode cL_law 638 = .ok (.iaload, 1) := by decide +kernel
theorem dL_law_639 : decode cL_law 639 = .ok (.aload_n 3, 1) := by decide +kernel
theorem dL_law_640 : decode cL_law 640 = .ok (.invokestatic 135, 3) := by decide +kernel
theorem dL_law_643 : decode cL_law 643 = .ok (.istore 5, 2) := by decide +kernel
theorem dL_law_645 : decode cL_law 645 = .ok (.aload_n 2, 1) := by decide +kernel
theorem dL_law_646 : decode cL_law 646 = .ok (.aload_n 0, 1) := by decide +kernel
theorem dL_law_647 : decode cL_law 647 = .ok (.iload 4, 2) := by decide +kernel
theorem dL_law_649 : decode cL_law 649 = .ok (.iconst 1, 1) := by decide +kernel
theorem dL_law_650 : decode cL_law 650 = .ok (.iadd, 1) := by decide +kernel
theorem dL_law_651 : decode cL_law 651 = .ok (.iaload, 1) := by decide +kernel
theorem dL_law_652 : decode cL_law 652 = .ok (.aload_n 0, 1) := by decide +kernel
theorem dL_law_653 : decode cL_law 653 = .ok (.iload 4, 2) := by decide +kernel
theorem dL_law_655 : decode cL_law 655 = .ok (.iconst 2, 1) := by decide +kernel
theorem dL_law_656 : decode cL_law 656 = .ok (.iadd, 1) := by decide +kernel
theorem dL_law_657 : decode cL_law 657 = .ok (.iaload, 1) := by decide +kernel
theorem dL_law_658 : decode cL_law 658 = .ok (.aload_n 0, 1) := by decide +kernel
theorem dL_law_659 : decode cL_law 659 = .ok (.iload 4, 2) := by decide +kernel
theorem dL_law_661 : decode cL_law 661 = .ok (.iconst 3, 1) := by decide +kernel
theorem dL_law_662 : decode cL_law 662 = .ok (.iadd, 1) := by decide +kernel
theorem dL_law_663 : decode cL_law 663 = .ok (.iaload, 1) := by decide +kernel
theorem dL_law_664 : decode cL_law 664 = .ok (.aload_n 0, 1) := by decide +kernel
theorem dL_law_665 : decode cL_law 665 = .ok (.iload 4, 2) := by decide +kernel
theorem dL_law_667 : decode cL_law 667 = .ok (.iconst 4, 1) := by decide +kernel
theorem dL_law_668 : decode cL_law 668 = .ok (.iadd, 1) := by decide +kernel
theorem dL_law_669 : decode cL_law 669 = .ok (.iaload, 1) := by decide +kernel
theorem dL_law_670 : decode cL_law 670 = .ok (.invokevirtual 138, 3) := by decide +kernel
theorem dL_law_673 : decode cL_law 673 = .ok (.istore 6, 2) := by decide +kernel
theorem dL_law_675 : decode cL_law 675 = .ok (.aload_n 2, 1) := by decide +kernel
theorem dL_law_676 : decode cL_law 676 = .ok (.invokevirtual 112, 3) := by decide +kernel
theorem dL_law_679 : decode cL_law 679 = .ok (.iload 5, 2) := by decide +kernel
theorem dL_law_681 : decode cL_law 681 = .ok (.if_icmp .eq 5, 3) := by decide +kernel
theorem dL_law_684 : decode cL_law 684 = .ok (.iconst 0, 1) := by decide +kernel
theorem dL_law_685 : decode cL_law 685 = .ok (.ireturn, 1) := by decide +kernel
theorem dL_law_686 : decode cL_law 686 = .ok (.iload 5, 2) := by decide +kernel
theorem dL_law_688 : decode cL_law 688 = .ok (.ifCond .ne 15, 3) := by decide +kernel
theorem dL_law_691 : decode cL_law 691 = .ok (.aload_n 3, 1) := by decide +kernel
theorem dL_law_692 : decode cL_law 692 = .ok (.iconst 0, 1) := by decide +kernel
theorem dL_law_693 : decode cL_law 693 = .ok (.laload, 1) := by decide +kernel
theorem dL_law_694 : decode cL_law 694 = .ok (.iload 6, 2) := by decide +kernel
theorem dL_law_696 : decode cL_law 696 = .ok (.i2l, 1) := by decide +kernel
theorem dL_law_697 : decode cL_law 697 = .ok (.lcmp, 1) := by decide +kernel
theorem dL_law_698 : decode cL_law 698 = .ok (.ifCond .eq 5, 3) := by decide +kernel
theorem dL_law_701 : decode cL_law 701 = .ok (.iconst 0, 1) := by decide +kernel
theorem dL_law_702 : decode cL_law 702 = .ok (.ireturn, 1) := by decide +kernel
theorem dL_law_703 : decode cL_law 703 = .ok (.goto 1284, 3) := by decide +kernel
theorem dL_law_706 : decode cL_law 706 = .ok (.aload_n 1, 1) := by decide +kernel
theorem dL_law_707 : decode cL_law 707 = .ok (.aload_n 0, 1) := by decide +kernel
theorem dL_law_708 : decode cL_law 708 = .ok (.iload 4, 2) := by decide +kernel
theorem dL_law_710 : decode cL_law 710 = .ok (.iconst 1, 1) := by decide +kernel
theorem dL_law_711 : decode cL_law 711 = .ok (.iadd, 1) := by decide +kernel
theorem dL_law_712 : decode cL_law 712 = .ok (.iaload, 1) := by decide +kernel
theorem dL_law_713 : decode cL_law 713 = .ok (.aload_n 3, 1) := by decide +kernel
theorem dL_law_714 : decode cL_law 714 = .ok (.invokestatic 139, 3) := by decide +kernel
theorem dL_law_717 : decode cL_law 717 = .ok (.istore 5, 2) := by decide +kernel
theorem dL_law_719 : decode cL_law 719 = .ok (.aload_n 2, 1) := by decide +kernel
theorem dL_law_720 : decode cL_law 720 = .ok (.aload_n 0, 1) := by decide +kernel
theorem dL_law_721 : decode cL_law 721 = .ok (.iload 4, 2) := by decide +kernel
theorem dL_law_723 : decode cL_law 723 = .ok (.iconst 1, 1) := by decide +kernel
theorem dL_law_724 : decode cL_law 724 = .ok (.iadd, 1) := by decide +kernel
theorem dL_law_725 : decode cL_law 725 = .ok (.iaload, 1) := by decide +kernel
theorem dL_law_726 : decode cL_law 726 = .ok (.invokevirtual 141, 3) := by decide +kernel
theorem dL_law_729 : decode cL_law 729 = .ok (.istore 6, 2) := by decide +kernel
theorem dL_law_731 : decode cL_law 731 = .ok (.aload_n 2, 1) := by decide +kernel
theorem dL_law_732 : decode cL_law 732 = .ok (.invokevirtual 112, 3) := by decide +kernel
theorem dL_law_735 : decode cL_law 735 = .ok (.iload 5, 2) := by decide +kernel
theorem dL_law_737 : decode cL_law 737 = .ok (.if_icmp .eq 5, 3) := by decide +kernel
theorem dL_law_740 : decode cL_law 740 = .ok (.iconst 0, 1) := by decide +kernel
theorem dL_law_741 : decode cL_law 741 = .ok (.ireturn, 1) := by decide +kernel
theorem dL_law_742 : decode cL_law 742 = .ok (.iload 5, 2) := by decide +kernel
theorem dL_law_744 : decode cL_law 744 = .ok (.ifCond .ne 15, 3) := by decide +kernel
theorem dL_law_747 : decode cL_law 747 = .ok (.aload_n 3, 1) := by decide +kernel
theorem dL_law_748 : decode cL_law 748 = .ok (.iconst 0, 1) := by decide +kernel
theorem dL_law_749 : decode cL_law 749 = .ok (.laload, 1) := by decide +kernel
theorem dL_law_750 : decode cL_law 750 = .ok (.iload 6, 2) := by decide +kernel
theorem dL_law_752 : decode cL_law 752 = .ok (.i2l, 1) := by decide +kernel
theorem dL_law_753 : decode cL_law 753 = .ok (.lcmp, 1) := by decide +kernel
theorem dL_law_754 : decode cL_law 754 = .ok (.ifCond .eq 5, 3) := by decide +kernel
theorem dL_law_757 : decode cL_law 757 = .ok (.iconst 0, 1) := by decide +kernel
theorem dL_law_758 : decode cL_law 758 = .ok (.ireturn, 1) := by decide +kernel
theorem dL_law_759 : decode cL_law 759 = .ok (.goto 1228, 3) := by decide +kernel
theorem dL_law_762 : decode cL_law 762 = .ok (.aload_n 1, 1) := by decide +kernel
theorem dL_law_763 : decode cL_law 763 = .ok (.aload_n 0, 1) := by decide +kernel
theorem dL_law_764 : decode cL_law 764 = .ok (.iload 4, 2) := by decide +kernel
theorem dL_law_766 : decode cL_law 766 = .ok (.iconst 1, 1) := by decide +kernel
theorem dL_law_767 : decode cL_law 767 = .ok (.iadd, 1) := by decide +kernel
theorem dL_law_768 : decode cL_law 768 = .ok (.iaload, 1) := by decide +kernel
theorem dL_law_769 : decode cL_law 769 = .ok (.aload_n 0, 1) := by decide +kernel
theorem dL_law_770 : decode cL_law 770 = .ok (.iload 4, 2) := by decide +kernel
theorem dL_law_772 : decode cL_law 772 = .ok (.iconst 2, 1) := by decide +kernel
theorem dL_law_773 : decode cL_law 773 = .ok (.iadd, 1) := by decide +kernel
theorem dL_law_774 : decode cL_law 774 = .ok (.iaload, 1) := by decide +kernel
theorem dL_law_775 : decode cL_law 775 = .ok (.aload_n 0, 1) := by decide +kernel
theorem dL_law_776 : decode cL_law 776 = .ok (.iload 4, 2) := by decide +kernel
theorem dL_law_778 : decode cL_law 778 = .ok (.iconst 3, 1) := by decide +kernel
theorem dL_law_779 : decode cL_law 779 = .ok (.iadd, 1) := by decide +kernel
theorem dL_law_780 : decode cL_law 780 = .ok (.iaload, 1) := by decide +kernel
theorem dL_law_781 : decode cL_law 781 = .ok (.aload_n 0, 1) := by decide +kernel
theorem dL_law_782 : decode cL_law 782 = .ok (.iload 4, 2) := by decide +kernel
theorem dL_law_784 : decode cL_law 784 = .ok (.iconst 4, 1) := by decide +kernel
theorem dL_law_785 : decode cL_law 785 = .ok (.iadd, 1) := by decide +kernel
theorem dL_law_786 : decode cL_law 786 = .ok (.iaload, 1) := by decide +kernel
theorem dL_law_787 : decode cL_law 787 = .ok (.aload_n 3, 1) := by decide +kernel
theorem dL_law_788 : decode cL_law 788 = .ok (.invokestatic 142, 3) := by decide +kernel
theorem dL_law_791 : decode cL_law 791 = .ok (.istore 5, 2) := by decide +kernel
theorem dL_law_793 : decode cL_law 793 = .ok (.aload_n 2, 1) := by decide +kernel
theorem dL_law_794 : decode cL_law 794 = .ok (.aload_n 0, 1) := by decide +kernel
theorem dL_law_795 : decode cL_law 795 = .ok (.iload 4, 2) := by decide +kernel
theorem dL_law_797 : decode cL_law 797 = .ok (.iconst 1, 1) := by decide +kernel
theorem dL_law_798 : decode cL_law 798 = .ok (.iadd, 1) := by decide +kernel
theorem dL_law_799 : decode cL_law 799 = .ok (.iaload, 1) := by decide +kernel
theorem dL_law_800 : decode cL_law 800 = .ok (.aload_n 0, 1) := by decide +kernel
theorem dL_law_801 : decode cL_law 801 = .ok (.iload 4, 2) := by decide +kernel
theorem dL_law_803 : decode cL_law 803 = .ok (.iconst 2, 1) := by decide +kernel
theorem dL_law_804 : decode cL_law 804 = .ok (.iadd, 1) := by decide +kernel
theorem dL_law_805 : decode cL_law 805 = .ok (.iaload, 1) := by decide +kernel
theorem dL_law_806 : decode cL_law 806 = .ok (.aload_n 0, 1) := by decide +kernel
theorem dL_law_807 : decode cL_law 807 = .ok (.iload 4, 2) := by decide +kernel
theorem dL_law_809 : decode cL_law 809 = .ok (.iconst 3, 1) := by decide +kernel
theorem dL_law_810 : decode cL_law 810 = .ok (.iadd, 1) := by decide +kernel
theorem dL_law_811 : decode cL_law 811 = .ok (.iaload, 1) := by decide +kernel
theorem dL_law_812 : decode cL_law 812 = .ok (.aload_n 0, 1) := by decide +kernel
theorem dL_law_813 : decode cL_law 813 = .ok (.iload 4, 2) := by decide +kernel
theorem dL_law_815 : decode cL_law 815 = .ok (.iconst 4, 1) := by decide +kernel
theorem dL_law_816 : decode cL_law 816 = .ok (.iadd, 1) := by decide +kernel
theorem dL_law_817 : decode cL_law 817 = .ok (.iaload, 1) := by decide +kernel
theorem dL_law_818 : decode cL_law 818 = .ok (.invokevirtual 144, 3) := by decide +kernel
theorem dL_law_821 : decode cL_law 821 = .ok (.istore 6, 2) := by decide +kernel
theorem dL_law_823 : decode cL_law 823 = .ok (.aload_n 2, 1) := by decide +kernel
theorem dL_law_824 : decode cL_law 824 = .ok (.invokevirtual 112, 3) := by decide +kernel
theorem dL_law_827 : decode cL_law 827 = .ok (.iload 5, 2) := by decide +kernel
theorem dL_law_829 : decode cL_law 829 = .ok (.if_icmp .eq 5, 3) := by decide +kernel
theorem dL_law_832 : decode cL_law 832 = .ok (.iconst 0, 1) := by decide +kernel
theorem dL_law_833 : decode cL_law 833 = .ok (.ireturn, 1) := by decide +kernel
theorem dL_law_834 : decode cL_law 834 = .ok (.iload 5, 2) := by decide +kernel
theorem dL_law_836 : decode cL_law 836 = .ok (.ifCond .ne 15, 3) := by decide +kernel
theorem dL_law_839 : decode cL_law 839 = .ok (.aload_n 3, 1) := by decide +kernel
theorem dL_law_840 : decode cL_law 840 = .ok (.iconst 0, 1) := by decide +kernel
theorem dL_law_841 : decode cL_law 841 = .ok (.laload, 1) := by decide +kernel
theorem dL_law_842 : decode cL_law 842 = .ok (.iload 6, 2) := by decide +kernel
theorem dL_law_844 : decode cL_law 844 = .ok (.i2l, 1) := by decide +kernel
theorem dL_law_845 : decode cL_law 845 = .ok (.lcmp, 1) := by decide +kernel
theorem dL_law_846 : decode cL_law 846 = .ok (.ifCond .eq 5, 3) := by decide +kernel
theorem dL_law_849 : decode cL_law 849 = .ok (.iconst 0, 1) := by decide +kernel
theorem dL_law_850 : decode cL_law 850 = .ok (.ireturn, 1) := by decide +kernel
theorem dL_law_851 : decode cL_law 851 = .ok (.goto 1136, 3) := by decide +kernel
theorem dL_law_854 : decode cL_law 854 = .ok (.aload_n 1, 1) := by decide +kernel
theorem dL_law_855 : decode cL_law 855 = .ok (.invokevirtual 145, 3) := by decide +kernel
theorem dL_law_858 : decode cL_law 858 = .ok (.aload_n 2, 1) := by decide +kernel
theorem dL_law_859 : decode cL_law 859 = .ok (.invokevirtual 148, 3) := by decide +kernel
theorem dL_law_862 : decode cL_law 862 = .ok (.if_icmp .eq 1125, 3) := by decide +kernel
theorem dL_law_865 : decode cL_law 865 = .ok (.iconst 0, 1) := by decide +kernel
theorem dL_law_866 : decode cL_law 866 = .ok (.ireturn, 1) := by decide +kernel
theorem dL_law_867 : decode cL_law 867 = .ok (.aload_n 1, 1) := by decide +kernel
theorem dL_law_868 : decode cL_law 868 = .ok (.aload_n 0, 1) := by decide +kernel
theorem dL_law_869 : decode cL_law 869 = .ok (.iload 4, 2) := by decide +kernel
theorem dL_law_871 : decode cL_law 871 = .ok (.iconst 1, 1) := by decide +kernel
theorem dL_law_872 : decode cL_law 872 = .ok (.iadd, 1) := by decide +kernel
theorem dL_law_873 : decode cL_law 873 = .ok (.iaload, 1) := by decide +kernel
theorem dL_law_874 : decode cL_law 874 = .ok (.aload_n 0, 1) := by decide +kernel
theorem dL_law_875 : decode cL_law 875 = .ok (.iload 4, 2) := by decide +kernel
theorem dL_law_877 : decode cL_law 877 = .ok (.iconst 2, 1) := by decide +kernel
theorem dL_law_878 : decode cL_law 878 = .ok (.iadd, 1) := by decide +kernel
theorem dL_law_879 : decode cL_law 879 = .ok (.iaload, 1) := by decide +kernel
theorem dL_law_880 : decode cL_law 880 = .ok (.aload_n 3, 1) := by decide +kernel
theorem dL_law_881 : decode cL_law 881 = .ok (.invokestatic 149, 3) := by decide +kernel
theorem dL_law_884 : decode cL_law 884 = .ok (.istore 5, 2) := by decide +kernel
theorem dL_law_886 : decode cL_law 886 = .ok (.aload_n 2, 1) := by decide +kernel
theorem dL_law_887 : decode cL_law 887 = .ok (.aload_n 0, 1) := by decide +kernel
theorem dL_law_888 : decode cL_law 888 = .ok (.iload 4, 2) := by decide +kernel
theorem dL_law_890 : decode cL_law 890 = .ok (.iconst 1, 1) := by decide +kernel
theorem dL_law_891 : decode cL_law 891 = .ok (.iadd, 1) := by decide +kernel
theorem dL_law_892 : decode cL_law 892 = .ok (.iaload, 1) := by decide +kernel
theorem dL_law_893 : decode cL_law 893 = .ok (.aload_n 0, 1) := by decide +kernel
theorem dL_law_894 : decode cL_law 894 = .ok (.iload 4, 2) := by decide +kernel
theorem dL_law_896 : decode cL_law 896 = .ok (.iconst 2, 1) := by decide +kernel
theorem dL_law_897 : decode cL_law 897 = .ok (.iadd, 1) := by decide +kernel
theorem dL_law_898 : decode cL_law 898 = .ok (.iaload, 1) := by decide +kernel
theorem dL_law_899 : decode cL_law 899 = .ok (.invokevirtual 152, 3) := by decide +kernel
theorem dL_law_902 : decode cL_law 902 = .ok (.istore 6, 2) := by decide +kernel
theorem dL_law_904 : decode cL_law 904 = .ok (.aload_n 2, 1) := by decide +kernel
theorem dL_law_905 : decode cL_law 905 = .ok (.invokevirtual 112, 3) := by decide +kernel
theorem dL_law_908 : decode cL_law 908 = .ok (.iload 5, 2) := by decide +kernel
theorem dL_law_910 : decode cL_law 910 = .ok (.if_icmp .eq 5, 3) := by decide +kernel
theorem dL_law_913 : decode cL_law 913 = .ok (.iconst 0, 1) := by decide +kernel
theorem dL_law_914 : decode cL_law 914 = .ok (.ireturn, 1) := by decide +kernel
theorem dL_law_915 : decode cL_law 915 = .ok (.iload 5, 2) := by decide +kernel
theorem dL_law_917 : decode cL_law 917 = .ok (.ifCond .ne 15, 3) := by decide +kernel
theorem dL_law_920 : decode cL_law 920 = .ok (.aload_n 3, 1) := by decide +kernel
theorem dL_law_921 : decode cL_law 921 = .ok (.iconst 0, 1) := by decide +kernel
theorem dL_law_922 : decode cL_law 922 = .ok (.laload, 1) := by decide +kernel
theorem dL_law_923 : decode cL_law 923 = .ok (.iload 6, 2) := by decide +kernel
theorem dL_law_925 : decode cL_law 925 = .ok (.i2l, 1) := by decide +kernel
theorem dL_law_926 : decode cL_law 926 = .ok (.lcmp, 1) := by decide +kernel
theorem dL_law_927 : decode cL_law 927 = .ok (.ifCond .eq 5, 3) := by decide +kernel
theorem dL_law_930 : decode cL_law 930 = .ok (.iconst 0, 1) := by decide +kernel
theorem dL_law_931 : decode cL_law 931 = .ok (.ireturn, 1) := by decide +kernel
theorem dL_law_932 : decode cL_law 932 = .ok (.goto 1055, 3) := by decide +kernel
theorem dL_law_935 : decode cL_law 935 = .ok (.aload_n 1, 1) := by decide +kernel
theorem dL_law_936 : decode cL_law 936 = .ok (.invokevirtual 153, 3) := by decide +kernel
theorem dL_law_939 : decode cL_law 939 = .ok (.aload_n 2, 1) := by decide +kernel
theorem dL_law_940 : decode cL_law 940 = .ok (.invokevirtual 156, 3) := by decide +kernel
theorem dL_law_943 : decode cL_law 943 = .ok (.if_icmp .eq 1044, 3) := by decide +kernel
theorem dL_law_946 : decode cL_law 946 = .ok (.iconst 0, 1) := by decide +kernel
theorem dL_law_947 : decode cL_law 947 = .ok (.ireturn, 1) := by decide +kernel
theorem dL_law_948 : decode cL_law 948 = .ok (.aload_n 1, 1) := by decide +kernel
theorem dL_law_949 : decode cL_law 949 = .ok (.invokevirtual 157, 3) := by decide +kernel
theorem dL_law_952 : decode cL_law 952 = .ok (.aload_n 2, 1) := by decide +kernel
theorem dL_law_953 : decode cL_law 953 = .ok (.invokevirtual 160, 3) := by decide +kernel
theorem dL_law_956 : decode cL_law 956 = .ok (.if_icmp .eq 1031, 3) := by decide +kernel
theorem dL_law_959 : decode cL_law 959 = .ok (.iconst 0, 1) := by decide +kernel
theorem dL_law_960 : decode cL_law 960 = .ok (.ireturn, 1) := by decide +kernel
theorem dL_law_961 : decode cL_law 961 = .ok (.aload_n 1, 1) := by decide +kernel
theorem dL_law_962 : decode cL_law 962 = .ok (.invokevirtual 161, 3) := by decide +kernel
theorem dL_law_965 : decode cL_law 965 = .ok (.aload_n 2, 1) := by decide +kernel
theorem dL_law_966 : decode cL_law 966 = .ok (.invokevirtual 164, 3) := by decide +kernel
theorem dL_law_969 : decode cL_law 969 = .ok (.if_icmp .eq 1018, 3) := by decide +kernel
theorem dL_law_972 : decode cL_law 972 = .ok (.iconst 0, 1) := by decide +kernel
theorem dL_law_973 : decode cL_law 973 = .ok (.ireturn, 1) := by decide +kernel
theorem dL_law_974 : decode cL_law 974 = .ok (.aload_n 1, 1) := by decide +kernel
theorem dL_law_975 : decode cL_law 975 = .ok (.aload_n 0, 1) := by decide +kernel
theorem dL_law_976 : decode cL_law 976 = .ok (.iload 4, 2) := by decide +kernel
theorem dL_law_978 : decode cL_law 978 = .ok (.iconst 1, 1) := by decide +kernel
theorem dL_law_979 : decode cL_law 979 = .ok (.iadd, 1) := by decide +kernel
theorem dL_law_980 : decode cL_law 980 = .ok (.iaload, 1) := by decide +kernel
theorem dL_law_981 : decode cL_law 981 = .ok (.aload_n 3, 1) := by decide +kernel
theorem dL_law_982 : decode cL_law 982 = .ok (.invokestatic 165, 3) := by decide +kernel
theorem dL_law_985 : decode cL_law 985 = .ok (.istore 5, 2) := by decide +kernel
theorem dL_law_987 : decode cL_law 987 = .ok (.aload_n 2, 1) := by decide +kernel
theorem dL_law_988 : decode cL_law 988 = .ok (.aload_n 0, 1) := by decide +kernel
theorem dL_law_989 : decode cL_law 989 = .ok (.iload 4, 2) := by decide +kernel
theorem dL_law_991 : decode cL_law 991 = .ok (.iconst 1, 1) := by decide +kernel
theorem dL_law_992 : decode cL_law 992 = .ok (.iadd, 1) := by decide +kernel
theorem dL_law_993 : decode cL_law 993 = .ok (.iaload, 1) := by decide +kernel
theorem dL_law_994 : decode cL_law 994 = .ok (.invokevirtual 167, 3) := by decide +kernel
theorem dL_law_997 : decode cL_law 997 = .ok (.istore 6, 2) := by decide +kernel
theorem dL_law_999 : decode cL_law 999 = .ok (.aload_n 2, 1) := by decide +kernel
theorem dL_law_1000 : decode cL_law 1000 = .ok (.invokevirtual 112, 3) := by decide +kernel
theorem dL_law_1003 : decode cL_law 1003 = .ok (.iload 5, 2) := by decide +kernel
theorem dL_law_1005 : decode cL_law 1005 = .ok (.if_icmp .eq 5, 3) := by decide +kernel
theorem dL_law_1008 : decode cL_law 1008 = .ok (.iconst 0, 1) := by decide +kernel
theorem dL_law_1009 : decode cL_law 1009 = .ok (.ireturn, 1) := by decide +kernel
theorem dL_law_1010 : decode cL_law 1010 = .ok (.iload 5, 2) := by decide +kernel
theorem dL_law_1012 : decode cL_law 1012 = .ok (.ifCond .ne 15, 3) := by decide +kernel
theorem dL_law_1015 : decode cL_law 1015 = .ok (.aload_n 3, 1) := by decide +kernel
theorem dL_law_1016 : decode cL_law 1016 = .ok (.iconst 0, 1) := by decide +kernel
theorem dL_law_1017 : decode cL_law 1017 = .ok (.laload, 1) := by decide +kernel
theorem dL_law_1018 : decode cL_law 1018 = .ok (.iload 6, 2) := by decide +kernel
theorem dL_law_1020 : decode cL_law 1020 = .ok (.i2l, 1) := by decide +kernel
theorem dL_law_1021 : decode cL_law 1021 = .ok (.lcmp, 1) := by decide +kernel
theorem dL_law_1022 : decode cL_law 1022 = .ok (.ifCond .eq 5, 3) := by decide +kernel
theorem dL_law_1025 : decode cL_law 1025 = .ok (.iconst 0, 1) := by decide +kernel
theorem dL_law_1026 : decode cL_law 1026 = .ok (.ireturn, 1) := by decide +kernel
theorem dL_law_1027 : decode cL_law 1027 = .ok (.goto 960, 3) := by decide +kernel
theorem dL_law_1030 : decode cL_law 1030 = .ok (.aload_n 1, 1) := by decide +kernel
theorem dL_law_1031 : decode cL_law 1031 = .ok (.aload_n 0, 1) := by decide +kernel
theorem dL_law_1032 : decode cL_law 1032 = .ok (.iload 4, 2) := by decide +kernel
theorem dL_law_1034 : decode cL_law 1034 = .ok (.iconst 1, 1) := by decide +kernel
theorem dL_law_1035 : decode cL_law 1035 = .ok (.iadd, 1) := by decide +kernel
theorem dL_law_1036 : decode cL_law 1036 = .ok (.iaload, 1) := by decide +kernel
theorem dL_law_1037 : decode cL_law 1037 = .ok (.aload_n 0, 1) := by decide +kernel
theorem dL_law_1038 : decode cL_law 1038 = .ok (.iload 4, 2) := by decide +kernel
theorem dL_law_1040 : decode cL_law 1040 = .ok (.iconst 2, 1) := by decide +kernel
theorem dL_law_1041 : decode cL_law 1041 = .ok (.iadd, 1) := by decide +kernel
theorem dL_law_1042 : decode cL_law 1042 = .ok (.iaload, 1) := by decide +kernel
theorem dL_law_1043 : decode cL_law 1043 = .ok (.aload_n 3, 1) := by decide +kernel
theorem dL_law_1044 : decode cL_law 1044 = .ok (.invokestatic 168, 3) := by decide +kernel
theorem dL_law_1047 : decode cL_law 1047 = .ok (.istore 5, 2) := by decide +kernel
theorem dL_law_1049 : decode cL_law 1049 = .ok (.aload_n 2, 1) := by decide +kernel
theorem dL_law_1050 : decode cL_law 1050 = .ok (.aload_n 0, 1) := by decide +kernel
theorem dL_law_1051 : decode cL_law 1051 = .ok (.iload 4, 2) := by decide +kernel
theorem dL_law_1053 : decode cL_law 1053 = .ok (.iconst 1, 1) := by decide +kernel
theorem dL_law_1054 : decode cL_law 1054 = .ok (.iadd, 1) := by decide +kernel
theorem dL_law_1055 : decode cL_law 1055 = .ok (.iaload, 1) := by decide +kernel
theorem dL_law_1056 : decode cL_law 1056 = .ok (.aload_n 0, 1) := by decide +kernel
theorem dL_law_1057 : decode cL_law 1057 = .ok (.iload 4, 2) := by decide +kernel
theorem dL_law_1059 : decode cL_law 1059 = .ok (.iconst 2, 1) := by decide +kernel
theorem dL_law_1060 : decode cL_law 1060 = .ok (.iadd, 1) := by decide +kernel
theorem dL_law_1061 : decode cL_law 1061 = .ok (.iaload, 1) := by decide +kernel
theorem dL_law_1062 : decode cL_law 1062 = .ok (.invokevirtual 170, 3) := by decide +kernel
theorem dL_law_1065 : decode cL_law 1065 = .ok (.istore 6, 2) := by decide +kernel
theorem dL_law_1067 : decode cL_law 1067 = .ok (.aload_n 2, 1) := by decide +kernel
theorem dL_law_1068 : decode cL_law 1068 = .ok (.invokevirtual 112, 3) := by decide +kernel
theorem dL_law_1071 : decode cL_law 1071 = .ok (.iload 5, 2) := by decide +kernel
theorem dL_law_1073 : decode cL_law 1073 = .ok (.if_icmp .eq 5, 3) := by decide +kernel
theorem dL_law_1076 : decode cL_law 1076 = .ok (.iconst 0, 1) := by decide +kernel
theorem dL_law_1077 : decode cL_law 1077 = .ok (.ireturn, 1) := by decide +kernel
theorem dL_law_1078 : decode cL_law 1078 = .ok (.iload 5, 2) := by decide +kernel
theorem dL_law_1080 : decode cL_law 1080 = .ok (.ifCond .ne 15, 3) := by decide +kernel
theorem dL_law_1083 : decode cL_law 1083 = .ok (.aload_n 3, 1) := by decide +kernel
theorem dL_law_1084 : decode cL_law 1084 = .ok (.iconst 0, 1) := by decide +kernel
theorem dL_law_1085 : decode cL_law 1085 = .ok (.laload, 1) := by decide +kernel
theorem dL_law_1086 : decode cL_law 1086 = .ok (.iload 6, 2) := by decide +kernel
theorem dL_law_1088 : decode cL_law 1088 = .ok (.i2l, 1) := by decide +kernel
theorem dL_law_1089 : decode cL_law 1089 = .ok (.lcmp, 1) := by decide +kernel
theorem dL_law_1090 : decode cL_law 1090 = .ok (.ifCond .eq 5, 3) := by decide +kernel
theorem dL_law_1093 : decode cL_law 1093 = .ok (.iconst 0, 1) := by decide +kernel
theorem dL_law_1094 : decode cL_law 1094 = .ok (.ireturn, 1) := by decide +kernel
theorem dL_law_1095 : decode cL_law 1095 = .ok (.goto 892, 3) := by decide +kernel
theorem dL_law_1098 : decode cL_law 1098 = .ok (.aload_n 1, 1) := by decide +kernel
theorem dL_law_1099 : decode cL_law 1099 = .ok (.aload_n 0, 1) := by decide +kernel
theorem dL_law_1100 : decode cL_law 1100 = .ok (.iload 4, 2) := by decide +kernel
theorem dL_law_1102 : decode cL_law 1102 = .ok (.iconst 1, 1) := by decide +kernel
theorem dL_law_1103 : decode cL_law 1103 = .ok (.iadd, 1) := by decide +kernel
theorem dL_law_1104 : decode cL_law 1104 = .ok (.iaload, 1) := by decide +kernel
theorem dL_law_1105 : decode cL_law 1105 = .ok (.aload_n 0, 1) := by decide +kernel
theorem dL_law_1106 : decode cL_law 1106 = .ok (.iload 4, 2) := by decide +kernel
theorem dL_law_1108 : decode cL_law 1108 = .ok (.iconst 2, 1) := by decide +kernel
theorem dL_law_1109 : decode cL_law 1109 = .ok (.iadd, 1) := by decide +kernel
theorem dL_law_1110 : decode cL_law 1110 = .ok (.iaload, 1) := by decide +kernel
theorem dL_law_1111 : decode cL_law 1111 = .ok (.aload_n 0, 1) := by decide +kernel
theorem dL_law_1112 : decode cL_law 1112 = .ok (.iload 4, 2) := by decide +kernel
theorem dL_law_1114 : decode cL_law 1114 = .ok (.iconst 3, 1) := by decide +kernel
theorem dL_law_1115 : decode cL_law 1115 = .ok (.iadd, 1) := by decide +kernel
theorem dL_law_1116 : decode cL_law 1116 = .ok (.iaload, 1) := by decide +kernel
theorem dL_law_1117 : decode cL_law 1117 = .ok (.aload_n 3, 1) := by decide +kernel
theorem dL_law_1118 : decode cL_law 1118 = .ok (.invokestatic 171, 3) := by decide +kernel
theorem dL_law_1121 : decode cL_law 1121 = .ok (.istore 5, 2) := by decide +kernel
theorem dL_law_1123 : decode cL_law 1123 = .ok (.aload_n 2, 1) := by decide +kernel
theorem dL_law_1124 : decode cL_law 1124 = .ok (.aload_n 0, 1) := by decide +kernel
theorem dL_law_1125 : decode cL_law 1125 = .ok (.iload 4, 2) := by decide +kernel
theorem dL_law_1127 : decode cL_law 1127 = .ok (.iconst 1, 1) := by decide +kernel
theorem dL_law_1128 : decode cL_law 1128 = .ok (.iadd, 1) := by decide +kernel
theorem dL_law_1129 : decode cL_law 1129 = .ok (.iaload, 1) := by decide +kernel
theorem dL_law_1130 : decode cL_law 1130 = .ok (.aload_n 0, 1) := by decide +kernel
theorem dL_law_1131 : decode cL_law 1131 = .ok (.iload 4, 2) := by decide +kernel
theorem dL_law_1133 : decode cL_law 1133 = .ok (.iconst 2, 1) := by decide +kernel
theorem dL_law_1134 : decode cL_law 1134 = .ok (.iadd, 1) := by decide +kernel
theorem dL_law_1135 : decode cL_law 1135 = .ok (.iaload, 1) := by decide +kernel
theorem dL_law_1136 : decode cL_law 1136 = .ok (.aload_n 0, 1) := by decide +kernel
theorem dL_law_1137 : decode cL_law 1137 = .ok (.iload 4, 2) := by decide +kernel
theorem dL_law_1139 : decode cL_law 1139 = .ok (.iconst 3, 1) := by decide +kernel
theorem dL_law_1140 : decode cL_law 1140 = .ok (.iadd, 1) := by decide +kernel
theorem dL_law_1141 : decode cL_law 1141 = .ok (.iaload, 1) := by decide +kernel
theorem dL_law_1142 : decode cL_law 1142 = .ok (.invokevirtual 173, 3) := by decide +kernel
theorem dL_law_1145 : decode cL_law 1145 = .ok (.istore 6, 2) := by decide +kernel
theorem dL_law_1147 : decode cL_law 1147 = .ok (.aload_n 2, 1) := by decide +kernel
theorem dL_law_1148 : decode cL_law 1148 = .ok (.invokevirtual 112, 3) := by decide +kernel
theorem dL_law_1151 : decode cL_law 1151 = .ok (.iload 5, 2) := by decide +kernel
theorem dL_law_1153 : decode cL_law 1153 = .ok (.if_icmp .eq 5, 3) := by decide +kernel
theorem dL_law_1156 : decode cL_law 1156 = .ok (.iconst 0, 1) := by decide +kernel
theorem dL_law_1157 : decode cL_law 1157 = .ok (.ireturn, 1) := by decide +kernel
theorem dL_law_1158 : decode cL_law 1158 = .ok (.iload 5, 2) := by decide +kernel
theorem dL_law_1160 : decode cL_law 1160 = .ok (.ifCond .ne 15, 3) := by decide +kernel
theorem dL_law_1163 : decode cL_law 1163 = .ok (.aload_n 3, 1) := by decide +kernel
theorem dL_law_1164 : decode cL_law 1164 = .ok (.iconst 0, 1) := by decide +kernel
theorem dL_law_1165 : decode cL_law 1165 = .ok (.laload, 1) := by decide +kernel
theorem dL_law_1166 : decode cL_law 1166 = .ok (.iload 6, 2) := by decide +kernel
theorem dL_law_1168 : decode cL_law 1168 = .ok (.i2l, 1) := by decide +kernel
theorem dL_law_1169 : decode cL_law 1169 = .ok (.lcmp, 1) := by decide +kernel
theorem dL_law_1170 : decode cL_law 1170 = .ok (.ifCond .eq 5, 3) := by decide +kernel
theorem dL_law_1173 : decode cL_law 1173 = .ok (.iconst 0, 1) := by decide +kernel
theorem dL_law_1174 : decode cL_law 1174 = .ok (.ireturn, 1) := by decide +kernel
theorem dL_law_1175 : decode cL_law 1175 = .ok (.goto 812, 3) := by decide +kernel
theorem dL_law_1178 : decode cL_law 1178 = .ok (.aload_n 1, 1) := by decide +kernel
theorem dL_law_1179 : decode cL_law 1179 = .ok (.aload_n 0, 1) := by decide +kernel
theorem dL_law_1180 : decode cL_law 1180 = .ok (.iload 4, 2) := by decide +kernel
theorem dL_law_1182 : decode cL_law 1182 = .ok (.iconst 1, 1) := by decide +kernel
theorem dL_law_1183 : decode cL_law 1183 = .ok (.iadd, 1) := by decide +kernel
theorem dL_law_1184 : decode cL_law 1184 = .ok (.iaload, 1) := by decide +kernel
theorem dL_law_1185 : decode cL_law 1185 = .ok (.aload_n 3, 1) := by decide +kernel
theorem dL_law_1186 : decode cL_law 1186 = .ok (.invokestatic 174, 3) := by decide +kernel
theorem dL_law_1189 : decode cL_law 1189 = .ok (.istore 5, 2) := by decide +kernel
theorem dL_law_1191 : decode cL_law 1191 = .ok (.aload_n 2, 1) := by decide +kernel
theorem dL_law_1192 : decode cL_law 1192 = .ok (.aload_n 0, 1) := by decide +kernel
theorem dL_law_1193 : decode cL_law 1193 = .ok (.iload 4, 2) := by decide +kernel
theorem dL_law_1195 : decode cL_law 1195 = .ok (.iconst 1, 1) := by decide +kernel
theorem dL_law_1196 : decode cL_law 1196 = .ok (.iadd, 1) := by decide +kernel
theorem dL_law_1197 : decode cL_law 1197 = .ok (.iaload, 1) := by decide +kernel
theorem dL_law_1198 : decode cL_law 1198 = .ok (.invokevirtual 176, 3) := by decide +kernel
theorem dL_law_1201 : decode cL_law 1201 = .ok (.istore 6, 2) := by decide +kernel
theorem dL_law_1203 : decode cL_law 1203 = .ok (.aload_n 2, 1) := by decide +kernel
theorem dL_law_1204 : decode cL_law 1204 = .ok (.invokevirtual 112, 3) := by decide +kernel
theorem dL_law_1207 : decode cL_law 1207 = .ok (.iload 5, 2) := by decide +kernel
theorem dL_law_1209 : decode cL_law 1209 = .ok (.if_icmp .eq 5, 3) := by decide +kernel
theorem dL_law_1212 : decode cL_law 1212 = .ok (.iconst 0, 1) := by decide +kernel
theorem dL_law_1213 : decode cL_law 1213 = .ok (.ireturn, 1) := by decide +kernel
theorem dL_law_1214 : decode cL_law 1214 = .ok (.iload 5, 2) := by decide +kernel
theorem dL_law_1216 : decode cL_law 1216 = .ok (.ifCond .ne 15, 3) := by decide +kernel
theorem dL_law_1219 : decode cL_law 1219 = .ok (.aload_n 3, 1) := by decide +kernel
theorem dL_law_1220 : decode cL_law 1220 = .ok (.iconst 0, 1) := by decide +kernel
theorem dL_law_1221 : decode cL_law 1221 = .ok (.laload, 1) := by decide +kernel
theorem dL_law_1222 : decode cL_law 1222 = .ok (.iload 6, 2) := by decide +kernel
theorem dL_law_1224 : decode cL_law 1224 = .ok (.i2l, 1) := by decide +kernel
theorem dL_law_1225 : decode cL_law 1225 = .ok (.lcmp, 1) := by decide +kernel
theorem dL_law_1226 : decode cL_law 1226 = .ok (.ifCond .eq 5, 3) := by decide +kernel
theorem dL_law_1229 : decode cL_law 1229 = .ok (.iconst 0, 1) := by decide +kernel
theorem dL_law_1230 : decode cL_law 1230 = .ok (.ireturn, 1) := by decide +kernel
theorem dL_law_1231 : decode cL_law 1231 = .ok (.goto 756, 3) := by decide +kernel
theorem dL_law_1234 : decode cL_law 1234 = .ok (.aload_n 1, 1) := by decide +kernel
theorem dL_law_1235 : decode cL_law 1235 = .ok (.aload_n 0, 1) := by decide +kernel
theorem dL_law_1236 : decode cL_law 1236 = .ok (.iload 4, 2) := by decide +kernel
theorem dL_law_1238 : decode cL_law 1238 = .ok (.iconst 1, 1) := by decide +kernel
theorem dL_law_1239 : decode cL_law 1239 = .ok (.iadd, 1) := by decide +kernel
theorem dL_law_1240 : decode cL_law 1240 = .ok (.iaload, 1) := by decide +kernel
theorem dL_law_1241 : decode cL_law 1241 = .ok (.aload_n 3, 1) := by decide +kernel
theorem dL_law_1242 : decode cL_law 1242 = .ok (.invokestatic 177, 3) := by decide +kernel
theorem dL_law_1245 : decode cL_law 1245 = .ok (.istore 5, 2) := by decide +kernel
theorem dL_law_1247 : decode cL_law 1247 = .ok (.aload_n 2, 1) := by decide +kernel
theorem dL_law_1248 : decode cL_law 1248 = .ok (.aload_n 0, 1) := by decide +kernel
theorem dL_law_1249 : decode cL_law 1249 = .ok (.iload 4, 2) := by decide +kernel
theorem dL_law_1251 : decode cL_law 1251 = .ok (.iconst 1, 1) := by decide +kernel
theorem dL_law_1252 : decode cL_law 1252 = .ok (.iadd, 1) := by decide +kernel
theorem dL_law_1253 : decode cL_law 1253 = .ok (.iaload, 1) := by decide +kernel
theorem dL_law_1254 : decode cL_law 1254 = .ok (.invokevirtual 179, 3) := by decide +kernel
theorem dL_law_1257 : decode cL_law 1257 = .ok (.istore 6, 2) := by decide +kernel
theorem dL_law_1259 : decode cL_law 1259 = .ok (.aload_n 2, 1) := by decide +kernel
theorem dL_law_1260 : decode cL_law 1260 = .ok (.invokevirtual 112, 3) := by decide +kernel
theorem dL_law_1263 : decode cL_law 1263 = .ok (.iload 5, 2) := by decide +kernel
theorem dL_law_1265 : decode cL_law 1265 = .ok (.if_icmp .eq 5, 3) := by decide +kernel
theorem dL_law_1268 : decode cL_law 1268 = .ok (.iconst 0, 1) := by decide +kernel
theorem dL_law_1269 : decode cL_law 1269 = .ok (.ireturn, 1) := by decide +kernel
theorem dL_law_1270 : decode cL_law 1270 = .ok (.iload 5, 2) := by decide +kernel
theorem dL_law_1272 : decode cL_law 1272 = .ok (.ifCond .ne 15, 3) := by decide +kernel
theorem dL_law_1275 : decode cL_law 1275 = .ok (.aload_n 3, 1) := by decide +kernel
theorem dL_law_1276 : decode cL_law 1276 = .ok (.iconst 0, 1) := by decide +kernel
theorem dL_law_1277 : decode cL_law 1277 = .ok (.laload, 1) := by decide +kernel
theorem dL_law_1278 : decode cL_law 1278 = .ok (.iload 6, 2) := by decide +kernel
theorem dL_law_1280 : decode cL_law 1280 = .ok (.i2l, 1) := by decide +kernel
theorem dL_law_1281 : decode cL_law 1281 = .ok (.lcmp, 1) := by decide +kernel
theorem dL_law_1282 : decode cL_law 1282 = .ok (.ifCond .eq 5, 3) := by decide +kernel
theorem dL_law_1285 : decode cL_law 1285 = .ok (.iconst 0, 1) := by decide +kernel
theorem dL_law_1286 : decode cL_law 1286 = .ok (.ireturn, 1) := by decide +kernel
theorem dL_law_1287 : decode cL_law 1287 = .ok (.goto 700, 3) := by decide +kernel
theorem dL_law_1290 : decode cL_law 1290 = .ok (.aload_n 1, 1) := by decide +kernel
theorem dL_law_1291 : decode cL_law 1291 = .ok (.aload_n 0, 1) := by decide +kernel
theorem dL_law_1292 : decode cL_law 1292 = .ok (.iload 4, 2) := by decide +kernel
theorem dL_law_1294 : decode cL_law 1294 = .ok (.iconst 1, 1) := by decide +kernel
theorem dL_law_1295 : decode cL_law 1295 = .ok (.iadd, 1) := by decide +kernel
theorem dL_law_1296 : decode cL_law 1296 = .ok (.iaload, 1) := by decide +kernel
theorem dL_law_1297 : decode cL_law 1297 = .ok (.aload_n 3, 1) := by decide +kernel
theorem dL_law_1298 : decode cL_law 1298 = .ok (.invokestatic 180, 3) := by decide +kernel
theorem dL_law_1301 : decode cL_law 1301 = .ok (.istore 5, 2) := by decide +kernel
theorem dL_law_1303 : decode cL_law 1303 = .ok (.aload_n 2, 1) := by decide +kernel
theorem dL_law_1304 : decode cL_law 1304 = .ok (.aload_n 0, 1) := by decide +kernel
theorem dL_law_1305 : decode cL_law 1305 = .ok (.iload 4, 2) := by decide +kernel
theorem dL_law_1307 : decode cL_law 1307 = .ok (.iconst 1, 1) := by decide +kernel
theorem dL_law_1308 : decode cL_law 1308 = .ok (.iadd, 1) := by decide +kernel
theorem dL_law_1309 : decode cL_law 1309 = .ok (.iaload, 1) := by decide +kernel
theorem dL_law_1310 : decode cL_law 1310 = .ok (.invokevirtual 182, 3) := by decide +kernel
theorem dL_law_1313 : decode cL_law 1313 = .ok (.istore 6, 2) := by decide +kernel
theorem dL_law_1315 : decode cL_law 1315 = .ok (.aload_n 2, 1) := by decide +kernel
theorem dL_law_1316 : decode cL_law 1316 = .ok (.invokevirtual 112, 3) := by decide +kernel
theorem dL_law_1319 : decode cL_law 1319 = .ok (.iload 5, 2) := by decide +kernel
theorem dL_law_1321 : decode cL_law 1321 = .ok (.if_icmp .eq 5, 3) := by decide +kernel
theorem dL_law_1324 : decode cL_law 1324 = .ok (.iconst 0, 1) := by decide +kernel
theorem dL_law_1325 : decode cL_law 1325 = .ok (.ireturn, 1) := by decide +kernel
theorem dL_law_1326 : decode cL_law 1326 = .ok (.iload 5, 2) := by decide +kernel
theorem dL_law_1328 : decode cL_law 1328 = .ok (.ifCond .ne 15, 3) := by decide +kernel
theorem dL_law_1331 : decode cL_law 1331 = .ok (.aload_n 3, 1) := by decide +kernel
theorem dL_law_1332 : decode cL_law 1332 = .ok (.iconst 0, 1) := by decide +kernel
theorem dL_law_1333 : decode cL_law 1333 = .ok (.laload, 1) := by decide +kernel
theorem dL_law_1334 : decode cL_law 1334 = .ok (.iload 6, 2) := by decide +kernel
theorem dL_law_1336 : decode cL_law 1336 = .ok (.i2l, 1) := by decide +kernel
theorem dL_law_1337 : decode cL_law 1337 = .ok (.lcmp, 1) := by decide +kernel
theorem dL_law_1338 : decode cL_law 1338 = .ok (.ifCond .eq 5, 3) := by decide +kernel
theorem dL_law_1341 : decode cL_law 1341 = .ok (.iconst 0, 1) := by decide +kernel
theorem dL_law_1342 : decode cL_law 1342 = .ok (.ireturn, 1) := by decide +kernel
theorem dL_law_1343 : decode cL_law 1343 = .ok (.goto 644, 3) := by decide +kernel
theorem dL_law_1346 : decode cL_law 1346 = .ok (.aload_n 1, 1) := by decide +kernel
theorem dL_law_1347 : decode cL_law 1347 = .ok (.invokevirtual 183, 3) := by decide +kernel
theorem dL_law_1350 : decode cL_law 1350 = .ok (.aload_n 2, 1) := by decide +kernel
theorem dL_law_1351 : decode cL_law 1351 = .ok (.invokevirtual 187, 3) := by decide +kernel
theorem dL_law_1354 : decode cL_law 1354 = .ok (.lcmp, 1) := by decide +kernel
theorem dL_law_1355 : decode cL_law 1355 = .ok (.ifCond .eq 632, 3) := by decide +kernel
theorem dL_law_1358 : decode cL_law 1358 = .ok (.iconst 0, 1) := by decide +kernel
theorem dL_law_1359 : decode cL_law 1359 = .ok (.ireturn, 1) := by decide +kernel
theorem dL_law_1360 : decode cL_law 1360 = .ok (.aload_n 1, 1) := by decide +kernel
theorem dL_law_1361 : decode cL_law 1361 = .ok (.aload_n 0, 1) := by decide +kernel
theorem dL_law_1362 : decode cL_law 1362 = .ok (.iload 4, 2) := by decide +kernel
theorem dL_law_1364 : decode cL_law 1364 = .ok (.iconst 1, 1) := by decide +kernel
theorem dL_law_1365 : decode cL_law 1365 = .ok (.iadd, 1) := by decide +kernel
theorem dL_law_1366 : decode cL_law 1366 = .ok (.iaload, 1) := by decide +kernel
theorem dL_law_1367 : decode cL_law 1367 = .ok (.aload_n 3, 1) := by decide +kernel
theorem dL_law_1368 : decode cL_law 1368 = .ok (.invokestatic 188, 3) := by decide +kernel
theorem dL_law_1371 : decode cL_law 1371 = .ok (.istore 5, 2) := by decide +kernel
theorem dL_law_1373 : decode cL_law 1373 = .ok (.aload_n 2, 1) := by decide +kernel
theorem dL_law_1374 : decode cL_law 1374 = .ok (.aload_n 0, 1) := by decide +kernel
theorem dL_law_1375 : decode cL_law 1375 = .ok (.iload 4, 2) := by decide +kernel
theorem dL_law_1377 : decode cL_law 1377 = .ok (.iconst 1, 1) := by decide +kernel
theorem dL_law_1378 : decode cL_law 1378 = .ok (.iadd, 1) := by decide +kernel
theorem dL_law_1379 : decode cL_law 1379 = .ok (.iaload, 1) := by decide +kernel
theorem dL_law_1380 : decode cL_law 1380 = .ok (.invokevirtual 190, 3) := by decide +kernel
theorem dL_law_1383 : decode cL_law 1383 = .ok (.istore 6, 2) := by decide +kernel
theorem dL_law_1385 : decode cL_law 1385 = .ok (.aload_n 2, 1) := by decide +kernel
theorem dL_law_1386 : decode cL_law 1386 = .ok (.invokevirtual 112, 3) := by decide +kernel
theorem dL_law_1389 : decode cL_law 1389 = .ok (.iload 5, 2) := by decide +kernel
theorem dL_law_1391 : decode cL_law 1391 = .ok (.if_icmp .eq 5, 3) := by decide +kernel
theorem dL_law_1394 : decode cL_law 1394 = .ok (.iconst 0, 1) := by decide +kernel
theorem dL_law_1395 : decode cL_law 1395 = .ok (.ireturn, 1) := by decide +kernel
theorem dL_law_1396 : decode cL_law 1396 = .ok (.iload 5, 2) := by decide +kernel
theorem dL_law_1398 : decode cL_law 1398 = .ok (.ifCond .ne 15, 3) := by decide +kernel
theorem dL_law_1401 : decode cL_law 1401 = .ok (.aload_n 3, 1) := by decide +kernel
theorem dL_law_1402 : decode cL_law 1402 = .ok (.iconst 0, 1) := by decide +kernel
theorem dL_law_1403 : decode cL_law 1403 = .ok (.laload, 1) := by decide +kernel
theorem dL_law_1404 : decode cL_law 1404 = .ok (.iload 6, 2) := by decide +kernel
theorem dL_law_1406 : decode cL_law 1406 = .ok (.i2l, 1) := by decide +kernel
theorem dL_law_1407 : decode cL_law 1407 = .ok (.lcmp, 1) := by decide +kernel
theorem dL_law_1408 : decode cL_law 1408 = .ok (.ifCond .eq 5, 3) := by decide +kernel
theorem dL_law_1411 : decode cL_law 1411 = .ok (.iconst 0, 1) := by decide +kernel
theorem dL_law_1412 : decode cL_law 1412 = .ok (.ireturn, 1) := by decide +kernel
theorem dL_law_1413 : decode cL_law 1413 = .ok (.goto 574, 3) := by decide +kernel
theorem dL_law_1416 : decode cL_law 1416 = .ok (.aload_n 1, 1) := by decide +kernel
theorem dL_law_1417 : decode cL_law 1417 = .ok (.aload_n 0, 1) := by decide +kernel
theorem dL_law_1418 : decode cL_law 1418 = .ok (.iload 4, 2) := by decide +kernel
theorem dL_law_1420 : decode cL_law 1420 = .ok (.iconst 1, 1) := by decide +kernel
theorem dL_law_1421 : decode cL_law 1421 = .ok (.iadd, 1) := by decide +kernel
theorem dL_law_1422 : decode cL_law 1422 = .ok (.iaload, 1) := by decide +kernel
theorem dL_law_1423 : decode cL_law 1423 = .ok (.invokestatic 191, 3) := by decide +kernel
theorem dL_law_1426 : decode cL_law 1426 = .ok (.istore 5, 2) := by decide +kernel
theorem dL_law_1428 : decode cL_law 1428 = .ok (.aload_n 2, 1) := by decide +kernel
theorem dL_law_1429 : decode cL_law 1429 = .ok (.aload_n 0, 1) := by decide +kernel
theorem dL_law_1430 : decode cL_law 1430 = .ok (.iload 4, 2) := by decide +kernel
theorem dL_law_1432 : decode cL_law 1432 = .ok (.iconst 1, 1) := by decide +kernel
theorem dL_law_1433 : decode cL_law 1433 = .ok (.iadd, 1) := by decide +kernel
theorem dL_law_1434 : decode cL_law 1434 = .ok (.iaload, 1) := by decide +kernel
theorem dL_law_1435 : decode cL_law 1435 = .ok (.invokevirtual 193, 3) := by decide +kernel
theorem dL_law_1438 : decode cL_law 1438 = .ok (.aload_n 2, 1) := by decide +kernel
theorem dL_law_1439 : decode cL_law 1439 = .ok (.invokevirtual 112, 3) := by decide +kernel
theorem dL_law_1442 : decode cL_law 1442 = .ok (.iload 5, 2) := by decide +kernel
theorem dL_law_1444 : decode cL_law 1444 = .ok (.if_icmp .eq 5, 3) := by decide +kernel
theorem dL_law_1447 : decode cL_law 1447 = .ok (.iconst 0, 1) := by decide +kernel
theorem dL_law_1448 : decode cL_law 1448 = .ok (.ireturn, 1) := by decide +kernel
theorem dL_law_1449 : decode cL_law 1449 = .ok (.goto 538, 3) := by decide +kernel
theorem dL_law_1452 : decode cL_law 1452 = .ok (.aload_n 1, 1) := by decide +kernel
theorem dL_law_1453 : decode cL_law 1453 = .ok (.aload_n 0, 1) := by decide +kernel
theorem dL_law_1454 : decode cL_law 1454 = .ok (.iload 4, 2) := by decide +kernel
theorem dL_law_1456 : decode cL_law 1456 = .ok (.iconst 1, 1) := by decide +kernel
theorem dL_law_1457 : decode cL_law 1457 = .ok (.iadd, 1) := by decide +kernel
theorem dL_law_1458 : decode cL_law 1458 = .ok (.iaload, 1) := by decide +kernel
theorem dL_law_1459 : decode cL_law 1459 = .ok (.aload_n 0, 1) := by decide +kernel
theorem dL_law_1460 : decode cL_law 1460 = .ok (.iload 4, 2) := by decide +kernel
theorem dL_law_1462 : decode cL_law 1462 = .ok (.iconst 2, 1) := by decide +kernel
theorem dL_law_1463 : decode cL_law 1463 = .ok (.iadd, 1) := by decide +kernel
theorem dL_law_1464 : decode cL_law 1464 = .ok (.iaload, 1) := by decide +kernel
theorem dL_law_1465 : decode cL_law 1465 = .ok (.ifCond .eq 7, 3) := by decide +kernel
theorem dL_law_1468 : decode cL_law 1468 = .ok (.iconst 1, 1) := by decide +kernel
theorem dL_law_1469 : decode cL_law 1469 = .ok (.goto 4, 3) := by decide +kernel
theorem dL_law_1472 : decode cL_law 1472 = .ok (.iconst 0, 1) := by decide +kernel
theorem dL_law_1473 : decode cL_law 1473 = .ok (.aload_n 3, 1) := by decide +kernel
theorem dL_law_1474 : decode cL_law 1474 = .ok (.invokestatic 194, 3) := by decide +kernel
theorem dL_law_1477 : decode cL_law 1477 = .ok (.istore 5, 2) := by decide +kernel
theorem dL_law_1479 : decode cL_law 1479 = .ok (.aload_n 2, 1) := by decide +kernel
theorem dL_law_1480 : decode cL_law 1480 = .ok (.aload_n 0, 1) := by decide +kernel
theorem dL_law_1481 : decode cL_law 1481 = .ok (.iload 4, 2) := by decide +kernel
theorem dL_law_1483 : decode cL_law 1483 = .ok (.iconst 1, 1) := by decide +kernel
theorem dL_law_1484 : decode cL_law 1484 = .ok (.iadd, 1) := by decide +kernel
theorem dL_law_1485 : decode cL_law 1485 = .ok (.iaload, 1) := by decide +kernel
theorem dL_law_1486 : decode cL_law 1486 = .ok (.aload_n 0, 1) := by decide +kernel
theorem dL_law_1487 : decode cL_law 1487 = .ok (.iload 4, 2) := by decide +kernel
theorem dL_law_1489 : decode cL_law 1489 = .ok (.iconst 2, 1) := by decide +kernel
theorem dL_law_1490 : decode cL_law 1490 = .ok (.iadd, 1) := by decide +kernel
theorem dL_law_1491 : decode cL_law 1491 = .ok (.iaload, 1) := by decide +kernel
theorem dL_law_1492 : decode cL_law 1492 = .ok (.ifCond .eq 7, 3) := by decide +kernel
theorem dL_law_1495 : decode cL_law 1495 = .ok (.iconst 1, 1) := by decide +kernel
theorem dL_law_1496 : decode cL_law 1496 = .ok (.goto 4, 3) := by decide +kernel
theorem dL_law_1499 : decode cL_law 1499 = .ok (.iconst 0, 1) := by decide +kernel
theorem dL_law_1500 : decode cL_law 1500 = .ok (.invokevirtual 197, 3) := by decide +kernel
theorem dL_law_1503 : decode cL_law 1503 = .ok (.istore 6, 2) := by decide +kernel
theorem dL_law_1505 : decode cL_law 1505 = .ok (.aload_n 2, 1) := by decide +kernel
theorem dL_law_1506 : decode cL_law 1506 = .ok (.invokevirtual 112, 3) := by decide +kernel
theorem dL_law_1509 : decode cL_law 1509 = .ok (.iload 5, 2) := by decide +kernel
theorem dL_law_1511 : decode cL_law 1511 = .ok (.if_icmp .eq 5, 3) := by decide +kernel
theorem dL_law_1514 : decode cL_law 1514 = .ok (.iconst 0, 1) := by decide +kernel
theorem dL_law_1515 : decode cL_law 1515 = .ok (.ireturn, 1) := by decide +kernel
theorem dL_law_1516 : decode cL_law 1516 = .ok (.iload 5, 2) := by decide +kernel
theorem dL_law_1518 : decode cL_law 1518 = .ok (.ifCond .ne 15, 3) := by decide +kernel
theorem dL_law_1521 : decode cL_law 1521 = .ok (.aload_n 3, 1) := by decide +kernel
theorem dL_law_1522 : decode cL_law 1522 = .ok (.iconst 0, 1) := by decide +kernel
theorem dL_law_1523 : decode cL_law 1523 = .ok (.laload, 1) := by decide +kernel
theorem dL_law_1524 : decode cL_law 1524 = .ok (.iload 6, 2) := by decide +kernel
theorem dL_law_1526 : decode cL_law 1526 = .ok (.i2l, 1) := by decide +kernel
theorem dL_law_1527 : decode cL_law 1527 = .ok (.lcmp, 1) := by decide +kernel
theorem dL_law_1528 : decode cL_law 1528 = .ok (.ifCond .eq 5, 3) := by decide +kernel
theorem dL_law_1531 : decode cL_law 1531 = .ok (.iconst 0, 1) := by decide +kernel
theorem dL_law_1532 : decode cL_law 1532 = .ok (.ireturn, 1) := by decide +kernel
theorem dL_law_1533 : decode cL_law 1533 = .ok (.goto 454, 3) := by decide +kernel
theorem dL_law_1536 : decode cL_law 1536 = .ok (.aload_n 1, 1) := by decide +kernel
theorem dL_law_1537 : decode cL_law 1537 = .ok (.aload_n 0, 1) := by decide +kernel
theorem dL_law_1538 : decode cL_law 1538 = .ok (.iload 4, 2) := by decide +kernel
theorem dL_law_1540 : decode cL_law 1540 = .ok (.iconst 1, 1) := by decide +kernel
theorem dL_law_1541 : decode cL_law 1541 = .ok (.iadd, 1) := by decide +kernel
theorem dL_law_1542 : decode cL_law 1542 = .ok (.iaload, 1) := by decide +kernel
theorem dL_law_1543 : decode cL_law 1543 = .ok (.aload_n 0, 1) := by decide +kernel
theorem dL_law_1544 : decode cL_law 1544 = .ok (.iload 4, 2) := by decide +kernel
theorem dL_law_1546 : decode cL_law 1546 = .ok (.iconst 2, 1) := by decide +kernel
theorem dL_law_1547 : decode cL_law 1547 = .ok (.iadd, 1) := by decide +kernel
theorem dL_law_1548 : decode cL_law 1548 = .ok (.iaload, 1) := by decide +kernel
theorem dL_law_1549 : decode cL_law 1549 = .ok (.aload_n 3, 1) := by decide +kernel
theorem dL_law_1550 : decode cL_law 1550 = .ok (.invokestatic 198, 3) := by decide +kernel
theorem dL_law_1553 : decode cL_law 1553 = .ok (.istore 5, 2) := by decide +kernel
theorem dL_law_1555 : decode cL_law 1555 = .ok (.aload_n 2, 1) := by decide +kernel
theorem dL_law_1556 : decode cL_law 1556 = .ok (.aload_n 0, 1) := by decide +kernel
theorem dL_law_1557 : decode cL_law 1557 = .ok (.iload 4, 2) := by decide +kernel
theorem dL_law_1559 : decode cL_law 1559 = .ok (.iconst 1, 1) := by decide +kernel
theorem dL_law_1560 : decode cL_law 1560 = .ok (.iadd, 1) := by decide +kernel
theorem dL_law_1561 : decode cL_law 1561 = .ok (.iaload, 1) := by decide +kernel
theorem dL_law_1562 : decode cL_law 1562 = .ok (.aload_n 0, 1) := by decide +kernel
theorem dL_law_1563 : decode cL_law 1563 = .ok (.iload 4, 2) := by decide +kernel
theorem dL_law_1565 : decode cL_law 1565 = .ok (.iconst 2, 1) := by decide +kernel
theorem dL_law_1566 : decode cL_law 1566 = .ok (.iadd, 1) := by decide +kernel
theorem dL_law_1567 : decode cL_law 1567 = .ok (.iaload, 1) := by decide +kernel
theorem dL_law_1568 : decode cL_law 1568 = .ok (.invokevirtual 200, 3) := by decide +kernel
theorem dL_law_1571 : decode cL_law 1571 = .ok (.istore 6, 2) := by decide +kernel
theorem dL_law_1573 : decode cL_law 1573 = .ok (.aload_n 2, 1) := by decide +kernel
theorem dL_law_1574 : decode cL_law 1574 = .ok (.invokevirtual 112, 3) := by decide +kernel
theorem dL_law_1577 : decode cL_law 1577 = .ok (.iload 5, 2) := by decide +kernel
theorem dL_law_1579 : decode cL_law 1579 = .ok (.if_icmp .eq 5, 3) := by decide +kernel
theorem dL_law_1582 : decode cL_law 1582 = .ok (.iconst 0, 1) := by decide +kernel
theorem dL_law_1583 : decode cL_law 1583 = .ok (.ireturn, 1) := by decide +kernel
theorem dL_law_1584 : decode cL_law 1584 = .ok (.iload 5, 2) := by decide +kernel
theorem dL_law_1586 : decode cL_law 1586 = .ok (.ifCond .ne 15, 3) := by decide +kernel
theorem dL_law_1589 : decode cL_law 1589 = .ok (.aload_n 3, 1) := by decide +kernel
theorem dL_law_1590 : decode cL_law 1590 = .ok (.iconst 0, 1) := by decide +kernel
theorem dL_law_1591 : decode cL_law 1591 = .ok (.laload, 1) := by decide +kernel
theorem dL_law_1592 : decode cL_law 1592 = .ok (.iload 6, 2) := by decide +kernel
theorem dL_law_1594 : decode cL_law 1594 = .ok (.i2l, 1) := by decide +kernel
theorem dL_law_1595 : decode cL_law 1595 = .ok (.lcmp, 1) := by decide +kernel
theorem dL_law_1596 : decode cL_law 1596 = .ok (.ifCond .eq 5, 3) := by decide +kernel
theorem dL_law_1599 : decode cL_law 1599 = .ok (.iconst 0, 1) := by decide +kernel
theorem dL_law_1600 : decode cL_law 1600 = .ok (.ireturn, 1) := by decide +kernel
theorem dL_law_1601 : decode cL_law 1601 = .ok (.goto 386, 3) := by decide +kernel
theorem dL_law_1604 : decode cL_law 1604 = .ok (.aload_n 1, 1) := by decide +kernel
theorem dL_law_1605 : decode cL_law 1605 = .ok (.aload_n 0, 1) := by decide +kernel
theorem dL_law_1606 : decode cL_law 1606 = .ok (.iload 4, 2) := by decide +kernel
theorem dL_law_1608 : decode cL_law 1608 = .ok (.iconst 1, 1) := by decide +kernel
theorem dL_law_1609 : decode cL_law 1609 = .ok (.iadd, 1) := by decide +kernel
theorem dL_law_1610 : decode cL_law 1610 = .ok (.iaload, 1) := by decide +kernel
theorem dL_law_1611 : decode cL_law 1611 = .ok (.aload_n 0, 1) := by decide +kernel
theorem dL_law_1612 : decode cL_law 1612 = .ok (.iload 4, 2) := by decide +kernel
theorem dL_law_1614 : decode cL_law 1614 = .ok (.iconst 2, 1) := by decide +kernel
theorem dL_law_1615 : decode cL_law 1615 = .ok (.iadd, 1) := by decide +kernel
theorem dL_law_1616 : decode cL_law 1616 = .ok (.iaload, 1) := by decide +kernel
theorem dL_law_1617 : decode cL_law 1617 = .ok (.aload_n 0, 1) := by decide +kernel
theorem dL_law_1618 : decode cL_law 1618 = .ok (.iload 4, 2) := by decide +kernel
theorem dL_law_1620 : decode cL_law 1620 = .ok (.iconst 3, 1) := by decide +kernel
theorem dL_law_1621 : decode cL_law 1621 = .ok (.iadd, 1) := by decide +kernel
theorem dL_law_1622 : decode cL_law 1622 = .ok (.iaload, 1) := by decide +kernel
theorem dL_law_1623 : decode cL_law 1623 = .ok (.aload_n 3, 1) := by decide +kernel
theorem dL_law_1624 : decode cL_law 1624 = .ok (.invokestatic 201, 3) := by decide +kernel
theorem dL_law_1627 : decode cL_law 1627 = .ok (.istore 5, 2) := by decide +kernel
theorem dL_law_1629 : decode cL_law 1629 = .ok (.aload_n 2, 1) := by decide +kernel
theorem dL_law_1630 : decode cL_law 1630 = .ok (.aload_n 0, 1) := by decide +kernel
theorem dL_law_1631 : decode cL_law 1631 = .ok (.iload 4, 2) := by decide +kernel
theorem dL_law_1633 : decode cL_law 1633 = .ok (.iconst 1, 1) := by decide +kernel
theorem dL_law_1634 : decode cL_law 1634 = .ok (.iadd, 1) := by decide +kernel
theorem dL_law_1635 : decode cL_law 1635 = .ok (.iaload, 1) := by decide +kernel
theorem dL_law_1636 : decode cL_law 1636 = .ok (.aload_n 0, 1) := by decide +kernel
theorem dL_law_1637 : decode cL_law 1637 = .ok (.iload 4, 2) := by decide +kernel
theorem dL_law_1639 : decode cL_law 1639 = .ok (.iconst 2, 1) := by decide +kernel
theorem dL_law_1640 : decode cL_law 1640 = .ok (.iadd, 1) := by decide +kernel
theorem dL_law_1641 : decode cL_law 1641 = .ok (.iaload, 1) := by decide +kernel
theorem dL_law_1642 : decode cL_law 1642 = .ok (.aload_n 0, 1) := by decide +kernel
theorem dL_law_1643 : decode cL_law 1643 = .ok (.iload 4, 2) := by decide +kernel
theorem dL_law_1645 : decode cL_law 1645 = .ok (.iconst 3, 1) := by decide +kernel
theorem dL_law_1646 : decode cL_law 1646 = .ok (.iadd, 1) := by decide +kernel
theorem dL_law_1647 : decode cL_law 1647 = .ok (.iaload, 1) := by decide +kernel
theorem dL_law_1648 : decode cL_law 1648 = .ok (.invokevirtual 203, 3) := by decide +kernel
theorem dL_law_1651 : decode cL_law 1651 = .ok (.istore 6, 2) := by decide +kernel
theorem dL_law_1653 : decode cL_law 1653 = .ok (.aload_n 2, 1) := by decide +kernel
theorem dL_law_1654 : decode cL_law 1654 = .ok (.invokevirtual 112, 3) := by decide +kernel
theorem dL_law_1657 : decode cL_law 1657 = .ok (.iload 5, 2) := by decide +kernel
theorem dL_law_1659 : decode cL_law 1659 = .ok (.if_icmp .eq 5, 3) := by decide +kernel
theorem dL_law_1662 : decode cL_law 1662 = .ok (.iconst 0, 1) := by decide +kernel
theorem dL_law_1663 : decode cL_law 1663 = .ok (.ireturn, 1) := by decide +kernel
theorem dL_law_1664 : decode cL_law 1664 = .ok (.iload 5, 2) := by decide +kernel
theorem dL_law_1666 : decode cL_law 1666 = .ok (.ifCond .ne 15, 3) := by decide +kernel
theorem dL_law_1669 : decode cL_law 1669 = .ok (.aload_n 3, 1) := by decide +kernel
theorem dL_law_1670 : decode cL_law 1670 = .ok (.iconst 0, 1) := by decide +kernel
theorem dL_law_1671 : decode cL_law 1671 = .ok (.laload, 1) := by decide +kernel
theorem dL_law_1672 : decode cL_law 1672 = .ok (.iload 6, 2) := by decide +kernel
theorem dL_law_1674 : decode cL_law 1674 = .ok (.i2l, 1) := by decide +kernel
theorem dL_law_1675 : decode cL_law 1675 = .ok (.lcmp, 1) := by decide +kernel
theorem dL_law_1676 : decode cL_law 1676 = .ok (.ifCond .eq 5, 3) := by decide +kernel
theorem dL_law_1679 : decode cL_law 1679 = .ok (.iconst 0, 1) := by decide +kernel
theorem dL_law_1680 : decode cL_law 1680 = .ok (.ireturn, 1) := by decide +kernel
theorem dL_law_1681 : decode cL_law 1681 = .ok (.goto 306, 3) := by decide +kernel
theorem dL_law_1684 : decode cL_law 1684 = .ok (.aload_n 1, 1) := by decide +kernel
theorem dL_law_1685 : decode cL_law 1685 = .ok (.aload_n 0, 1) := by decide +kernel
theorem dL_law_1686 : decode cL_law 1686 = .ok (.iload 4, 2) := by decide +kernel
theorem dL_law_1688 : decode cL_law 1688 = .ok (.iconst 1, 1) := by decide +kernel
theorem dL_law_1689 : decode cL_law 1689 = .ok (.iadd, 1) := by decide +kernel
theorem dL_law_1690 : decode cL_law 1690 = .ok (.iaload, 1) := by decide +kernel
theorem dL_law_1691 : decode cL_law 1691 = .ok (.aload_n 0, 1) := by decide +kernel
theorem dL_law_1692 : decode cL_law 1692 = .ok (.iload 4, 2) := by decide +kernel
theorem dL_law_1694 : decode cL_law 1694 = .ok (.iconst 2, 1) := by decide +kernel
theorem dL_law_1695 : decode cL_law 1695 = .ok (.iadd, 1) := by decide +kernel
theorem dL_law_1696 : decode cL_law 1696 = .ok (.iaload, 1) := by decide +kernel
theorem dL_law_1697 : decode cL_law 1697 = .ok (.aload_n 3, 1) := by decide +kernel
theorem dL_law_1698 : decode cL_law 1698 = .ok (.invokestatic 204, 3) := by decide +kernel
theorem dL_law_1701 : decode cL_law 1701 = .ok (.istore 5, 2) := by decide +kernel
theorem dL_law_1703 : decode cL_law 1703 = .ok (.aload_n 2, 1) := by decide +kernel
theorem dL_law_1704 : decode cL_law 1704 = .ok (.aload_n 0, 1) := by decide +kernel
theorem dL_law_1705 : decode cL_law 1705 = .ok (.iload 4, 2) := by decide +kernel
theorem dL_law_1707 : decode cL_law 1707 = .ok (.iconst 1, 1) := by decide +kernel
theorem dL_law_1708 : decode cL_law 1708 = .ok (.iadd, 1) := by decide +kernel
theorem dL_law_1709 : decode cL_law 1709 = .ok (.iaload, 1) := by decide +kernel
theorem dL_law_1710 : decode cL_law 1710 = .ok (.aload_n 0, 1) := by decide +kernel
theorem dL_law_1711 : decode cL_law 1711 = .ok (.iload 4, 2) := by decide +kernel
theorem dL_law_1713 : decode cL_law 1713 = .ok (.iconst 2, 1) := by decide +kernel
theorem dL_law_1714 : decode cL_law 1714 = .ok (.iadd, 1) := by decide +kernel
theorem dL_law_1715 : decode cL_law 1715 = .ok (.iaload, 1) := by decide +kernel
theorem dL_law_1716 : decode cL_law 1716 = .ok (.invokevirtual 206, 3) := by decide +kernel
theorem dL_law_1719 : decode cL_law 1719 = .ok (.istore 6, 2) := by decide +kernel
theorem dL_law_1721 : decode cL_law 1721 = .ok (.aload_n 2, 1) := by decide +kernel
theorem dL_law_1722 : decode cL_law 1722 = .ok (.invokevirtual 112, 3) := by decide +kernel
theorem dL_law_1725 : decode cL_law 1725 = .ok (.iload 5, 2) := by decide +kernel
theorem dL_law_1727 : decode cL_law 1727 = .ok (.if_icmp .eq 5, 3) := by decide +kernel
theorem dL_law_1730 : decode cL_law 1730 = .ok (.iconst 0, 1) := by decide +kernel
theorem dL_law_1731 : decode cL_law 1731 = .ok (.ireturn, 1) := by decide +kernel
theorem dL_law_1732 : decode cL_law 1732 = .ok (.iload 5, 2) := by decide +kernel
theorem dL_law_1734 : decode cL_law 1734 = .ok (.ifCond .ne 15, 3) := by decide +kernel
theorem dL_law_1737 : decode cL_law 1737 = .ok (.aload_n 3, 1) := by decide +kernel
theorem dL_law_1738 : decode cL_law 1738 = .ok (.iconst 0, 1) := by decide +kernel
theorem dL_law_1739 : decode cL_law 1739 = .ok (.laload, 1) := by decide +kernel
theorem dL_law_1740 : decode cL_law 1740 = .ok (.iload 6, 2) := by decide +kernel
theorem dL_law_1742 : decode cL_law 1742 = .ok (.i2l, 1) := by decide +kernel
theorem dL_law_1743 : decode cL_law 1743 = .ok (.lcmp, 1) := by decide +kernel
theorem dL_law_1744 : decode cL_law 1744 = .ok (.ifCond .eq 5, 3) := by decide +kernel
theorem dL_law_1747 : decode cL_law 1747 = .ok (.iconst 0, 1) := by decide +kernel
theorem dL_law_1748 : decode cL_law 1748 = .ok (.ireturn, 1) := by decide +kernel
theorem dL_law_1749 : decode cL_law 1749 = .ok (.goto 238, 3) := by decide +kernel
theorem dL_law_1752 : decode cL_law 1752 = .ok (.aload_n 1, 1) := by decide +kernel
theorem dL_law_1753 : decode cL_law 1753 = .ok (.aload_n 0, 1) := by decide +kernel
theorem dL_law_1754 : decode cL_law 1754 = .ok (.iload 4, 2) := by decide +kernel
theorem dL_law_1756 : decode cL_law 1756 = .ok (.iconst 1, 1) := by decide +kernel
theorem dL_law_1757 : decode cL_law 1757 = .ok (.iadd, 1) := by decide +kernel
theorem dL_law_1758 : decode cL_law 1758 = .ok (.iaload, 1) := by decide +kernel
theorem dL_law_1759 : decode cL_law 1759 = .ok (.aload_n 3, 1) := by decide +kernel
theorem dL_law_1760 : decode cL_law 1760 = .ok (.invokestatic 207, 3) := by decide +kernel
theorem dL_law_1763 : decode cL_law 1763 = .ok (.istore 5, 2) := by decide +kernel
theorem dL_law_1765 : decode cL_law 1765 = .ok (.aload_n 2, 1) := by decide +kernel
theorem dL_law_1766 : decode cL_law 1766 = .ok (.aload_n 0, 1) := by decide +kernel
theorem dL_law_1767 : decode cL_law 1767 = .ok (.iload 4, 2) := by decide +kernel
theorem dL_law_1769 : decode cL_law 1769 = .ok (.iconst 1, 1) := by decide +kernel
theorem dL_law_1770 : decode cL_law 1770 = .ok (.iadd, 1) := by decide +kernel
theorem dL_law_1771 : decode cL_law 1771 = .ok (.iaload, 1) := by decide +kernel
theorem dL_law_1772 : decode cL_law 1772 = .ok (.invokevirtual 209, 3) := by decide +kernel
theorem dL_law_1775 : decode cL_law 1775 = .ok (.lstore 6, 2) := by decide +kernel
theorem dL_law_1777 : decode cL_law 1777 = .ok (.aload_n 2, 1) := by decide +kernel
theorem dL_law_1778 : decode cL_law 1778 = .ok (.invokevirtual 112, 3) := by decide +kernel
theorem dL_law_1781 : decode cL_law 1781 = .ok (.iload 5, 2) := by decide +kernel
theorem dL_law_1783 : decode cL_law 1783 = .ok (.if_icmp .eq 5, 3) := by decide +kernel
theorem dL_law_1786 : decode cL_law 1786 = .ok (.iconst 0, 1) := by decide +kernel
theorem dL_law_1787 : decode cL_law 1787 = .ok (.ireturn, 1) := by decide +kernel
theorem dL_law_1788 : decode cL_law 1788 = .ok (.iload 5, 2) := by decide +kernel
theorem dL_law_1790 : decode cL_law 1790 = .ok (.ifCond .ne 14, 3) := by decide +kernel
theorem dL_law_1793 : decode cL_law 1793 = .ok (.aload_n 3, 1) := by decide +kernel
theorem dL_law_1794 : decode cL_law 1794 = .ok (.iconst 0, 1) := by decide +kernel
theorem dL_law_1795 : decode cL_law 1795 = .ok (.laload, 1) := by decide +kernel
theorem dL_law_1796 : decode cL_law 1796 = .ok (.lload 6, 2) := by decide +kernel
theorem dL_law_1798 : decode cL_law 1798 = .ok (.lcmp, 1) := by decide +kernel
theorem dL_law_1799 : decode cL_law 1799 = .ok (.ifCond .eq 5, 3) := by decide +kernel
theorem dL_law_1802 : decode cL_law 1802 = .ok (.iconst 0, 1) := by decide +kernel
theorem dL_law_1803 : decode cL_law 1803 = .ok (.ireturn, 1) := by decide +kernel
theorem dL_law_1804 : decode cL_law 1804 = .ok (.goto 183, 3) := by decide +kernel
theorem dL_law_1807 : decode cL_law 1807 = .ok (.aload_n 1, 1) := by decide +kernel
theorem dL_law_1808 : decode cL_law 1808 = .ok (.aload_n 0, 1) := by decide +kernel
theorem dL_law_1809 : decode cL_law 1809 = .ok (.iload 4, 2) := by decide +kernel
theorem dL_law_1811 : decode cL_law 1811 = .ok (.iconst 1, 1) := by decide +kernel
theorem dL_law_1812 : decode cL_law 1812 = .ok (.iadd, 1) := by decide +kernel
theorem dL_law_1813 : decode cL_law 1813 = .ok (.iaload, 1) := by decide +kernel
theorem dL_law_1814 : decode cL_law 1814 = .ok (.aload_n 3, 1) := by decide +kernel
theorem dL_law_1815 : decode cL_law 1815 = .ok (.invokestatic 210, 3) := by decide +kernel
theorem dL_law_1818 : decode cL_law 1818 = .ok (.istore 5, 2) := by decide +kernel
theorem dL_law_1820 : decode cL_law 1820 = .ok (.aload_n 2, 1) := by decide +kernel
theorem dL_law_1821 : decode cL_law 1821 = .ok (.aload_n 0, 1) := by decide +kernel
theorem dL_law_1822 : decode cL_law 1822 = .ok (.iload 4, 2) := by decide +kernel
theorem dL_law_1824 : decode cL_law 1824 = .ok (.iconst 1, 1) := by decide +kernel
theorem dL_law_1825 : decode cL_law 1825 = .ok (.iadd, 1) := by decide +kernel
theorem dL_law_1826 : decode cL_law 1826 = .ok (.iaload, 1) := by decide +kernel
theorem dL_law_1827 : decode cL_law 1827 = .ok (.invokevirtual 212, 3) := by decide +kernel
theorem dL_law_1830 : decode cL_law 1830 = .ok (.lstore 6, 2) := by decide +kernel
theorem dL_law_1832 : decode cL_law 1832 = .ok (.aload_n 2, 1) := by decide +kernel
theorem dL_law_1833 : decode cL_law 1833 = .ok (.invokevirtual 112, 3) := by decide +kernel
theorem dL_law_1836 : decode cL_law 1836 = .ok (.iload 5, 2) := by decide +kernel
theorem dL_law_1838 : decode cL_law 1838 = .ok (.if_icmp .eq 5, 3) := by decide +kernel
theorem dL_law_1841 : decode cL_law 1841 = .ok (.iconst 0, 1) := by decide +kernel
theorem dL_law_1842 : decode cL_law 1842 = .ok (.ireturn, 1) := by decide +kernel
theorem dL_law_1843 : decode cL_law 1843 = .ok (.iload 5, 2) := by decide +kernel
theorem dL_law_1845 : decode cL_law 1845 = .ok (.ifCond .ne 14, 3) := by decide +kernel
theorem dL_law_1848 : decode cL_law 1848 = .ok (.aload_n 3, 1) := by decide +kernel
theorem dL_law_1849 : decode cL_law 1849 = .ok (.iconst 0, 1) := by decide +kernel
theorem dL_law_1850 : decode cL_law 1850 = .ok (.laload, 1) := by decide +kernel
theorem dL_law_1851 : decode cL_law 1851 = .ok (.lload 6, 2) := by decide +kernel
theorem dL_law_1853 : decode cL_law 1853 = .ok (.lcmp, 1) := by decide +kernel
theorem dL_law_1854 : decode cL_law 1854 = .ok (.ifCond .eq 5, 3) := by decide +kernel
theorem dL_law_1857 : decode cL_law 1857 = .ok (.iconst 0, 1) := by decide +kernel
theorem dL_law_1858 : decode cL_law 1858 = .ok (.ireturn, 1) := by decide +kernel
theorem dL_law_1859 : decode cL_law 1859 = .ok (.goto 128, 3) := by decide +kernel
theorem dL_law_1862 : decode cL_law 1862 = .ok (.aload_n 1, 1) := by decide +kernel
theorem dL_law_1863 : decode cL_law 1863 = .ok (.aload_n 0, 1) := by decide +kernel
theorem dL_law_1864 : decode cL_law 1864 = .ok (.iload 4, 2) := by decide +kernel
theorem dL_law_1866 : decode cL_law 1866 = .ok (.iconst 1, 1) := by decide +kernel
theorem dL_law_1867 : decode cL_law 1867 = .ok (.iadd, 1) := by decide +kernel
theorem dL_law_1868 : decode cL_law 1868 = .ok (.iaload, 1) := by decide +kernel
theorem dL_law_1869 : decode cL_law 1869 = .ok (.aload_n 3, 1) := by decide +kernel
theorem dL_law_1870 : decode cL_law 1870 = .ok (.invokestatic 213, 3) := by decide +kernel
theorem dL_law_1873 : decode cL_law 1873 = .ok (.istore 5, 2) := by decide +kernel
theorem dL_law_1875 : decode cL_law 1875 = .ok (.aload_n 2, 1) := by decide +kernel
theorem dL_law_1876 : decode cL_law 1876 = .ok (.aload_n 0, 1) := by decide +kernel
theorem dL_law_1877 : decode cL_law 1877 = .ok (.iload 4, 2) := by decide +kernel
theorem dL_law_1879 : decode cL_law 1879 = .ok (.iconst 1, 1) := by decide +kernel
theorem dL_law_1880 : decode cL_law 1880 = .ok (.iadd, 1) := by decide +kernel
theorem dL_law_1881 : decode cL_law 1881 = .ok (.iaload, 1) := by decide +kernel
theorem dL_law_1882 : decode cL_law 1882 = .ok (.invokevirtual 215, 3) := by decide +kernel
theorem dL_law_1885 : decode cL_law 1885 = .ok (.lstore 6, 2) := by decide +kernel
theorem dL_law_1887 : decode cL_law 1887 = .ok (.aload_n 2, 1) := by decide +kernel
theorem dL_law_1888 : decode cL_law 1888 = .ok (.invokevirtual 112, 3) := by decide +kernel
theorem dL_law_1891 : decode cL_law 1891 = .ok (.iload 5, 2) := by decide +kernel
theorem dL_law_1893 : decode cL_law 1893 = .ok (.if_icmp .eq 5, 3) := by decide +kernel
theorem dL_law_1896 : decode cL_law 1896 = .ok (.iconst 0, 1) := by decide +kernel
theorem dL_law_1897 : decode cL_law 1897 = .ok (.ireturn, 1) := by decide +kernel
theorem dL_law_1898 : decode cL_law 1898 = .ok (.iload 5, 2) := by decide +kernel
theorem dL_law_1900 : decode cL_law 1900 = .ok (.ifCond .ne 14, 3) := by decide +kernel
theorem dL_law_1903 : decode cL_law 1903 = .ok (.aload_n 3, 1) := by decide +kernel
theorem dL_law_1904 : decode cL_law 1904 = .ok (.iconst 0, 1) := by decide +kernel
theorem dL_law_1905 : decode cL_law 1905 = .ok (.laload, 1) := by decide +kernel
theorem dL_law_1906 : decode cL_law 1906 = .ok (.lload 6, 2) := by decide +kernel
theorem dL_law_1908 : decode cL_law 1908 = .ok (.lcmp, 1) := by decide +kernel
theorem dL_law_1909 : decode cL_law 1909 = .ok (.ifCond .eq 5, 3) := by decide +kernel
theorem dL_law_1912 : decode cL_law 1912 = .ok (.iconst 0, 1) := by decide +kernel
theorem dL_law_1913 : decode cL_law 1913 = .ok (.ireturn, 1) := by decide +kernel
theorem dL_law_1914 : decode cL_law 1914 = .ok (.goto 73, 3) := by decide +kernel
theorem dL_law_1917 : decode cL_law 1917 = .ok (.aload_n 1, 1) := by decide +kernel
theorem dL_law_1918 : decode cL_law 1918 = .ok (.invokevirtual 216, 3) := by decide +kernel
theorem dL_law_1921 : decode cL_law 1921 = .ok (.aload_n 2, 1) := by decide +kernel
theorem dL_law_1922 : decode cL_law 1922 = .ok (.invokevirtual 219, 3) := by decide +kernel
theorem dL_law_1925 : decode cL_law 1925 = .ok (.lcmp, 1) := by decide +kernel
theorem dL_law_1926 : decode cL_law 1926 = .ok (.ifCond .eq 61, 3) := by decide +kernel
theorem dL_law_1929 : decode cL_law 1929 = .ok (.iconst 0, 1) := by decide +kernel
theorem dL_law_1930 : decode cL_law 1930 = .ok (.ireturn, 1) := by decide +kernel
theorem dL_law_1931 : decode cL_law 1931 = .ok (.aload_n 1, 1) := by decide +kernel
theorem dL_law_1932 : decode cL_law 1932 = .ok (.aload_n 0, 1) := by decide +kernel
theorem dL_law_1933 : decode cL_law 1933 = .ok (.iload 4, 2) := by decide +kernel
theorem dL_law_1935 : decode cL_law 1935 = .ok (.iconst 1, 1) := by decide +kernel
theorem dL_law_1936 : decode cL_law 1936 = .ok (.iadd, 1) := by decide +kernel
theorem dL_law_1937 : decode cL_law 1937 = .ok (.iaload, 1) := by decide +kernel
theorem dL_law_1938 : decode cL_law 1938 = .ok (.aload_n 3, 1) := by decide +kernel
theorem dL_law_1939 : decode cL_law 1939 = .ok (.invokestatic 220, 3) := by decide +kernel
theorem dL_law_1942 : decode cL_law 1942 = .ok (.istore 5, 2) := by decide +kernel
theorem dL_law_1944 : decode cL_law 1944 = .ok (.aload_n 2, 1) := by decide +kernel
theorem dL_law_1945 : decode cL_law 1945 = .ok (.aload_n 0, 1) := by decide +kernel
theorem dL_law_1946 : decode cL_law 1946 = .ok (.iload 4, 2) := by decide +kernel
theorem dL_law_1948 : decode cL_law 1948 = .ok (.iconst 1, 1) := by decide +kernel
theorem dL_law_1949 : decode cL_law 1949 = .ok (.iadd, 1) := by decide +kernel
theorem dL_law_1950 : decode cL_law 1950 = .ok (.iaload, 1) := by decide +kernel
theorem dL_law_1951 : decode cL_law 1951 = .ok (.invokevirtual 222, 3) := by decide +kernel
theorem dL_law_1954 : decode cL_law 1954 = .ok (.istore 6, 2) := by decide +kernel
theorem dL_law_1956 : decode cL_law 1956 = .ok (.aload_n 2, 1) := by decide +kernel
theorem dL_law_1957 : decode cL_law 1957 = .ok (.invokevirtual 112, 3) := by decide +kernel
theorem dL_law_1960 : decode cL_law 1960 = .ok (.iload 5, 2) := by decide +kernel
theorem dL_law_1962 : decode cL_law 1962 = .ok (.if_icmp .eq 5, 3) := by decide +kernel
theorem dL_law_1965 : decode cL_law 1965 = .ok (.iconst 0, 1) := by decide +kernel
theorem dL_law_1966 : decode cL_law 1966 = .ok (.ireturn, 1) := by decide +kernel
theorem dL_law_1967 : decode cL_law 1967 = .ok (.iload 5, 2) := by decide +kernel
theorem dL_law_1969 : decode cL_law 1969 = .ok (.ifCond .ne 15, 3) := by decide +kernel
theorem dL_law_1972 : decode cL_law 1972 = .ok (.aload_n 3, 1) := by decide +kernel
theorem dL_law_1973 : decode cL_law 1973 = .ok (.iconst 0, 1) := by decide +kernel
theorem dL_law_1974 : decode cL_law 1974 = .ok (.laload, 1) := by decide +kernel
theorem dL_law_1975 : decode cL_law 1975 = .ok (.iload 6, 2) := by decide +kernel
theorem dL_law_1977 : decode cL_law 1977 = .ok (.i2l, 1) := by decide +kernel
theorem dL_law_1978 : decode cL_law 1978 = .ok (.lcmp, 1) := by decide +kernel
theorem dL_law_1979 : decode cL_law 1979 = .ok (.ifCond .eq 5, 3) := by decide +kernel
theorem dL_law_1982 : decode cL_law 1982 = .ok (.iconst 0, 1) := by decide +kernel
theorem dL_law_1983 : decode cL_law 1983 = .ok (.ireturn, 1) := by decide +kernel
theorem dL_law_1984 : decode cL_law 1984 = .ok (.goto 3, 3) := by decide +kernel
theorem dL_law_1987 : decode cL_law 1987 = .ok (.iinc 4 7, 3) := by decide +kernel
theorem dL_law_1990 : decode cL_law 1990 = .ok (.goto (-1967), 3) := by decide +kernel
theorem dL_law_1993 : decode cL_law 1993 = .ok (.iconst 1, 1) := by decide +kernel
theorem dL_law_1994 : decode cL_law 1994 = .ok (.ireturn, 1) := by decide +kernel
end
section
/-! abstract heaps: cells by number from 1 on (0: null), what each is, and what it holds -/
abbrev AH : Type := Nat × (Nat → Nat) × (Nat → Nat) × (Nat → Nat → Int32) × (Nat → Nat → Int64) × (Nat → Nat → Nat)
def zN (σ : AH) : Nat := σ.1
def zK (σ : AH) (a : Nat) : Nat := σ.2.1 a
def zL (σ : AH) (a : Nat) : Nat := σ.2.2.1 a
def zI (σ : AH) (a k : Nat) : Int32 := σ.2.2.2.1 a k
def zJ (σ : AH) (a k : Nat) : Int64 := σ.2.2.2.2.1 a k
def zR (σ : AH) (a k : Nat) : Nat := σ.2.2.2.2.2 a k
def uI (σ : AH) (a k : Nat) (x : Int32) : AH := (zN σ, zK σ, zL σ, fun b j => if b = a ∧ j = k then x else zI σ b j, zJ σ, zR σ)
def uJ (σ : AH) (a k : Nat) (x : Int64) : AH := (zN σ, zK σ, zL σ, zI σ, fun b j => if b = a ∧ j = k then x else zJ σ b j, zR σ)
def uR (σ : AH) (a k : Nat) (x : Nat) : AH := (zN σ, zK σ, zL σ, zI σ, zJ σ, fun b j => if b = a ∧ j = k then x else zR σ b j)
def nw (σ : AH) (κ n : Nat) : AH := (zN σ + 1, fun b => if b = zN σ + 1 then κ else zK σ b, fun b => if b = zN σ + 1 then n else zL σ b, fun b j => if b = zN σ + 1 then 0 else zI σ b j, fun b j => if b = zN σ + 1 then 0 else zJ σ b j, fun b j => if b = zN σ + 1 then 0 else zR σ b j)
theorem zN_uI (σ : AH) (a k : Nat) (x : Int32) : zN (uI σ a k x) = zN σ := rfl
theorem zK_uI (σ : AH) (a k : Nat) (x : Int32) (b : Nat) : zK (uI σ a k x) b = zK σ b := rfl
theorem zL_uI (σ : AH) (a k : Nat) (x : Int32) (b : Nat) : zL (uI σ a k x) b = zL σ b := rfl
theorem zI_uI (σ : AH) (a k : Nat) (x : Int32) (b j : Nat) : zI (uI σ a k x) b j = if b = a ∧ j = k then x else zI σ b j := rfl
theorem zJ_uI (σ : AH) (a k : Nat) (x : Int32) (b j : Nat) : zJ (uI σ a k x) b j = zJ σ b j := rfl
theorem zR_uI (σ : AH) (a k : Nat) (x : Int32) (b j : Nat) : zR (uI σ a k x) b j = zR σ b j := rfl
theorem zN_uJ (σ : AH) (a k : Nat) (x : Int64) : zN (uJ σ a k x) = zN σ := rfl
theorem zK_uJ (σ : AH) (a k : Nat) (x : Int64) (b : Nat) : zK (uJ σ a k x) b = zK σ b := rfl
theorem zL_uJ (σ : AH) (a k : Nat) (x : Int64) (b : Nat) : zL (uJ σ a k x) b = zL σ b := rfl
theorem zI_uJ (σ : AH) (a k : Nat) (x : Int64) (b j : Nat) : zI (uJ σ a k x) b j = zI σ b j := rfl
theorem zJ_uJ (σ : AH) (a k : Nat) (x : Int64) (b j : Nat) : zJ (uJ σ a k x) b j = if b = a ∧ j = k then x else zJ σ b j := rfl
theorem zR_uJ (σ : AH) (a k : Nat) (x : Int64) (b j : Nat) : zR (uJ σ a k x) b j = zR σ b j := rfl
theorem zN_uR (σ : AH) (a k x : Nat) : zN (uR σ a k x) = zN σ := rfl
theorem zK_uR (σ : AH) (a k x : Nat) (b : Nat) : zK (uR σ a k x) b = zK σ b := rfl
theorem zL_uR (σ : AH) (a k x : Nat) (b : Nat) : zL (uR σ a k x) b = zL σ b := rfl
theorem zI_uR (σ : AH) (a k x : Nat) (b j : Nat) : zI (uR σ a k x) b j = zI σ b j := rfl
theorem zJ_uR (σ : AH) (a k x : Nat) (b j : Nat) : zJ (uR σ a k x) b j = zJ σ b j := rfl
theorem zR_uR (σ : AH) (a k x : Nat) (b j : Nat) : zR (uR σ a k x) b j = if b = a ∧ j = k then x else zR σ b j := rfl
theorem zN_nw (σ : AH) (κ n : Nat) : zN (nw σ κ n) = zN σ + 1 := rfl
theorem zK_nw (σ : AH) (κ n b : Nat) : zK (nw σ κ n) b = if b = zN σ + 1 then κ else zK σ b := rfl
theorem zL_nw (σ : AH) (κ n b : Nat) : zL (nw σ κ n) b = if b = zN σ + 1 then n else zL σ b := rfl
theorem zI_nw (σ : AH) (κ n b j : Nat) : zI (nw σ κ n) b j = if b = zN σ + 1 then 0 else zI σ b j := rfl
theorem zJ_nw (σ : AH) (κ n b j : Nat) : zJ (nw σ κ n) b j = if b = zN σ + 1 then 0 else zJ σ b j := rfl
theorem zR_nw (σ : AH) (κ n b j : Nat) : zR (nw σ κ n) b j = if b = zN σ + 1 then 0 else zR σ b j := rfl
/-- what an abstract value is on the machine -/
def cv (ρ : Nat → Nat) (v : Value) : Value := match v with
  | .ref a => if a = 0 then .null else .ref (ρ a)
  | v => v
def oref (ρ : Nat → Nat) (a : Nat) : Option Nat := if a = 0 then none else some (ρ a)
theorem cv_int (ρ : Nat → Nat) (x : Int32) : cv ρ (.int x) = .int x := rfl
theorem cv_long (ρ : Nat → Nat) (x : Int64) : cv ρ (.long x) = .long x := rfl
theorem cv_ref {ρ : Nat → Nat} {a : Nat} (h : a ≠ 0) : cv ρ (.ref a) = .ref (ρ a) := by simp [cv, h]
theorem cv_null (ρ : Nat → Nat) : cv ρ (.ref 0) = .null := rfl
theorem cv_rf (ρ : Nat → Nat) (a : Nat) : va_rf (oref ρ a) = cv ρ (.ref a) := by
  by_cases h : a = 0 <;> simp [cv, oref, va_rf, h]
theorem cv_cat (ρ : Nat → Nat) (v : Value) : (cv ρ v).category = v.category := by
  cases v with
  | ref a => by_cases h : a = 0 <;> simp [cv, h, Value.category]
  | _ => rfl
/-- a value's reference lies among n cells -/
def wv (n : Nat) (v : Value) : Prop := match v with
  | .ref a => a ≤ n
  | _ => True
theorem wv_mono {n m : Nat} (h : n ≤ m) {v : Value} (hv : wv n v) : wv m v := by
  cases v with
  | ref a => exact Nat.le_trans hv h
  | _ => trivial
theorem cv_agree {ρ ρ' : Nat → Nat} {n : Nat} (h : ∀ a, 1 ≤ a → a ≤ n → ρ' a = ρ a) {v : Value} (hv : wv n v) : cv ρ' v = cv ρ v := by
  cases v with
  | ref a =>
    by_cases h0 : a = 0
    · simp [cv, h0]
    · simp [cv, h0, h a (Nat.pos_of_ne_zero h0) hv]
  | _ => rfl
/-- the classes' fields: their types and number -/
def fT : Nat → Nat → FieldType := fun ci => match ci with
  | 0 => tyX0 | 1 => tyX1 | 2 => tyX2 | 3 => tyX3 | 4 => tyX4 | 5 => tyX5 | 6 => tyX6 | 7 => tyX7 | 8 => tyX8 | 9 => tyX9 | 10 => tyX10 | 11 => tyX11 | _ => tyX12
def fN : Nat → Nat := fun ci => match ci with
  | 0 => 6 | 1 => 5 | 2 => 9 | 3 => 7 | 4 => 2 | 5 => 4 | 6 => 1 | 7 => 2 | 8 => 7 | 9 => 8 | 10 => 5 | 11 => 11 | _ => 50
def fv (ρ : Nat → Nat) (σ : AH) (a : Nat) (ty : FieldType) (k : Nat) : Value := match ty with
  | .long => .long (zJ σ a k)
  | .object _ => cv ρ (.ref (zR σ a k))
  | .array _ => cv ρ (.ref (zR σ a k))
  | _ => .int (zI σ a k)
def ent (dA : Nat → ClassId) (ρ : Nat → Nat) (σ : AH) (a : Nat) : va_E :=
  if zK σ a < 13 then .inr (zK σ a, (List.range (fN (zK σ a))).map (fun k => fv ρ σ a (fT (zK σ a) k) k))
  else .inl (dA (zK σ a), zL σ a, if zK σ a = 20 ∨ zK σ a = 22 then .inl (zI σ a) else if zK σ a = 21 then .inr (.inl (zJ σ a)) else .inr (.inr (.inr (.inr (fun j => oref ρ (zR σ a j))))))
def wl (dA : Nat → ClassId) (ρ : Nat → Nat) (σ : AH) : va_W := (List.range (zN σ - 1)).map (fun k => (ρ (k + 2), ent dA ρ σ (k + 2)))
theorem wl_get {dA : Nat → ClassId} {ρ : Nat → Nat} {σ : AH} {a : Nat} (h0 : a ≠ 0) (h1 : a ≠ 1) (h : a ≤ zN σ) : (wl dA ρ σ)[a - 2]? = some (ρ a, ent dA ρ σ a) := by
  have e : a - 2 + 2 = a := by omega
  simp [wl, List.getElem?_range (show a - 2 < zN σ - 1 by omega), e]
theorem wl_len (dA : Nat → ClassId) (ρ : Nat → Nat) (σ : AH) : (wl dA ρ σ).length = zN σ - 1 := by simp [wl]
theorem wl_set {dA : Nat → ClassId} {ρ : Nat → Nat} {σ σ' : AH} {a : Nat} {e : va_E} (h0 : a ≠ 0) (h1 : a ≠ 1) (hn : zN σ' = zN σ) (hs : ∀ b, b ≠ a → ent dA ρ σ' b = ent dA ρ σ b) (he : ent dA ρ σ' a = e) : (wl dA ρ σ).set (a - 2) (ρ a, e) = wl dA ρ σ' := by
  apply List.ext_getElem?
  intro i
  by_cases hi : i = a - 2
  · subst hi
    by_cases hl : a - 2 < zN σ - 1
    · rw [List.getElem?_set_self (by rw [wl_len]; exact hl), wl_get h0 h1 (by rw [hn]; omega), he]
    · rw [List.getElem?_eq_none (by rw [List.length_set, wl_len]; omega), List.getElem?_eq_none (by rw [wl_len, hn]; omega)]
  · rw [List.getElem?_set_ne (Ne.symm hi)]
    by_cases hl : i < zN σ - 1
    · have g1 := wl_get (dA := dA) (ρ := ρ) (σ := σ) (a := i + 2) (by omega) (by omega) (by omega)
      have g2 := wl_get (dA := dA) (ρ := ρ) (σ := σ') (a := i + 2) (by omega) (by omega) (by omega)
      rw [Nat.add_sub_cancel] at g1 g2
      rw [g1, g2, hs (i + 2) (by omega)]
    · rw [List.getElem?_eq_none (by rw [wl_len]; omega), List.getElem?_eq_none (by rw [wl_len, hn]; omega)]
def rup (ρ : Nat → Nat) (a q : Nat) : Nat → Nat := fun b => if b = a then q else ρ b
theorem oref_rup {ρ : Nat → Nat} {n q b : Nat} (h : b ≤ n) : oref (rup ρ (n + 1) q) b = oref ρ b := by
  by_cases h0 : b = 0
  · simp [oref, h0]
  · simp [oref, h0, rup, show ¬ b = n + 1 by omega]
theorem cv_rup {ρ : Nat → Nat} {n q b : Nat} (h : b ≤ n) : cv (rup ρ (n + 1) q) (.ref b) = cv ρ (.ref b) := by
  rw [← cv_rf, ← cv_rf, oref_rup h]
theorem ent_nw_old {dA : Nat → ClassId} {ρ : Nat → Nat} {σ : AH} {κ n q a : Nat} (hc : ∀ b j, zR σ b j ≤ zN σ) (ha : a ≤ zN σ) : ent dA (rup ρ (zN σ + 1) q) (nw σ κ n) a = ent dA ρ σ a := by
  have hne : ¬ a = zN σ + 1 := by omega
  have e1 : zK (nw σ κ n) a = zK σ a := by rw [zK_nw, if_neg hne]
  have e2 : zL (nw σ κ n) a = zL σ a := by rw [zL_nw, if_neg hne]
  have e3 : zI (nw σ κ n) a = zI σ a := by funext j; rw [zI_nw, if_neg hne]
  have e4 : zJ (nw σ κ n) a = zJ σ a := by funext j; rw [zJ_nw, if_neg hne]
  have e5 : zR (nw σ κ n) a = zR σ a := by funext j; rw [zR_nw, if_neg hne]
  have e6 : (fun j => oref (rup ρ (zN σ + 1) q) (zR (nw σ κ n) a j)) = fun j => oref ρ (zR σ a j) := by funext j; rw [e5, oref_rup (hc a j)]
  have e7 : ∀ ty k, fv (rup ρ (zN σ + 1) q) (nw σ κ n) a ty k = fv ρ σ a ty k := by
    intro ty k
    cases ty <;> simp only [fv, e3, e4, e5, cv_rup (hc a k)]
  unfold ent
  rw [e1, e2, e3, e4, e6]
  simp only [e7]
theorem wl_push {dA : Nat → ClassId} {ρ : Nat → Nat} {σ : AH} {κ n q : Nat} {e : va_E} (hc : ∀ b j, zR σ b j ≤ zN σ) (hz : 1 ≤ zN σ) (he : ent dA (rup ρ (zN σ + 1) q) (nw σ κ n) (zN σ + 1) = e) : wl dA ρ σ ++ [(q, e)] = wl dA (rup ρ (zN σ + 1) q) (nw σ κ n) := by
  unfold wl
  have e2 : zN σ - 1 + 2 = zN σ + 1 := by omega
  rw [show zN (nw σ κ n) - 1 = (zN σ - 1) + 1 by rw [zN_nw]; omega, List.range_succ, List.map_append]
  congr 1
  · apply List.map_congr_left
    intro k hk
    have hk := List.mem_range.mp hk
    rw [ent_nw_old hc (by omega)]
    simp [rup, show ¬ k + 1 = zN σ by omega]
  · have e3 : zN σ - 1 + 1 = zN σ := by omega
    simp [e2, e3, he, rup]
theorem ent_obj {dA : Nat → ClassId} {ρ : Nat → Nat} {σ : AH} {a ci : Nat} (h : zK σ a = ci) (hc : ci < 13) : ent dA ρ σ a = .inr (ci, (List.range (fN ci)).map (fun k => fv ρ σ a (fT ci k) k)) := by
  unfold ent; rw [h, if_pos hc]
theorem ent_ia {dA : Nat → ClassId} {ρ : Nat → Nat} {σ : AH} {a : Nat} (h : zK σ a = 20) : ent dA ρ σ a = .inl (dA 20, zL σ a, .inl (zI σ a)) := by
  unfold ent; rw [h]; rfl
theorem ent_za {dA : Nat → ClassId} {ρ : Nat → Nat} {σ : AH} {a : Nat} (h : zK σ a = 22) : ent dA ρ σ a = .inl (dA 22, zL σ a, .inl (zI σ a)) := by
  unfold ent; rw [h]; rfl
theorem ent_ja {dA : Nat → ClassId} {ρ : Nat → Nat} {σ : AH} {a : Nat} (h : zK σ a = 21) : ent dA ρ σ a = .inl (dA 21, zL σ a, .inr (.inl (zJ σ a))) := by
  unfold ent; rw [h]; rfl
theorem ent_qa {dA : Nat → ClassId} {ρ : Nat → Nat} {σ : AH} {a κ : Nat} (h : zK σ a = κ) (hk : 30 ≤ κ) : ent dA ρ σ a = .inl (dA κ, zL σ a, .inr (.inr (.inr (.inr (fun j => oref ρ (zR σ a j)))))) := by
  unfold ent
  rw [h, if_neg (by omega), if_neg (by omega), if_neg (by omega)]
theorem fv_set {ρ : Nat → Nat} {σ σ' : AH} {a ci k : Nat} {v : Value} (hk : k < fN ci) (hs : ∀ j, j ≠ k → fv ρ σ' a (fT ci j) j = fv ρ σ a (fT ci j) j) (hv : fv ρ σ' a (fT ci k) k = v) : ((List.range (fN ci)).map (fun k => fv ρ σ a (fT ci k) k)).set k v = (List.range (fN ci)).map (fun k => fv ρ σ' a (fT ci k) k) := by
  apply List.ext_getElem?
  intro i
  by_cases hi : i = k
  · subst hi
    rw [List.getElem?_set_self (by simpa using hk)]
    simp [List.getElem?_range hk, hv]
  · rw [List.getElem?_set_ne (Ne.symm hi)]
    by_cases hl : i < fN ci
    · simp [List.getElem?_range hl, hs i hi]
    · rw [List.getElem?_eq_none (by simp; omega), List.getElem?_eq_none (by simp; omega)]
theorem fv_get {ρ : Nat → Nat} {σ : AH} {a ci k : Nat} (hk : k < fN ci) : ((List.range (fN ci)).map (fun k => fv ρ σ a (fT ci k) k))[k]? = some (fv ρ σ a (fT ci k) k) := by
  simp [List.getElem?_range hk]
theorem ent_uI {dA : Nat → ClassId} {ρ : Nat → Nat} {σ : AH} {a k b : Nat} {x : Int32} (h : b ≠ a) : ent dA ρ (uI σ a k x) b = ent dA ρ σ b := by
  have e3 : zI (uI σ a k x) b = zI σ b := by funext j; rw [zI_uI, if_neg (fun q => h q.1)]
  have e7 : ∀ ty j, fv ρ (uI σ a k x) b ty j = fv ρ σ b ty j := by
    intro ty j
    cases ty <;> simp only [fv, e3] <;> rfl
  unfold ent
  simp only [e7]
  rw [e3]
  rfl
theorem ent_uJ {dA : Nat → ClassId} {ρ : Nat → Nat} {σ : AH} {a k b : Nat} {x : Int64} (h : b ≠ a) : ent dA ρ (uJ σ a k x) b = ent dA ρ σ b := by
  have e3 : zJ (uJ σ a k x) b = zJ σ b := by funext j; rw [zJ_uJ, if_neg (fun q => h q.1)]
  have e7 : ∀ ty j, fv ρ (uJ σ a k x) b ty j = fv ρ σ b ty j := by
    intro ty j
    cases ty <;> simp only [fv, e3] <;> rfl
  unfold ent
  simp only [e7]
  rw [e3]
  rfl
theorem ent_uR {dA : Nat → ClassId} {ρ : Nat → Nat} {σ : AH} {a k b : Nat} {x : Nat} (h : b ≠ a) : ent dA ρ (uR σ a k x) b = ent dA ρ σ b := by
  have e3 : zR (uR σ a k x) b = zR σ b := by funext j; rw [zR_uR, if_neg (fun q => h q.1)]
  have e7 : ∀ ty j, fv ρ (uR σ a k x) b ty j = fv ρ σ b ty j := by
    intro ty j
    cases ty <;> simp only [fv, e3] <;> rfl
  unfold ent
  simp only [e7]
  rw [e3]
  rfl
end
section
/-! the run's own things: launch, class numbers, the numbers of array classes, the heap at the law's start -/
abbrev GP : Type := Launch × va_G × (Nat → ClassId) × Heap
abbrev MI : Type := MethodName × ByteArray × Nat × Option FieldType × List (Nat × Nat × Nat × Nat) × Room
def bs (Hb : Heap) : Nat → Prop := fun q => Hb.size ≤ q
def lw_good : List Cond := lw_tbl.filter goodWord
theorem lw_g {w : Cond} (i : Nat) (h : lw_tbl[i]? = some w) (hg : goodWord w = true) : w ∈ lw_good := List.mem_filter.mpr ⟨List.mem_of_getElem? h, hg⟩
theorem lw_goodIn (ws : List Cond) (h : ∀ w ∈ ws, w ∈ lw_good) : GoodIn lw_good ws := fun w hw => ⟨h w hw, good_of_word (List.mem_filter.mp (h w hw)).2⟩
def tysOf (dA : Nat → ClassId) : List (ClassId × FieldType) := [(dA 20, .int), (dA 21, .long), (dA 22, .boolean), (dA 30, .object RX0), (dA 32, .object RX2), (dA 33, .object RX3), (dA 35, .object RX5), (dA 39, .object RX9)]
def lw_nest : List (String × Nat × MethodName × String) := lw_tbl.filterMap fun w => match w with
  | .methodLinkNest a i x h => some (a, i, x, h)
  | _ => none
def lw_str : List (String × Nat × String) := lw_tbl.filterMap fun w => match w with
  | .stringRef a i x => some (a, i, x)
  | _ => none
def lw_decl : List MethodName := lw_tbl.filterMap fun w => match w with
  | .declares x => some x
  | _ => none
def lw_ao : List String := [RX0, RX2, RX3, RX5, RX9]
def lw_ex : List String := ["java/lang/IndexOutOfBoundsException", "java/lang/IllegalArgumentException", "java/lang/IllegalStateException"]
/-- what holds of the machine's tables, and of the heap at the law's start -/
def Amb (g : GP) (U : State) : Prop :=
  va_K g.2.1 vwCl (tysOf g.2.2.1) U ∧ (∀ q ∈ lw_nest, va_Nw (.methodLinkNest q.1 q.2.1 q.2.2.1 q.2.2.2) U) ∧ (∀ C ∈ lw_ao, va_AO C U) ∧ (∀ q ∈ lw_str, ∃ a, vk_R q.1 q.2.1 q.2.2 a U) ∧ (∀ C ∈ lw_ex, va_Nw (.castable C C) U) ∧ (∀ C ∈ lw_ex, ∀ C' ∈ lw_ex, C ≠ C' → va_Nc C C' U) ∧
    vx_Zq Bundle.tN "UNASSIGNED_STACK" Bundle.steD (bs g.2.2.2) U g.2.2.2 ∧ vx_Zq Bundle.tN "SUPPRESSED_SENTINEL" Bundle.listD (bs g.2.2.2) U g.2.2.2 ∧ ∀ x ∈ lw_decl, va_Nw (.declares x) U
theorem Amb.warm {g : GP} {s U : State} (hW : s.WarmedH U.vm) (h : Amb g s) : Amb g U := by
  obtain ⟨h1, h2, h3, h4, h5, h6, h7, h8, h9⟩ := h
  exact ⟨va_K.moved hW.alike h1, fun q hq => va_Nw.warmM hW (h2 q hq), fun C hC => va_AO.moved hW.alike (h3 C hC), fun q hq => (h4 q hq).imp fun a ha => vk_R.warm hW ha, fun C hC => va_Nw.warmC hW (h5 C hC), fun C hC C' hC' hn => va_Nc.moved hW.alike (h6 C hC C' hC' hn), vx_Zq.moved hW.alike h7, vx_Zq.moved hW.alike h8, fun x hx => va_Nw.warmD hW (h9 x hx)⟩
/-- the heap holds the abstract one -/
def Cn (g : GP) (ρ : Nat → Nat) (σ : AH) (H : Heap) : Prop :=
  va_P g.2.1 vwCl (wl g.2.2.1 ρ σ) H ∧ va_D (bs g.2.2.2) (wl g.2.2.1 ρ σ) ∧ g.2.2.2.size ≤ H.size ∧ (∀ q : Nat, q < g.2.2.2.size → H[q]? = g.2.2.2[q]?) ∧ (∀ a k, zR σ a k ≤ zN σ) ∧ 1 ≤ zN σ ∧ zK σ 1 = 19
theorem ne1 {g : GP} {ρ : Nat → Nat} {σ : AH} {H : Heap} {a κ : Nat} (hC : Cn g ρ σ H) (hK : zK σ a = κ) (hk : κ ≠ 19) : a ≠ 1 := fun e => hk (by rw [← hK, e]; exact hC.2.2.2.2.2.2)
/-- what holds all along a call of a method -/
def Cx (g : GP) (μ : MI) (CX : State → Array Value → Prop) (p : Program) (s : State) (m : MethodId) (args : Array Value) (meth : Method) (c : Code) : Prop :=
  p.tables.exec = Jvm.exec ∧ c.code = μ.2.1 ∧ c.maxLocals = μ.2.2.1 ∧ s.vm.findClass μ.1.cls = some m.cls ∧ (∀ w ∈ lw_good, w.before args s = true) ∧ meth.locks = false ∧ meth.sig.returnType = μ.2.2.2.1 ∧ meth.name = μ.1.name ∧ c.exceptionTable.toList = tableOf μ.2.2.2.2.1 ∧ Amb g s ∧ g.2.2.2.size ≤ s.heap.size ∧ (∀ q : Nat, q < g.2.2.2.size → s.heap[q]? = g.2.2.2[q]?) ∧ g.1.stackTraces = false ∧ CX s args
def lcv (ρ : Nat → Nat) (ls : List (Nat × Value)) : List (Nat × Value) := ls.map (fun q => (q.1, cv ρ q.2))
/-- what holds at a point of it -/
def Pt1 (g : GP) (μ : MI) (s : State) (k n : Nat) (ls : List (Nat × Value)) (st : List Value) (σ : AH) (H : Heap) (locs : List Loc) (cells slots : Nat) (ρ ρ0 : Nat → Nat) (n0 : Nat) (lr : Array Slot) : Prop :=
  Cn g ρ σ H ∧ (∀ q ∈ locs, bs g.2.2.2 q.base) ∧ cells + k ≤ μ.2.2.2.2.2.cells ∧ slots + n ≤ μ.2.2.2.2.2.slots ∧ s.heap.size ≤ H.size ∧ (∀ a, 1 ≤ a → a ≤ n0 → ρ a = ρ0 a) ∧ n0 ≤ zN σ ∧ lv_has lr μ.2.2.1 (lcv ρ ls) ∧ (∀ q ∈ ls, wv (zN σ) q.2) ∧ ∀ v ∈ st, wv (zN σ) v
abbrev ET : Type := List Frame → Array Value → State → (Nat → Nat) → Nat → State → Prop
/-- from here, with k cells and n slots to spare, the method comes to its end E -/
def V (g : GP) (μ : MI) (E : ET) (CX : State → Array Value → Prop) (k n pc : Nat) (ls : List (Nat × Value)) (st : List Value) (σ : AH) : Prop :=
  ∀ (p : Program) (e : Env) (s : State) (m : MethodId) (args : Array Value) (below : List Frame) (meth : Method) (c : Code), Cx g μ CX p s m args meth c →
    ∀ (H : Heap) (locs : List Loc) (cells slots : Nat) (ρ ρ0 : Nat → Nat) (n0 : Nat) (lr : Array Slot), Pt1 g μ s k n ls st σ H locs cells slots ρ ρ0 n0 lr →
      W p g.1 e μ.2.2.2.2.2 s m args below meth c H locs cells slots (E below args s ρ0 n0) (F0 m pc lr (st.map (cv ρ)))
def Qe (g : GP) (ρ0 : Nat → Nat) (n0 : Nat) (Q : AH → Option Value → Prop) : Array Value → State → Outcome → State → Prop := fun _ st o t =>
  ∃ (ρ : Nat → Nat) (σ : AH) (rv : Option Value), o = .returned (rv.map (cv ρ)) ∧ Q σ rv ∧ Cn g ρ σ t.heap ∧ (∀ a, 1 ≤ a → a ≤ n0 → ρ a = ρ0 a) ∧ n0 ≤ zN σ ∧ (∀ v ∈ rv, wv (zN σ) v) ∧ st.heap.size ≤ t.heap.size
def Xe (g : GP) (ρ0 : Nat → Nat) (n0 : Nat) (X : AH → String → Prop) : String → State → State → Prop := fun E st t =>
  ∃ (ρ : Nat → Nat) (σ : AH), X σ E ∧ Cn g ρ σ t.heap ∧ (∀ a, 1 ≤ a → a ≤ n0 → ρ a = ρ0 a) ∧ n0 ≤ zN σ ∧ st.heap.size ≤ t.heap.size
/-- a method's end: an answer, or an exception -/
def Em (g : GP) (μ : MI) (Q : AH → Option Value → Prop) (X : AH → String → Prop) : ET := fun below args s ρ0 n0 =>
  vx_MQ below (Qe g ρ0 n0 Q) (Xe g ρ0 n0 X) args s μ.2.2.2.2.2.cells μ.2.2.2.2.2.slots (bs g.2.2.2)
abbrev CT : State → Array Value → Prop := fun _ _ => True

/-! ===== one instruction that leaves heap and locals ===== -/
section VR
variable {g : GP} {μ : MI} {E : ET} {CX : State → Array Value → Prop} {k n pc : Nat} {ls : List (Nat × Value)} {st : List Value} {σ : AH}
theorem mkS {p : Program} {s : State} {m : MethodId} {args : Array Value} {meth : Method} {c : Code} {H : Heap} {locs : List Loc} {cells slots : Nat} {ρ ρ0 : Nat → Nat} {n0 : Nat} {lr : Array Slot} (C : Cx g μ CX p s m args meth c) (P : Pt1 g μ s k n ls st σ H locs cells slots ρ ρ0 n0 lr) : va_S (bs g.2.2.2) s.heap H locs :=
  ⟨P.2.2.2.2.1, fun q _ h2 => by
    have hq : q < g.2.2.2.size := Nat.not_le.mp h2
    rw [P.1.2.2.2.1 q hq, C.2.2.2.2.2.2.2.2.2.2.2.1 q hq], P.2.1⟩
theorem V_step {pc' : Nat} {st0 st' : List Value} (hw : (∀ a k, zR σ a k ≤ zN σ) → (∀ q ∈ ls, wv (zN σ) q.2) → (∀ v ∈ st0, wv (zN σ) v) → ∀ v ∈ st', wv (zN σ) v)
    (h : ∀ (p : Program) (e : Env) (s : State) (m : MethodId) (args : Array Value) (below : List Frame) (meth : Method) (c : Code), Cx g μ CX p s m args meth c → ∀ (H : Heap) (locs : List Loc) (cells slots : Nat) (ρ : Nat → Nat) (lr : Array Slot) (Q : State → Prop), Cn g ρ σ H → lv_has lr μ.2.2.1 (lcv ρ ls) → (∀ v ∈ st0, wv (zN σ) v) → cells ≤ μ.2.2.2.2.2.cells ∧ slots ≤ μ.2.2.2.2.2.slots →
      W p g.1 e μ.2.2.2.2.2 s m args below meth c H locs cells slots Q (F0 m pc' lr (st'.map (cv ρ))) → W p g.1 e μ.2.2.2.2.2 s m args below meth c H locs cells slots Q (F0 m pc lr (st0.map (cv ρ))))
    (kk : V g μ E CX k n pc' ls st' σ) : V g μ E CX k n pc ls st0 σ := by
  intro p e s m args below meth c C H locs cells slots ρ ρ0 n0 lr P
  obtain ⟨p1, p2, p3, p4, p5, p6, p7, p8, p9, p10⟩ := P
  exact h p e s m args below meth c C H locs cells slots ρ lr _ p1 p8 p10 ⟨by omega, by omega⟩ (kk p e s m args below meth c C H locs cells slots ρ ρ0 n0 lr ⟨p1, p2, p3, p4, p5, p6, p7, p8, p9, hw p1.2.2.2.2.1 p9 p10⟩)
theorem V_br {tgt nx : Nat} {cond : Prop} {st0 st' : List Value} (hw : (∀ v ∈ st0, wv (zN σ) v) → ∀ v ∈ st', wv (zN σ) v)
    (h : ∀ (p : Program) (e : Env) (s : State) (m : MethodId) (args : Array Value) (below : List Frame) (meth : Method) (c : Code), Cx g μ CX p s m args meth c → ∀ (H : Heap) (locs : List Loc) (cells slots : Nat) (ρ : Nat → Nat) (lr : Array Slot) (Q : State → Prop),
      (cond → W p g.1 e μ.2.2.2.2.2 s m args below meth c H locs cells slots Q (F0 m tgt lr (st'.map (cv ρ)))) → (¬ cond → W p g.1 e μ.2.2.2.2.2 s m args below meth c H locs cells slots Q (F0 m nx lr (st'.map (cv ρ)))) → W p g.1 e μ.2.2.2.2.2 s m args below meth c H locs cells slots Q (F0 m pc lr (st0.map (cv ρ))))
    (kt : cond → V g μ E CX k n tgt ls st' σ) (kf : ¬ cond → V g μ E CX k n nx ls st' σ) : V g μ E CX k n pc ls st0 σ := by
  intro p e s m args below meth c C H locs cells slots ρ ρ0 n0 lr P
  obtain ⟨p1, p2, p3, p4, p5, p6, p7, p8, p9, p10⟩ := P
  exact h p e s m args below meth c C H locs cells slots ρ lr _ (fun q => kt q p e s m args below meth c C H locs cells slots ρ ρ0 n0 lr ⟨p1, p2, p3, p4, p5, p6, p7, p8, p9, hw p10⟩) (fun q => kf q p e s m args below meth c C H locs cells slots ρ ρ0 n0 lr ⟨p1, p2, p3, p4, p5, p6, p7, p8, p9, hw p10⟩)
/-- fewer locals, in another order; more room -/
theorem V_less {ls' : List (Nat × Value)} {k' n' : Nat} (hl : ∀ q ∈ ls', q ∈ ls) (hk : k' ≤ k) (hn : n' ≤ n) (kk : V g μ E CX k' n' pc ls' st σ) : V g μ E CX k n pc ls st σ := by
  intro p e s m args below meth c C H locs cells slots ρ ρ0 n0 lr P
  obtain ⟨p1, p2, p3, p4, p5, p6, p7, p8, p9, p10⟩ := P
  refine kk p e s m args below meth c C H locs cells slots ρ ρ0 n0 lr ⟨p1, p2, by omega, by omega, p5, p6, p7, ⟨p8.1, p8.2.1, fun q hq => ?_⟩, fun q hq => p9 q (hl q hq), p10⟩
  obtain ⟨z, hz, rfl⟩ := List.mem_map.mp hq
  exact p8.2.2 _ (List.mem_map.mpr ⟨z, hl z hz, rfl⟩)
theorem wv_i {N : Nat} {x : Int32} : wv N (.int x) := trivial
theorem wv_l {N : Nat} {x : Int64} : wv N (.long x) := trivial
theorem wv_tail {N : Nat} {v : Value} {st : List Value} (h : ∀ x ∈ v :: st, wv N x) : ∀ x ∈ st, wv N x := fun x hx => h x (List.mem_cons_of_mem _ hx)
theorem wv_hd {N : Nat} {v : Value} {st : List Value} (h : ∀ x ∈ v :: st, wv N x) : wv N v := h v List.mem_cons_self
theorem wv_tail2 {N : Nat} {v w : Value} {st : List Value} (h : ∀ x ∈ v :: w :: st, wv N x) : ∀ x ∈ st, wv N x := wv_tail (wv_tail h)
theorem wv_tail3 {N : Nat} {u v w : Value} {st : List Value} (h : ∀ x ∈ u :: v :: w :: st, wv N x) : ∀ x ∈ st, wv N x := wv_tail (wv_tail (wv_tail h))
theorem wv_cons {N : Nat} {v : Value} {st : List Value} (hv : wv N v) (h : ∀ x ∈ st, wv N x) : ∀ x ∈ v :: st, wv N x := fun x hx => (List.mem_cons.mp hx).elim (fun e => e ▸ hv) (h x)
theorem lcv_get {ρ : Nat → Nat} {lr : Array Slot} {nL i : Nat} {v : Value} {ls : List (Nat × Value)} (h : lv_has lr nL (lcv ρ ls)) (hl : (i, v) ∈ ls) : lr[i]? = some (.val (cv ρ v)) :=
  h.2.2 (i, cv ρ v) (List.mem_map.mpr ⟨(i, v), hl, rfl⟩)
/-- the local i, by its place in the list -/
def lat (i : Nat) : List (Nat × Value) → Option Value
  | [] => none
  | (j, v) :: l => bif Nat.beq i j then some v else lat i l
theorem lat_mem {i : Nat} {v : Value} : ∀ {ls : List (Nat × Value)}, lat i ls = some v → (i, v) ∈ ls
  | [], h => by cases h
  | (j, w) :: l, h => by
    unfold lat at h
    cases hb : Nat.beq i j with
    | true =>
      rw [hb] at h
      have e := Nat.eq_of_beq_eq_true hb
      cases h
      rw [e]; exact List.mem_cons_self
    | false =>
      rw [hb] at h
      exact List.mem_cons_of_mem _ (lat_mem h)
/-- the locals behind a store: kept by their numbers' order -/
def ldrp (i : Nat) (w : Bool) : List (Nat × Value) → List (Nat × Value)
  | [] => []
  | (j, u) :: l => bif Nat.beq j i || ((w && Nat.beq j (i + 1)) || (Nat.beq (j + 1) i && Nat.beq u.category 2)) then ldrp i w l else (j, u) :: ldrp i w l
def lins (i : Nat) (v : Value) : List (Nat × Value) → List (Nat × Value)
  | [] => [(i, v)]
  | (j, u) :: l => bif Nat.ble i j then (i, v) :: (j, u) :: l else (j, u) :: lins i v l
def lset (i : Nat) (v : Value) (ls : List (Nat × Value)) : List (Nat × Value) := lins i v (ldrp i (Nat.beq v.category 2) ls)
theorem lins_mem {i : Nat} {v : Value} {q : Nat × Value} : ∀ {l : List (Nat × Value)}, q ∈ lins i v l → q = (i, v) ∨ q ∈ l
  | [], h => by simp [lins] at h; exact Or.inl h
  | (j, u) :: l, h => by
    unfold lins at h
    cases hb : Nat.ble i j with
    | true => rw [hb] at h; exact List.mem_cons.mp h
    | false =>
      rw [hb] at h
      rcases List.mem_cons.mp h with h | h
      · exact Or.inr (h ▸ List.mem_cons_self)
      · exact (lins_mem h).imp id (List.mem_cons_of_mem _)
theorem ldrp_mem {i : Nat} {w : Bool} {q : Nat × Value} : ∀ {l : List (Nat × Value)}, q ∈ ldrp i w l → q ∈ l ∧ (Nat.beq q.1 i || ((w && Nat.beq q.1 (i + 1)) || (Nat.beq (q.1 + 1) i && Nat.beq q.2.category 2))) = false
  | [], h => by simp [ldrp] at h
  | (j, u) :: l, h => by
    unfold ldrp at h
    cases hb : (Nat.beq j i || ((w && Nat.beq j (i + 1)) || (Nat.beq (j + 1) i && Nat.beq u.category 2))) with
    | true => rw [hb] at h; exact ⟨List.mem_cons_of_mem _ (ldrp_mem h).1, (ldrp_mem h).2⟩
    | false =>
      rw [hb] at h
      rcases List.mem_cons.mp h with h | h
      · subst h; exact ⟨List.mem_cons_self, hb⟩
      · exact ⟨List.mem_cons_of_mem _ (ldrp_mem h).1, (ldrp_mem h).2⟩
theorem lset_mem {i : Nat} {v : Value} {ls : List (Nat × Value)} {q : Nat × Value} (h : q ∈ lset i v ls) : q = (i, v) ∨ q ∈ ls := (lins_mem h).imp id fun h => (ldrp_mem h).1
theorem nbq (a b : Nat) : (a == b) = Nat.beq a b := by
  rw [Bool.eq_iff_iff]; simp [Nat.beq_eq]
theorem lset_has1 {ρ : Nat → Nat} {i nL : Nat} {v : Value} {ls : List (Nat × Value)} {lr : Array Slot} (hc : v.category = 1) (h : lv_has lr nL ((i, cv ρ v) :: (lcv ρ ls).filter (fun q => !(q.1 == i) && !(q.1 + 1 == i && q.2.category == 2)))) : lv_has lr nL (lcv ρ (lset i v ls)) := by
  refine ⟨h.1, h.2.1, fun q hq => h.2.2 q ?_⟩
  obtain ⟨z, hz, rfl⟩ := List.mem_map.mp hq
  rcases lins_mem hz with rfl | hz
  · exact List.mem_cons_self
  · obtain ⟨h1, h2⟩ := ldrp_mem hz
    refine List.mem_cons_of_mem _ (List.mem_filter.mpr ⟨List.mem_map.mpr ⟨z, h1, rfl⟩, ?_⟩)
    simp only [hc, Bool.or_eq_false_iff, Bool.and_eq_false_iff] at h2
    obtain ⟨a1, a2, a3⟩ := h2
    simp only [cv_cat, nbq, Bool.and_eq_true, Bool.not_eq_true', Bool.and_eq_false_iff]
    exact ⟨a1, a3⟩
theorem lset_has2 {ρ : Nat → Nat} {i nL : Nat} {v : Value} {ls : List (Nat × Value)} {lr : Array Slot} (hc : v.category = 2) (h : lv_has lr nL ((i, cv ρ v) :: (lcv ρ ls).filter (fun q => !(q.1 == i) && (!(q.1 == i + 1) && !(q.1 + 1 == i && q.2.category == 2))))) : lv_has lr nL (lcv ρ (lset i v ls)) := by
  refine ⟨h.1, h.2.1, fun q hq => h.2.2 q ?_⟩
  obtain ⟨z, hz, rfl⟩ := List.mem_map.mp hq
  rcases lins_mem hz with rfl | hz
  · exact List.mem_cons_self
  · obtain ⟨h1, h2⟩ := ldrp_mem hz
    refine List.mem_cons_of_mem _ (List.mem_filter.mpr ⟨List.mem_map.mpr ⟨z, h1, rfl⟩, ?_⟩)
    simp only [hc, Bool.or_eq_false_iff, Bool.and_eq_false_iff] at h2
    obtain ⟨a1, a2, a3⟩ := h2
    simp only [cv_cat, nbq, Bool.and_eq_true, Bool.not_eq_true', Bool.and_eq_false_iff]
    refine ⟨a1, ?_, a3⟩
    rcases a2 with a2 | a2
    · exact absurd a2 (by decide)
    · exact a2
theorem lset_wv {N i : Nat} {v : Value} {ls : List (Nat × Value)} (hv : wv N v) (h : ∀ q ∈ ls, wv N q.2) : ∀ q ∈ lset i v ls, wv N q.2 := fun q hq => (lset_mem hq).elim (fun e => by rw [e]; exact hv) (h q)

theorem V_iconst {z : Int} (v : Int32) (hd : decode μ.2.1 pc = .ok (.iconst z, 1)) (hv : Int32.ofInt z = v) (kk : V g μ E CX k n (pc + 1) ls (.int v :: st) σ) : V g μ E CX k n pc ls (st) σ :=
  V_step (fun hcl hl h => wv_cons wv_i h) (fun _ _ _ _ _ _ _ _ C _ _ _ _ ρ lr _ hCn hlr hst _ k => lv_iconst C.1 C.2.1 hd hv k) kk
theorem V_bipush {z : Int} (v : Int32) (hd : decode μ.2.1 pc = .ok (.bipush z, 2)) (hv : (Int8.ofInt z).toInt32 = v) (kk : V g μ E CX k n (pc + 2) ls (.int v :: st) σ) : V g μ E CX k n pc ls (st) σ :=
  V_step (fun hcl hl h => wv_cons wv_i h) (fun _ _ _ _ _ _ _ _ C _ _ _ _ ρ lr _ hCn hlr hst _ k => lv_bipush C.1 C.2.1 hd hv k) kk
theorem V_sipush {z : Int} (v : Int32) (hd : decode μ.2.1 pc = .ok (.sipush z, 3)) (hv : (Int16.ofInt z).toInt32 = v) (kk : V g μ E CX k n (pc + 3) ls (.int v :: st) σ) : V g μ E CX k n pc ls (st) σ :=
  V_step (fun hcl hl h => wv_cons wv_i h) (fun _ _ _ _ _ _ _ _ C _ _ _ _ ρ lr _ hCn hlr hst _ k => lv_sipush C.1 C.2.1 hd hv k) kk
theorem V_lconst {z : Fin 2} (v : Int64) (hd : decode μ.2.1 pc = .ok (.lconst z, 1)) (hv : Int64.ofNat (z : Nat) = v) (kk : V g μ E CX k n (pc + 1) ls (.long v :: st) σ) : V g μ E CX k n pc ls (st) σ :=
  V_step (fun hcl hl h => wv_cons wv_l h) (fun _ _ _ _ _ _ _ _ C _ _ _ _ ρ lr _ hCn hlr hst _ k => lv_lconst C.1 C.2.1 hd hv k) kk
theorem V_null  (hd : decode μ.2.1 pc = .ok (.aconst_null, 1)) (kk : V g μ E CX k n (pc + 1) ls (.ref 0 :: st) σ) : V g μ E CX k n pc ls (st) σ :=
  V_step (fun hcl hl h => wv_cons (Nat.zero_le _) h) (fun _ _ _ _ _ _ _ _ C _ _ _ _ ρ lr _ hCn hlr hst _ k => lv_null C.1 C.2.1 hd k) kk
theorem V_iload_n {q : Fin 4} {x : Int32} (hd : decode μ.2.1 pc = .ok (.iload_n q, 1)) (hl : lat q ls = some (.int x)) (kk : V g μ E CX k n (pc + 1) ls (.int x :: st) σ) : V g μ E CX k n pc ls (st) σ :=
  V_step (fun hcl hl h => wv_cons wv_i h) (fun _ _ _ _ _ _ _ _ C _ _ _ _ ρ lr _ hCn hlr hst _ k => lv_iload_n C.1 C.2.1 hd rfl (lcv_get hlr (lat_mem hl)) k) kk
theorem V_iload {i : Nat} {x : Int32} (hd : decode μ.2.1 pc = .ok (.iload i, 2)) (hl : lat i ls = some (.int x)) (kk : V g μ E CX k n (pc + 2) ls (.int x :: st) σ) : V g μ E CX k n pc ls (st) σ :=
  V_step (fun hcl hl h => wv_cons wv_i h) (fun _ _ _ _ _ _ _ _ C _ _ _ _ ρ lr _ hCn hlr hst _ k => lv_iload C.1 C.2.1 hd (lcv_get hlr (lat_mem hl)) k) kk
theorem V_lload_n {q : Fin 4} {x : Int64} (hd : decode μ.2.1 pc = .ok (.lload_n q, 1)) (hl : lat q ls = some (.long x)) (kk : V g μ E CX k n (pc + 1) ls (.long x :: st) σ) : V g μ E CX k n pc ls (st) σ :=
  V_step (fun hcl hl h => wv_cons wv_l h) (fun _ _ _ _ _ _ _ _ C _ _ _ _ ρ lr _ hCn hlr hst _ k => lv_lload_n C.1 C.2.1 hd rfl (lcv_get hlr (lat_mem hl)) k) kk
theorem V_lload {i : Nat} {x : Int64} (hd : decode μ.2.1 pc = .ok (.lload i, 2)) (hl : lat i ls = some (.long x)) (kk : V g μ E CX k n (pc + 2) ls (.long x :: st) σ) : V g μ E CX k n pc ls (st) σ :=
  V_step (fun hcl hl h => wv_cons wv_l h) (fun _ _ _ _ _ _ _ _ C _ _ _ _ ρ lr _ hCn hlr hst _ k => lv_lload C.1 C.2.1 hd (lcv_get hlr (lat_mem hl)) k) kk
theorem V_iadd {x y : Int32} (hd : decode μ.2.1 pc = .ok (.iadd, 1)) (kk : V g μ E CX k n (pc + 1) ls (.int (x + y) :: st) σ) : V g μ E CX k n pc ls (.int y :: .int x :: st) σ :=
  V_step (fun hcl hl h => wv_cons wv_i (wv_tail2 h)) (fun _ _ _ _ _ _ _ _ C _ _ _ _ ρ lr _ hCn hlr hst _ k => lv_iadd C.1 C.2.1 hd k) kk
theorem V_isub {x y : Int32} (hd : decode μ.2.1 pc = .ok (.isub, 1)) (kk : V g μ E CX k n (pc + 1) ls (.int (x - y) :: st) σ) : V g μ E CX k n pc ls (.int y :: .int x :: st) σ :=
  V_step (fun hcl hl h => wv_cons wv_i (wv_tail2 h)) (fun _ _ _ _ _ _ _ _ C _ _ _ _ ρ lr _ hCn hlr hst _ k => lv_isub C.1 C.2.1 hd k) kk
theorem V_imul {x y : Int32} (hd : decode μ.2.1 pc = .ok (.imul, 1)) (kk : V g μ E CX k n (pc + 1) ls (.int (x * y) :: st) σ) : V g μ E CX k n pc ls (.int y :: .int x :: st) σ :=
  V_step (fun hcl hl h => wv_cons wv_i (wv_tail2 h)) (fun _ _ _ _ _ _ _ _ C _ _ _ _ ρ lr _ hCn hlr hst _ k => lv_imul C.1 C.2.1 hd k) kk
theorem V_iand {x y : Int32} (hd : decode μ.2.1 pc = .ok (.iand, 1)) (kk : V g μ E CX k n (pc + 1) ls (.int (x &&& y) :: st) σ) : V g μ E CX k n pc ls (.int y :: .int x :: st) σ :=
  V_step (fun hcl hl h => wv_cons wv_i (wv_tail2 h)) (fun _ _ _ _ _ _ _ _ C _ _ _ _ ρ lr _ hCn hlr hst _ k => lv_iand C.1 C.2.1 hd k) kk
theorem V_ior {x y : Int32} (hd : decode μ.2.1 pc = .ok (.ior, 1)) (kk : V g μ E CX k n (pc + 1) ls (.int (x ||| y) :: st) σ) : V g μ E CX k n pc ls (.int y :: .int x :: st) σ :=
  V_step (fun hcl hl h => wv_cons wv_i (wv_tail2 h)) (fun _ _ _ _ _ _ _ _ C _ _ _ _ ρ lr _ hCn hlr hst _ k => lv_ior C.1 C.2.1 hd k) kk
theorem V_ixor {x y : Int32} (hd : decode μ.2.1 pc = .ok (.ixor, 1)) (kk : V g μ E CX k n (pc + 1) ls (.int (x ^^^ y) :: st) σ) : V g μ E CX k n pc ls (.int y :: .int x :: st) σ :=
  V_step (fun hcl hl h => wv_cons wv_i (wv_tail2 h)) (fun _ _ _ _ _ _ _ _ C _ _ _ _ ρ lr _ hCn hlr hst _ k => lv_ixor C.1 C.2.1 hd k) kk
theorem V_ishl {x y : Int32} (hd : decode μ.2.1 pc = .ok (.ishl, 1)) (kk : V g μ E CX k n (pc + 1) ls (.int (x <<< (y &&& 31)) :: st) σ) : V g μ E CX k n pc ls (.int y :: .int x :: st) σ :=
  V_step (fun hcl hl h => wv_cons wv_i (wv_tail2 h)) (fun _ _ _ _ _ _ _ _ C _ _ _ _ ρ lr _ hCn hlr hst _ k => lv_ishl C.1 C.2.1 hd k) kk
theorem V_ishr {x y : Int32} (hd : decode μ.2.1 pc = .ok (.ishr, 1)) (kk : V g μ E CX k n (pc + 1) ls (.int (x >>> (y &&& 31)) :: st) σ) : V g μ E CX k n pc ls (.int y :: .int x :: st) σ :=
  V_step (fun hcl hl h => wv_cons wv_i (wv_tail2 h)) (fun _ _ _ _ _ _ _ _ C _ _ _ _ ρ lr _ hCn hlr hst _ k => lv_ishr C.1 C.2.1 hd k) kk
theorem V_ladd {x y : Int64} (hd : decode μ.2.1 pc = .ok (.ladd, 1)) (kk : V g μ E CX k n (pc + 1) ls (.long (x + y) :: st) σ) : V g μ E CX k n pc ls (.long y :: .long x :: st) σ :=
  V_step (fun hcl hl h => wv_cons wv_l (wv_tail2 h)) (fun _ _ _ _ _ _ _ _ C _ _ _ _ ρ lr _ hCn hlr hst _ k => lv_ladd C.1 C.2.1 hd k) kk
theorem V_lsub {x y : Int64} (hd : decode μ.2.1 pc = .ok (.lsub, 1)) (kk : V g μ E CX k n (pc + 1) ls (.long (x - y) :: st) σ) : V g μ E CX k n pc ls (.long y :: .long x :: st) σ :=
  V_step (fun hcl hl h => wv_cons wv_l (wv_tail2 h)) (fun _ _ _ _ _ _ _ _ C _ _ _ _ ρ lr _ hCn hlr hst _ k => lv_lsub C.1 C.2.1 hd k) kk
theorem V_lmul {x y : Int64} (hd : decode μ.2.1 pc = .ok (.lmul, 1)) (kk : V g μ E CX k n (pc + 1) ls (.long (x * y) :: st) σ) : V g μ E CX k n pc ls (.long y :: .long x :: st) σ :=
  V_step (fun hcl hl h => wv_cons wv_l (wv_tail2 h)) (fun _ _ _ _ _ _ _ _ C _ _ _ _ ρ lr _ hCn hlr hst _ k => lv_lmul C.1 C.2.1 hd k) kk
theorem V_idiv {x y : Int32} (hd : decode μ.2.1 pc = .ok (.idiv, 1)) (hne : ¬ y = 0) (kk : V g μ E CX k n (pc + 1) ls (.int (x / y) :: st) σ) : V g μ E CX k n pc ls (.int y :: .int x :: st) σ :=
  V_step (fun hcl hl h => wv_cons wv_i (wv_tail2 h)) (fun _ _ _ _ _ _ _ _ C _ _ _ _ ρ lr _ hCn hlr hst _ k => lv_idiv C.1 C.2.1 hd hne k) kk
theorem V_ldiv {x y : Int64} (hd : decode μ.2.1 pc = .ok (.ldiv, 1)) (hne : ¬ y = 0) (kk : V g μ E CX k n (pc + 1) ls (.long (x / y) :: st) σ) : V g μ E CX k n pc ls (.long y :: .long x :: st) σ :=
  V_step (fun hcl hl h => wv_cons wv_l (wv_tail2 h)) (fun _ _ _ _ _ _ _ _ C _ _ _ _ ρ lr _ hCn hlr hst _ k => lv_ldiv C.1 C.2.1 hd hne k) kk
theorem V_ineg {x : Int32} (hd : decode μ.2.1 pc = .ok (.ineg, 1)) (kk : V g μ E CX k n (pc + 1) ls (.int (-x) :: st) σ) : V g μ E CX k n pc ls (.int x :: st) σ :=
  V_step (fun hcl hl h => wv_cons wv_i (wv_tail h)) (fun _ _ _ _ _ _ _ _ C _ _ _ _ ρ lr _ hCn hlr hst _ k => lv_ineg C.1 C.2.1 hd k) kk
theorem V_i2l {x : Int32} (hd : decode μ.2.1 pc = .ok (.i2l, 1)) (kk : V g μ E CX k n (pc + 1) ls (.long x.toInt64 :: st) σ) : V g μ E CX k n pc ls (.int x :: st) σ :=
  V_step (fun hcl hl h => wv_cons wv_l (wv_tail h)) (fun _ _ _ _ _ _ _ _ C _ _ _ _ ρ lr _ hCn hlr hst _ k => lv_i2l C.1 C.2.1 hd rfl k) kk
theorem V_l2i {x : Int64} (hd : decode μ.2.1 pc = .ok (.l2i, 1)) (kk : V g μ E CX k n (pc + 1) ls (.int x.toInt32 :: st) σ) : V g μ E CX k n pc ls (.long x :: st) σ :=
  V_step (fun hcl hl h => wv_cons wv_i (wv_tail h)) (fun _ _ _ _ _ _ _ _ C _ _ _ _ ρ lr _ hCn hlr hst _ k => lv_l2i C.1 C.2.1 hd rfl k) kk
theorem V_lcmp {x y : Int64} (hd : decode μ.2.1 pc = .ok (.lcmp, 1)) (kk : V g μ E CX k n (pc + 1) ls (.int (lg_cmp x y) :: st) σ) : V g μ E CX k n pc ls (.long y :: .long x :: st) σ :=
  V_step (fun hcl hl h => wv_cons wv_i (wv_tail2 h)) (fun _ _ _ _ _ _ _ _ C _ _ _ _ ρ lr _ hCn hlr hst _ k => W.lcmp C.1 C.2.1 hd k) kk
theorem V_dup {v : Value} (hd : decode μ.2.1 pc = .ok (.dup, 1)) (hc : v.category = 1) (kk : V g μ E CX k n (pc + 1) ls (v :: v :: st) σ) : V g μ E CX k n pc ls (v :: st) σ :=
  V_step (fun hcl hl h => wv_cons (wv_hd h) h) (fun _ _ _ _ _ _ _ _ C _ _ _ _ ρ lr _ hCn hlr hst _ k => lv_dup C.1 C.2.1 hd (by rw [cv_cat]; exact hc) k) kk
theorem V_pop {v : Value} (hd : decode μ.2.1 pc = .ok (.pop, 1)) (hc : v.category = 1) (kk : V g μ E CX k n (pc + 1) ls (st) σ) : V g μ E CX k n pc ls (v :: st) σ :=
  V_step (fun hcl hl h => wv_tail h) (fun _ _ _ _ _ _ _ _ C _ _ _ _ ρ lr _ hCn hlr hst _ k => lv_pop C.1 C.2.1 hd (by rw [cv_cat]; exact hc) k) kk
theorem V_dup2 {v w : Value} (hd : decode μ.2.1 pc = .ok (.dup2, 1)) (hc : v.category = 1) (hd2 : w.category = 1) (kk : V g μ E CX k n (pc + 1) ls (v :: w :: v :: w :: st) σ) : V g μ E CX k n pc ls (v :: w :: st) σ :=
  V_step (fun hcl hl h => wv_cons (wv_hd h) (wv_cons (wv_hd (wv_tail h)) h)) (fun _ _ _ _ _ _ _ _ C _ _ _ _ ρ lr _ hCn hlr hst _ k => lv_dup2_11 C.1 C.2.1 hd (by rw [cv_cat]; exact hc) (by rw [cv_cat]; exact hd2) k) kk
theorem V_goto {off : Int} (tgt : Nat) (hd : decode μ.2.1 pc = .ok (.goto off, 3)) (ht : (pc : Int) + off = (tgt : Int)) (kk : V g μ E CX k n tgt ls st σ) : V g μ E CX k n pc ls st σ :=
  V_step (fun _ _ h => h) (fun _ _ _ _ _ _ _ _ C _ _ _ _ _ _ _ _ _ _ _ k => lv_goto C.1 C.2.1 hd ht k) kk
theorem V_if_eq {x : Int32} {off : Int} (tgt : Nat) (hd : decode μ.2.1 pc = .ok (.ifCond .eq off, 3)) (ht : (pc : Int) + off = (tgt : Int)) (kt : x = 0 → V g μ E CX k n tgt ls st σ) (kf : ¬ x = 0 → V g μ E CX k n (pc + 3) ls st σ) : V g μ E CX k n pc ls (.int x :: st) σ :=
  V_br (fun h => wv_tail h) (fun _ _ _ _ _ _ _ _ C _ _ _ _ _ _ _ k1 k2 => lv_if_eq C.1 C.2.1 hd ht k1 k2) kt kf
theorem V_if_ne {x : Int32} {off : Int} (tgt : Nat) (hd : decode μ.2.1 pc = .ok (.ifCond .ne off, 3)) (ht : (pc : Int) + off = (tgt : Int)) (kt : ¬ x = 0 → V g μ E CX k n tgt ls st σ) (kf : x = 0 → V g μ E CX k n (pc + 3) ls st σ) : V g μ E CX k n pc ls (.int x :: st) σ :=
  V_br (fun h => wv_tail h) (fun _ _ _ _ _ _ _ _ C _ _ _ _ _ _ _ k1 k2 => lv_if_ne C.1 C.2.1 hd ht k2 k1) kf kt
theorem V_if_lt {x : Int32} {off : Int} (tgt : Nat) (hd : decode μ.2.1 pc = .ok (.ifCond .lt off, 3)) (ht : (pc : Int) + off = (tgt : Int)) (kt : x < 0 → V g μ E CX k n tgt ls st σ) (kf : ¬ x < 0 → V g μ E CX k n (pc + 3) ls st σ) : V g μ E CX k n pc ls (.int x :: st) σ :=
  V_br (fun h => wv_tail h) (fun _ _ _ _ _ _ _ _ C _ _ _ _ _ _ _ k1 k2 => lv_if_lt C.1 C.2.1 hd ht k1 k2) kt kf
theorem V_if_ge {x : Int32} {off : Int} (tgt : Nat) (hd : decode μ.2.1 pc = .ok (.ifCond .ge off, 3)) (ht : (pc : Int) + off = (tgt : Int)) (kt : 0 ≤ x → V g μ E CX k n tgt ls st σ) (kf : ¬ 0 ≤ x → V g μ E CX k n (pc + 3) ls st σ) : V g μ E CX k n pc ls (.int x :: st) σ :=
  V_br (fun h => wv_tail h) (fun _ _ _ _ _ _ _ _ C _ _ _ _ _ _ _ k1 k2 => lv_if_ge C.1 C.2.1 hd ht k1 k2) kt kf
theorem V_if_gt {x : Int32} {off : Int} (tgt : Nat) (hd : decode μ.2.1 pc = .ok (.ifCond .gt off, 3)) (ht : (pc : Int) + off = (tgt : Int)) (kt : 0 < x → V g μ E CX k n tgt ls st σ) (kf : ¬ 0 < x → V g μ E CX k n (pc + 3) ls st σ) : V g μ E CX k n pc ls (.int x :: st) σ :=
  V_br (fun h => wv_tail h) (fun _ _ _ _ _ _ _ _ C _ _ _ _ _ _ _ k1 k2 => lv_if_gt C.1 C.2.1 hd ht k1 k2) kt kf
theorem V_if_le {x : Int32} {off : Int} (tgt : Nat) (hd : decode μ.2.1 pc = .ok (.ifCond .le off, 3)) (ht : (pc : Int) + off = (tgt : Int)) (kt : x ≤ 0 → V g μ E CX k n tgt ls st σ) (kf : ¬ x ≤ 0 → V g μ E CX k n (pc + 3) ls st σ) : V g μ E CX k n pc ls (.int x :: st) σ :=
  V_br (fun h => wv_tail h) (fun _ _ _ _ _ _ _ _ C _ _ _ _ _ _ _ k1 k2 => lv_if_le C.1 C.2.1 hd ht k1 k2) kt kf
theorem V_icmp_eq {x y : Int32} {off : Int} (tgt : Nat) (hd : decode μ.2.1 pc = .ok (.if_icmp .eq off, 3)) (ht : (pc : Int) + off = (tgt : Int)) (kt : x = y → V g μ E CX k n tgt ls st σ) (kf : ¬ x = y → V g μ E CX k n (pc + 3) ls st σ) : V g μ E CX k n pc ls (.int y :: .int x :: st) σ :=
  V_br (fun h => wv_tail2 h) (fun _ _ _ _ _ _ _ _ C _ _ _ _ _ _ _ k1 k2 => lv_icmp_eq C.1 C.2.1 hd ht k1 k2) kt kf
theorem V_icmp_ne {x y : Int32} {off : Int} (tgt : Nat) (hd : decode μ.2.1 pc = .ok (.if_icmp .ne off, 3)) (ht : (pc : Int) + off = (tgt : Int)) (kt : ¬ x = y → V g μ E CX k n tgt ls st σ) (kf : x = y → V g μ E CX k n (pc + 3) ls st σ) : V g μ E CX k n pc ls (.int y :: .int x :: st) σ :=
  V_br (fun h => wv_tail2 h) (fun _ _ _ _ _ _ _ _ C _ _ _ _ _ _ _ k1 k2 => lv_icmp_ne C.1 C.2.1 hd ht k2 k1) kf kt
theorem V_icmp_lt {x y : Int32} {off : Int} (tgt : Nat) (hd : decode μ.2.1 pc = .ok (.if_icmp .lt off, 3)) (ht : (pc : Int) + off = (tgt : Int)) (kt : x < y → V g μ E CX k n tgt ls st σ) (kf : ¬ x < y → V g μ E CX k n (pc + 3) ls st σ) : V g μ E CX k n pc ls (.int y :: .int x :: st) σ :=
  V_br (fun h => wv_tail2 h) (fun _ _ _ _ _ _ _ _ C _ _ _ _ _ _ _ k1 k2 => lv_icmp_lt C.1 C.2.1 hd ht k1 k2) kt kf
theorem V_icmp_ge {x y : Int32} {off : Int} (tgt : Nat) (hd : decode μ.2.1 pc = .ok (.if_icmp .ge off, 3)) (ht : (pc : Int) + off = (tgt : Int)) (kt : y ≤ x → V g μ E CX k n tgt ls st σ) (kf : ¬ y ≤ x → V g μ E CX k n (pc + 3) ls st σ) : V g μ E CX k n pc ls (.int y :: .int x :: st) σ :=
  V_br (fun h => wv_tail2 h) (fun _ _ _ _ _ _ _ _ C _ _ _ _ _ _ _ k1 k2 => lv_icmp_ge C.1 C.2.1 hd ht k1 k2) kt kf
theorem V_icmp_gt {x y : Int32} {off : Int} (tgt : Nat) (hd : decode μ.2.1 pc = .ok (.if_icmp .gt off, 3)) (ht : (pc : Int) + off = (tgt : Int)) (kt : y < x → V g μ E CX k n tgt ls st σ) (kf : ¬ y < x → V g μ E CX k n (pc + 3) ls st σ) : V g μ E CX k n pc ls (.int y :: .int x :: st) σ :=
  V_br (fun h => wv_tail2 h) (fun _ _ _ _ _ _ _ _ C _ _ _ _ _ _ _ k1 k2 => lv_icmp_gt C.1 C.2.1 hd ht k1 k2) kt kf
theorem V_icmp_le {x y : Int32} {off : Int} (tgt : Nat) (hd : decode μ.2.1 pc = .ok (.if_icmp .le off, 3)) (ht : (pc : Int) + off = (tgt : Int)) (kt : x ≤ y → V g μ E CX k n tgt ls st σ) (kf : ¬ x ≤ y → V g μ E CX k n (pc + 3) ls st σ) : V g μ E CX k n pc ls (.int y :: .int x :: st) σ :=
  V_br (fun h => wv_tail2 h) (fun _ _ _ _ _ _ _ _ C _ _ _ _ _ _ _ k1 k2 => lv_icmp_le C.1 C.2.1 hd ht k1 k2) kt kf
theorem V_tableIn {dflt lo hi : Int} {offs : Array Int} {x : Int32} {off : Int} {len : Nat} (tgt : Nat) (hd : decode μ.2.1 pc = .ok (.tableswitch dflt lo hi offs, len)) (h1 : ¬ x.toInt < lo) (h2 : ¬ hi < x.toInt) (ho : offs[(x.toInt - lo).toNat]? = some off) (ht : (pc : Int) + off = (tgt : Int)) (kk : V g μ E CX k n tgt ls st σ) : V g μ E CX k n pc ls (.int x :: st) σ :=
  V_step (fun _ _ h => wv_tail h) (fun _ _ _ _ _ _ _ _ C _ _ _ _ _ _ _ _ _ _ _ k => lv_tableIn C.1 C.2.1 hd h1 h2 ho ht k) kk
theorem V_tableOut {dflt lo hi : Int} {offs : Array Int} {x : Int32} {len : Nat} (tgt : Nat) (hd : decode μ.2.1 pc = .ok (.tableswitch dflt lo hi offs, len)) (h1 : x.toInt < lo ∨ hi < x.toInt) (ht : (pc : Int) + dflt = (tgt : Int)) (kk : V g μ E CX k n tgt ls st σ) : V g μ E CX k n pc ls (.int x :: st) σ :=
  V_step (fun _ _ h => wv_tail h) (fun _ _ _ _ _ _ _ _ C _ _ _ _ _ _ _ _ _ _ _ k => lv_tableOut C.1 C.2.1 hd h1 ht k) kk
theorem V_ldc {v : Int32} {i : Nat} (hw : Cond.constant μ.1.cls i v ∈ lw_good) (hd : decode μ.2.1 pc = .ok (.ldc i, 2)) (kk : V g μ E CX k n (pc + 2) ls (.int v :: st) σ) : V g μ E CX k n pc ls st σ :=
  V_step (fun _ _ h => wv_cons wv_i h) (fun _ _ _ _ _ _ _ _ C _ _ _ _ _ _ _ _ _ _ _ k => lv_ldc C.1 C.2.1 C.2.2.2.1 (C.2.2.2.2.1 _ hw) hd k) kk
theorem V_ldc2 {v : Int64} {i : Nat} (hw : Cond.constantLong μ.1.cls i v ∈ lw_good) (hd : decode μ.2.1 pc = .ok (.ldc2_w i, 3)) (kk : V g μ E CX k n (pc + 3) ls (.long v :: st) σ) : V g μ E CX k n pc ls st σ :=
  V_step (fun _ _ h => wv_cons wv_l h) (fun _ _ _ _ _ _ _ _ C _ _ _ _ _ _ _ _ _ _ _ k => lv_ldc2 C.1 C.2.1 C.2.2.2.1 (C.2.2.2.2.1 _ hw) hd k) kk
section REFS
variable {p : Program} {l : Launch} {e : Env} {R : Room} {s : State} {m : MethodId} {args : Array Value} {below : List Frame} {meth : Method} {c : Code} {H : Heap} {locs : List Loc} {cells slots : Nat} {Q : State → Prop}
variable {cc : ByteArray} {lr : Array Slot} {rest : List Value}
theorem la_aload_n (hexec : p.tables.exec = Jvm.exec) (hb : c.code = cc) {q : Fin 4} {v : Value} (hv : v.isRef = true) (hdg : decode cc pc = .ok (.aload_n q, 1)) (hl : lr[(q : Nat)]? = some (.val v))
    (k : W p l e R s m args below meth c H locs cells slots Q (F0 m (pc + 1) lr (v :: rest))) : W p l e R s m args below meth c H locs cells slots Q (F0 m pc lr rest) := by
  intro T hT X
  obtain ⟨t, a, b⟩ := k T hT X
  refine ⟨t, ?_, b⟩
  jvm_step X.here [X.here.top, hexec, hb, hdg, hl, hv]
  exact a
theorem la_aload (hexec : p.tables.exec = Jvm.exec) (hb : c.code = cc) {i : Nat} {v : Value} (hv : v.isRef = true) (hdg : decode cc pc = .ok (.aload i, 2)) (hl : lr[i]? = some (.val v))
    (k : W p l e R s m args below meth c H locs cells slots Q (F0 m (pc + 2) lr (v :: rest))) : W p l e R s m args below meth c H locs cells slots Q (F0 m pc lr rest) := by
  intro T hT X
  obtain ⟨t, a, b⟩ := k T hT X
  refine ⟨t, ?_, b⟩
  jvm_step X.here [X.here.top, hexec, hb, hdg, hl, hv]
  exact a
theorem la_astore_n (hexec : p.tables.exec = Jvm.exec) (hb : c.code = cc) {q : Fin 4} {nL : Nat} {v : Value} {lv : List (Nat × Value)} (hv : v.isRef = true) (hc : v.category = 1) (hdg : decode cc pc = .ok (.astore_n q, 1)) (h : lv_has lr nL lv) (hn : (q : Nat) < nL)
    (kk : ∀ ls' : Array Slot, lv_has ls' nL (((q : Nat), v) :: lv.filter (fun z => !(z.1 == (q : Nat)) && !(z.1 + 1 == (q : Nat) && z.2.category == 2))) → W p l e R s m args below meth c H locs cells slots Q (F0 m (pc + 1) ls' rest)) : W p l e R s m args below meth c H locs cells slots Q (F0 m pc lr (v :: rest)) := by
  obtain ⟨ls', e', h'⟩ := lv_store1 (v := v) h hn hc
  intro T hT X
  obtain ⟨t, a, b⟩ := kk ls' h' T hT X
  refine ⟨t, ?_, b⟩
  jvm_step X.here [X.here.top, ↓top_set X.here.top, hexec, hb, hdg, e', hv]
  exact a
theorem la_astore (hexec : p.tables.exec = Jvm.exec) (hb : c.code = cc) {i nL : Nat} {v : Value} {lv : List (Nat × Value)} (hv : v.isRef = true) (hc : v.category = 1) (hdg : decode cc pc = .ok (.astore i, 2)) (h : lv_has lr nL lv) (hn : i < nL)
    (kk : ∀ ls' : Array Slot, lv_has ls' nL ((i, v) :: lv.filter (fun z => !(z.1 == i) && !(z.1 + 1 == i && z.2.category == 2))) → W p l e R s m args below meth c H locs cells slots Q (F0 m (pc + 2) ls' rest)) : W p l e R s m args below meth c H locs cells slots Q (F0 m pc lr (v :: rest)) := by
  obtain ⟨ls', e', h'⟩ := lv_store1 (v := v) h hn hc
  intro T hT X
  obtain ⟨t, a, b⟩ := kk ls' h' T hT X
  refine ⟨t, ?_, b⟩
  jvm_step X.here [X.here.top, ↓top_set X.here.top, hexec, hb, hdg, e', hv]
  exact a
end REFS
theorem cv_isRef (ρ : Nat → Nat) (a : Nat) : (cv ρ (.ref a)).isRef = true := by
  by_cases h : a = 0 <;> simp [cv, h, Value.isRef]
theorem V_aload_n {q : Fin 4} {a : Nat} (hd : decode μ.2.1 pc = .ok (.aload_n q, 1)) (hl : lat q ls = some (.ref a)) (kk : V g μ E CX k n (pc + 1) ls (.ref a :: st) σ) : V g μ E CX k n pc ls st σ :=
  V_step (fun _ hl' h => wv_cons (hl' _ (lat_mem hl)) h) (fun _ _ _ _ _ _ _ _ C _ _ _ _ ρ lr _ _ hlr _ _ k => la_aload_n C.1 C.2.1 (cv_isRef ρ a) hd (lcv_get hlr (lat_mem hl)) k) kk
theorem V_aload {i : Nat} {a : Nat} (hd : decode μ.2.1 pc = .ok (.aload i, 2)) (hl : lat i ls = some (.ref a)) (kk : V g μ E CX k n (pc + 2) ls (.ref a :: st) σ) : V g μ E CX k n pc ls st σ :=
  V_step (fun _ hl' h => wv_cons (hl' _ (lat_mem hl)) h) (fun _ _ _ _ _ _ _ _ C _ _ _ _ ρ lr _ _ hlr _ _ k => la_aload C.1 C.2.1 (cv_isRef ρ a) hd (lcv_get hlr (lat_mem hl)) k) kk
theorem V_ifnull {off : Int} {a : Nat} (tgt : Nat) (hd : decode μ.2.1 pc = .ok (.ifnull off, 3)) (ht : (pc : Int) + off = (tgt : Int)) (kt : a = 0 → V g μ E CX k n tgt ls st σ) (kf : ¬ a = 0 → V g μ E CX k n (pc + 3) ls st σ) : V g μ E CX k n pc ls (.ref a :: st) σ :=
  V_br (fun h => wv_tail h) (fun _ _ _ _ _ _ _ _ C _ _ _ _ ρ _ _ k1 k2 => by
    by_cases h : a = 0
    · subst h; exact lv_ifnullN C.1 C.2.1 hd ht (k1 rfl)
    · rw [List.map_cons, cv_ref h]; exact lv_ifnull C.1 C.2.1 hd (k2 h)) kt kf
theorem V_ifnonnull {off : Int} {a : Nat} (tgt : Nat) (hd : decode μ.2.1 pc = .ok (.ifnonnull off, 3)) (ht : (pc : Int) + off = (tgt : Int)) (kt : ¬ a = 0 → V g μ E CX k n tgt ls st σ) (kf : a = 0 → V g μ E CX k n (pc + 3) ls st σ) : V g μ E CX k n pc ls (.ref a :: st) σ :=
  V_br (fun h => wv_tail h) (fun _ _ _ _ _ _ _ _ C _ _ _ _ ρ _ _ k1 k2 => by
    by_cases h : a = 0
    · subst h; exact lv_ifnonnullN C.1 C.2.1 hd (k1 rfl)
    · rw [List.map_cons, cv_ref h]; exact lv_ifnonnull C.1 C.2.1 hd ht (k2 h)) kf kt
/-- the locals change -/
theorem V_loc {pc' : Nat} {ls' : List (Nat × Value)} {st0 st' : List Value} (hw : (∀ v ∈ st0, wv (zN σ) v) → ∀ v ∈ st', wv (zN σ) v) (hwl : (∀ q ∈ ls, wv (zN σ) q.2) → (∀ v ∈ st0, wv (zN σ) v) → ∀ q ∈ ls', wv (zN σ) q.2)
    (h : ∀ (p : Program) (e : Env) (s : State) (m : MethodId) (args : Array Value) (below : List Frame) (meth : Method) (c : Code), Cx g μ CX p s m args meth c → ∀ (H : Heap) (locs : List Loc) (cells slots : Nat) (ρ : Nat → Nat) (lr : Array Slot) (Q : State → Prop), lv_has lr μ.2.2.1 (lcv ρ ls) →
      (∀ lr', lv_has lr' μ.2.2.1 (lcv ρ ls') → W p g.1 e μ.2.2.2.2.2 s m args below meth c H locs cells slots Q (F0 m pc' lr' (st'.map (cv ρ)))) → W p g.1 e μ.2.2.2.2.2 s m args below meth c H locs cells slots Q (F0 m pc lr (st0.map (cv ρ))))
    (kk : V g μ E CX k n pc' ls' st' σ) : V g μ E CX k n pc ls st0 σ := by
  intro p e s m args below meth c C H locs cells slots ρ ρ0 n0 lr P
  obtain ⟨p1, p2, p3, p4, p5, p6, p7, p8, p9, p10⟩ := P
  exact h p e s m args below meth c C H locs cells slots ρ lr _ p8 fun lr' h' => kk p e s m args below meth c C H locs cells slots ρ ρ0 n0 lr' ⟨p1, p2, p3, p4, p5, p6, p7, h', hwl p9 p10, hw p10⟩
theorem V_istore_n {q : Fin 4} {x : Int32} (ls' : List (Nat × Value)) (hd : decode μ.2.1 pc = .ok (.istore_n q, 1)) (hn : Nat.blt q μ.2.2.1 = true) (hl : lset q (.int x) ls = ls') (kk : V g μ E CX k n (pc + 1) ls' st σ) : V g μ E CX k n pc ls (.int x :: st) σ := by
  subst hl
  exact V_loc (fun h => wv_tail h) (fun h _ => lset_wv wv_i h) (fun _ _ _ _ _ _ _ _ C _ _ _ _ ρ lr _ hlr k => lv_istore_n C.1 C.2.1 hd rfl hlr (by simpa [Nat.blt_eq] using hn) rfl (fun lr' h' => k lr' (lset_has1 (v := .int x) rfl h'))) kk
theorem V_istore {i : Nat} {x : Int32} (ls' : List (Nat × Value)) (hd : decode μ.2.1 pc = .ok (.istore i, 2)) (hn : Nat.blt i μ.2.2.1 = true) (hl : lset i (.int x) ls = ls') (kk : V g μ E CX k n (pc + 2) ls' st σ) : V g μ E CX k n pc ls (.int x :: st) σ := by
  subst hl
  exact V_loc (fun h => wv_tail h) (fun h _ => lset_wv wv_i h) (fun _ _ _ _ _ _ _ _ C _ _ _ _ ρ lr _ hlr k => lv_istore C.1 C.2.1 hd hlr (by simpa [Nat.blt_eq] using hn) rfl (fun lr' h' => k lr' (lset_has1 (v := .int x) rfl h'))) kk
theorem V_lstore_n {q : Fin 4} {x : Int64} (ls' : List (Nat × Value)) (hd : decode μ.2.1 pc = .ok (.lstore_n q, 1)) (hn : Nat.blt ((q : Nat) + 1) μ.2.2.1 = true) (hl : lset q (.long x) ls = ls') (kk : V g μ E CX k n (pc + 1) ls' st σ) : V g μ E CX k n pc ls (.long x :: st) σ := by
  subst hl
  exact V_loc (fun h => wv_tail h) (fun h _ => lset_wv wv_l h) (fun _ _ _ _ _ _ _ _ C _ _ _ _ ρ lr _ hlr k => lv_lstore_n C.1 C.2.1 hd rfl hlr (by simpa [Nat.blt_eq] using hn) rfl (fun lr' h' => k lr' (lset_has2 (v := .long x) rfl h'))) kk
theorem V_lstore {i : Nat} {x : Int64} (ls' : List (Nat × Value)) (hd : decode μ.2.1 pc = .ok (.lstore i, 2)) (hn : Nat.blt (i + 1) μ.2.2.1 = true) (hl : lset i (.long x) ls = ls') (kk : V g μ E CX k n (pc + 2) ls' st σ) : V g μ E CX k n pc ls (.long x :: st) σ := by
  subst hl
  exact V_loc (fun h => wv_tail h) (fun h _ => lset_wv wv_l h) (fun _ _ _ _ _ _ _ _ C _ _ _ _ ρ lr _ hlr k => lv_lstore C.1 C.2.1 hd hlr (by simpa [Nat.blt_eq] using hn) rfl (fun lr' h' => k lr' (lset_has2 (v := .long x) rfl h'))) kk
theorem V_astore_n {q : Fin 4} {a : Nat} (ls' : List (Nat × Value)) (hd : decode μ.2.1 pc = .ok (.astore_n q, 1)) (hn : Nat.blt q μ.2.2.1 = true) (hl : lset q (.ref a) ls = ls') (kk : V g μ E CX k n (pc + 1) ls' st σ) : V g μ E CX k n pc ls (.ref a :: st) σ := by
  subst hl
  exact V_loc (fun h => wv_tail h) (fun h h2 => lset_wv (wv_hd h2) h) (fun _ _ _ _ _ _ _ _ C _ _ _ _ ρ lr _ hlr k => la_astore_n C.1 C.2.1 (cv_isRef ρ a) (by rw [cv_cat]; rfl) hd hlr (by simpa [Nat.blt_eq] using hn) (fun lr' h' => k lr' (lset_has1 (v := .ref a) rfl h'))) kk
theorem V_astore {i : Nat} {a : Nat} (ls' : List (Nat × Value)) (hd : decode μ.2.1 pc = .ok (.astore i, 2)) (hn : Nat.blt i μ.2.2.1 = true) (hl : lset i (.ref a) ls = ls') (kk : V g μ E CX k n (pc + 2) ls' st σ) : V g μ E CX k n pc ls (.ref a :: st) σ := by
  subst hl
  exact V_loc (fun h => wv_tail h) (fun h h2 => lset_wv (wv_hd h2) h) (fun _ _ _ _ _ _ _ _ C _ _ _ _ ρ lr _ hlr k => la_astore C.1 C.2.1 (cv_isRef ρ a) (by rw [cv_cat]; rfl) hd hlr (by simpa [Nat.blt_eq] using hn) (fun lr' h' => k lr' (lset_has1 (v := .ref a) rfl h'))) kk
theorem V_iinc {i : Nat} {z : Int} {x : Int32} (v : Int32) (ls' : List (Nat × Value)) (hd : decode μ.2.1 pc = .ok (.iinc i z, 3)) (hv : x + Int32.ofInt z = v) (hg : lat i ls = some (.int x)) (hn : Nat.blt i μ.2.2.1 = true) (hl : lset i (.int v) ls = ls') (kk : V g μ E CX k n (pc + 3) ls' st σ) : V g μ E CX k n pc ls st σ := by
  subst hl
  refine V_loc (fun h => h) (fun h _ => lset_wv wv_i h) (fun _ _ _ _ _ _ _ _ C _ _ _ _ ρ lr _ hlr k => ?_) kk
  obtain ⟨j, hj⟩ := List.getElem?_of_mem (List.mem_map.mpr ⟨_, lat_mem hg, rfl⟩ : (i, cv ρ (.int x)) ∈ lcv ρ ls)
  exact lv_iinc C.1 C.2.1 hd hlr hj hv (by simpa [Nat.blt_eq] using hn) rfl (fun lr' h' => k lr' (lset_has1 (v := .int v) rfl h'))
end VR
end
section
/-! ===== fields and arrays ===== -/
def fva (σ : AH) (a : Nat) (ty : FieldType) (k : Nat) : Value := match ty with
  | .long => .long (zJ σ a k)
  | .object _ => .ref (zR σ a k)
  | .array _ => .ref (zR σ a k)
  | _ => .int (zI σ a k)
theorem fv_fva (ρ : Nat → Nat) (σ : AH) (a : Nat) (ty : FieldType) (k : Nat) : fv ρ σ a ty k = cv ρ (fva σ a ty k) := by
  cases ty <;> rfl
theorem fva_wv {σ : AH} (hc : ∀ a k, zR σ a k ≤ zN σ) (a : Nat) (ty : FieldType) (k : Nat) : wv (zN σ) (fva σ a ty k) := by
  cases ty <;> first | exact hc a k | trivial
/-- what the tables say of a class: its row, its words, its fields' types and names -/
def KO (ci : Nat) (C : String) (T : u_T) : Prop := vwCl[ci]? = some (C, T, fN ci) ∧ (∀ w ∈ u_ws C T (fN ci), w ∈ lw_good) ∧ (∀ k, k < fN ci → parseFieldDescriptor (T k).2.2.1 = some (fT ci k)) ∧ (∀ a, a < fN ci → ∀ b, b < fN ci → a ≠ b → (T a).2.1 ≠ (T b).2.1) ∧ ci < 13
section VH
variable {g : GP} {μ : MI} {E : ET} {CX : State → Array Value → Prop} {k n pc : Nat} {ls : List (Nat × Value)} {st : List Value} {σ : AH}
theorem V_getf {ci fk idx a : Nat} {C : String} {T : u_T} (v : Value) (ko : KO ci C T) (hk : Nat.blt fk (fN ci) = true) (hlink : Cond.fieldLink μ.1.cls idx (T fk).1 (T fk).2.1 (T fk).2.2.1 ∈ lw_good) (hd : decode μ.2.1 pc = .ok (.getfield idx, 3)) (h0 : a ≠ 0) (hK : zK σ a = ci) (hv : fva σ a (fT ci fk) fk = v)
    (kk : V g μ E CX k n (pc + 3) ls (v :: st) σ) : V g μ E CX k n pc ls (.ref a :: st) σ := by
  subst hv
  refine V_step (fun hcl _ h => wv_cons (fva_wv hcl _ _ _) (wv_tail h)) (fun p e s m args below meth c C H locs cells slots ρ lr Q hCn hlr hst _ k => ?_) kk
  have hk' : fk < fN ci := by simpa [Nat.blt_eq] using hk
  rw [List.map_cons, cv_ref h0]
  refine va_get C.1 C.2.1 C.2.2.2.2.1 ko.2.1 C.2.2.2.1 C.2.2.2.2.2.2.2.2.2.1.1 hCn.1 (a - 2) (by rw [wl_get h0 (ne1 hCn hK (by have := ko.2.2.2.2; omega)) (wv_hd hst), ent_obj hK ko.2.2.2.2]) ko.1 fk hk' (C.2.2.2.2.1 _ hlink) (fun _ h => h) (fv_get hk') hd ?_
  rw [fv_fva]
  exact k
/-- a write into one cell -/
theorem V_write {a pc' : Nat} {σ' : AH} {e' : (Nat → Nat) → va_E} {st0 st' : List Value} (h0 : a ≠ 0) (hk19 : zK σ a ≠ 19) (hkk : zK σ' 1 = zK σ 1) (ha : (∀ v ∈ st0, wv (zN σ) v) → a ≤ zN σ) (hn : zN σ' = zN σ) (hs : ∀ ρ dA b, b ≠ a → ent dA ρ σ' b = ent dA ρ σ b) (he : ∀ ρ, ent g.2.2.1 ρ σ' a = e' ρ) (hcl : (∀ v ∈ st0, wv (zN σ) v) → (∀ b j, zR σ b j ≤ zN σ) → ∀ b j, zR σ' b j ≤ zN σ') (hw : (∀ v ∈ st0, wv (zN σ) v) → ∀ v ∈ st', wv (zN σ) v)
    (h : ∀ (p : Program) (e : Env) (s : State) (m : MethodId) (args : Array Value) (below : List Frame) (meth : Method) (c : Code), Cx g μ CX p s m args meth c → ∀ (H : Heap) (locs : List Loc) (cells slots : Nat) (ρ : Nat → Nat) (lr : Array Slot) (Q : State → Prop), Cn g ρ σ H → va_S (bs g.2.2.2) s.heap H locs → (∀ v ∈ st0, wv (zN σ) v) → (wl g.2.2.1 ρ σ)[a - 2]? = some (ρ a, ent g.2.2.1 ρ σ a) →
      (∀ (H1 : Heap) (locs1 : List Loc), va_P g.2.1 vwCl ((wl g.2.2.1 ρ σ).set (a - 2) (ρ a, e' ρ)) H1 → va_D (bs g.2.2.2) ((wl g.2.2.1 ρ σ).set (a - 2) (ρ a, e' ρ)) → va_S (bs g.2.2.2) s.heap H1 locs1 → W p g.1 e μ.2.2.2.2.2 s m args below meth c H1 locs1 cells slots Q (F0 m pc' lr (st'.map (cv ρ)))) → W p g.1 e μ.2.2.2.2.2 s m args below meth c H locs cells slots Q (F0 m pc lr (st0.map (cv ρ))))
    (kk : V g μ E CX k n pc' ls st' σ') : V g μ E CX k n pc ls st0 σ := by
  intro p e s m args below meth c C H locs cells slots ρ ρ0 n0 lr P
  have hS := mkS C P
  obtain ⟨p1, p2, p3, p4, p5, p6, p7, p8, p9, p10⟩ := P
  have h1 : a ≠ 1 := fun z => hk19 (by rw [z]; exact p1.2.2.2.2.2.2)
  refine h p e s m args below meth c C H locs cells slots ρ lr _ p1 hS p10 (wl_get h0 h1 (ha p10)) fun H1 locs1 hP hD hS1 => ?_
  rw [wl_set h0 h1 hn (hs ρ _) (he ρ)] at hP hD
  refine kk p e s m args below meth c C H1 locs1 cells slots ρ ρ0 n0 lr ⟨⟨hP, hD, Nat.le_trans C.2.2.2.2.2.2.2.2.2.2.1 hS1.1, fun q hq => ?_, hcl p10 p1.2.2.2.2.1, by rw [hn]; exact p1.2.2.2.2.2.1, by rw [hkk]; exact p1.2.2.2.2.2.2⟩, hS1.2.2, p3, p4, hS1.1, p6, by rw [hn]; exact p7, p8, by rw [hn]; exact p9, by rw [hn]; exact hw p10⟩
  rw [hS1.2.1 q (Nat.lt_of_lt_of_le hq C.2.2.2.2.2.2.2.2.2.2.1) (Nat.not_le.mpr hq)]
  exact C.2.2.2.2.2.2.2.2.2.2.2.1 q hq
theorem wr_hc {σ : AH} {x a j0 : Nat} (hx : x ≤ zN σ) (h : ∀ b j, zR σ b j ≤ zN σ) : ∀ b j, zR (uR σ a j0 x) b j ≤ zN (uR σ a j0 x) := fun b j => by
  rw [zR_uR, zN_uR]
  split
  · exact hx
  · exact h b j
/-- putfield: the abstract heap behind it is σ' -/
theorem V_putf {ci fk idx a : Nat} {C : String} {T : u_T} {v : Value} {σ' : AH} (ko : KO ci C T) (hk : Nat.blt fk (fN ci) = true) (hlink : Cond.fieldLink μ.1.cls idx (T fk).1 (T fk).2.1 (T fk).2.2.1 ∈ lw_good) (hfin : (T fk).2.2.2 = false ∨ ((T fk).2.2.2 = true ∧ μ.1.name = "<init>" ∧ (T fk).1 = μ.1.cls)) (hd : decode μ.2.1 pc = .ok (.putfield idx, 3)) (h0 : a ≠ 0) (hK : zK σ a = ci)
    (hn : zN σ' = zN σ) (hkk : zK σ' 1 = zK σ 1) (hK' : zK σ' a = ci) (hs : ∀ ρ dA b, b ≠ a → ent dA ρ σ' b = ent dA ρ σ b) (hf : ∀ j, j ≠ fk → fva σ' a (fT ci j) j = fva σ a (fT ci j) j) (hv : fva σ' a (fT ci fk) fk = v) (hcl : wv (zN σ) v → (∀ b j, zR σ b j ≤ zN σ) → ∀ b j, zR σ' b j ≤ zN σ')
    (hnar : ∀ ρ, narrow (fT ci fk) (cv ρ v) = cv ρ v) (hfit : ∀ ρ, fits (fT ci fk) (cv ρ v) = true)
    (kk : V g μ E CX k n (pc + 3) ls st σ') : V g μ E CX k n pc ls (v :: .ref a :: st) σ := by
  have hk' : fk < fN ci := by simpa [Nat.blt_eq] using hk
  refine V_write (a := a) (σ' := σ') (e' := fun ρ => .inr (ci, ((List.range (fN ci)).map (fun k => fv ρ σ a (fT ci k) k)).set fk (cv ρ v))) h0 (by rw [hK]; have := ko.2.2.2.2; omega) hkk (fun h => wv_hd (wv_tail h)) hn hs (fun ρ => ?_) (fun h hc => hcl (wv_hd h) hc) (fun h => wv_tail2 h) (fun p e s m args below meth c C H locs cells slots ρ lr Q hCn hS hst hg k => ?_) kk
  · rw [ent_obj hK' ko.2.2.2.2]
    refine congrArg _ (congrArg _ (fv_set hk' (fun j hj => ?_) ?_).symm)
    · rw [fv_fva, fv_fva, hf j hj]
    · rw [fv_fva, hv]
  · rw [List.map_cons, List.map_cons, cv_ref h0]
    rw [ent_obj hK ko.2.2.2.2] at hg
    rcases hfin with hfin | ⟨hfin, h1, h2⟩
    · exact va_put C.1 C.2.1 C.2.2.2.2.1 ko.2.1 (fT ci) ko.2.2.1 ko.2.2.2.1 C.2.2.2.1 C.2.2.2.2.2.2.2.2.2.1.1 hCn.1 hCn.2.1 hS (a - 2) hg ko.1 fk hk' (C.2.2.2.2.1 _ hlink) (fun _ h => h) hfin (ko.2.2.1 fk hk') (hnar ρ) (hfit ρ) (by simpa using hk') hd k
    · exact va_putF C.1 C.2.1 C.2.2.2.2.1 ko.2.1 (fT ci) ko.2.2.1 ko.2.2.2.1 C.2.2.2.1 C.2.2.2.2.2.2.2.2.2.1.1 hCn.1 hCn.2.1 hS (a - 2) hg ko.1 fk hk' (C.2.2.2.2.1 _ hlink) (fun _ h => h) hfin (C.2.2.2.2.2.2.2.1.trans h1) h2 (ko.2.2.1 fk hk') (hnar ρ) (hfit ρ) (by simpa using hk') hd k
theorem V_puti {ci fk idx a : Nat} {C : String} {T : u_T} {x : Int32} (ko : KO ci C T) (hk : Nat.blt fk (fN ci) = true) (hlink : Cond.fieldLink μ.1.cls idx (T fk).1 (T fk).2.1 (T fk).2.2.1 ∈ lw_good) (hfin : (T fk).2.2.2 = false ∨ ((T fk).2.2.2 = true ∧ μ.1.name = "<init>" ∧ (T fk).1 = μ.1.cls)) (hd : decode μ.2.1 pc = .ok (.putfield idx, 3)) (hty : fT ci fk = .int) (h0 : a ≠ 0) (hK : zK σ a = ci)
    (kk : V g μ E CX k n (pc + 3) ls st (uI σ a fk x)) : V g μ E CX k n pc ls (.int x :: .ref a :: st) σ := by
  refine V_putf (σ' := uI σ a fk x) ko hk hlink hfin hd h0 hK rfl rfl hK (fun ρ dA b hb => ent_uI hb) (fun j hj => ?_) (by rw [hty]; show Value.int _ = _; rw [zI_uI, if_pos ⟨rfl, rfl⟩]) (fun _ h => h) (fun _ => by rw [hty]; rfl) (fun _ => by rw [hty]; rfl) kk
  generalize fT ci j = t
  cases t <;> first | rfl | (show Value.int _ = Value.int _; rw [zI_uI, if_neg (fun q => hj q.2)])
theorem V_putz {ci fk idx a : Nat} {C : String} {T : u_T} {x : Int32} (ko : KO ci C T) (hk : Nat.blt fk (fN ci) = true) (hlink : Cond.fieldLink μ.1.cls idx (T fk).1 (T fk).2.1 (T fk).2.2.1 ∈ lw_good) (hfin : (T fk).2.2.2 = false ∨ ((T fk).2.2.2 = true ∧ μ.1.name = "<init>" ∧ (T fk).1 = μ.1.cls)) (hd : decode μ.2.1 pc = .ok (.putfield idx, 3)) (hty : fT ci fk = .boolean) (h0 : a ≠ 0) (hK : zK σ a = ci) (hx : narrow .boolean (.int x) = .int x) (hx2 : fits .boolean (.int x) = true)
    (kk : V g μ E CX k n (pc + 3) ls st (uI σ a fk x)) : V g μ E CX k n pc ls (.int x :: .ref a :: st) σ := by
  refine V_putf (σ' := uI σ a fk x) ko hk hlink hfin hd h0 hK rfl rfl hK (fun ρ dA b hb => ent_uI hb) (fun j hj => ?_) (by rw [hty]; show Value.int _ = _; rw [zI_uI, if_pos ⟨rfl, rfl⟩]) (fun _ h => h) (fun _ => by rw [hty]; exact hx) (fun _ => by rw [hty]; exact hx2) kk
  generalize fT ci j = t
  cases t <;> first | rfl | (show Value.int _ = Value.int _; rw [zI_uI, if_neg (fun q => hj q.2)])
theorem V_putl {ci fk idx a : Nat} {C : String} {T : u_T} {x : Int64} (ko : KO ci C T) (hk : Nat.blt fk (fN ci) = true) (hlink : Cond.fieldLink μ.1.cls idx (T fk).1 (T fk).2.1 (T fk).2.2.1 ∈ lw_good) (hfin : (T fk).2.2.2 = false ∨ ((T fk).2.2.2 = true ∧ μ.1.name = "<init>" ∧ (T fk).1 = μ.1.cls)) (hd : decode μ.2.1 pc = .ok (.putfield idx, 3)) (hty : fT ci fk = .long) (h0 : a ≠ 0) (hK : zK σ a = ci)
    (kk : V g μ E CX k n (pc + 3) ls st (uJ σ a fk x)) : V g μ E CX k n pc ls (.long x :: .ref a :: st) σ := by
  refine V_putf (σ' := uJ σ a fk x) ko hk hlink hfin hd h0 hK rfl rfl hK (fun ρ dA b hb => ent_uJ hb) (fun j hj => ?_) (by rw [hty]; show Value.long _ = _; rw [zJ_uJ, if_pos ⟨rfl, rfl⟩]) (fun _ h => h) (fun _ => by rw [hty]; rfl) (fun _ => by rw [hty]; rfl) kk
  generalize fT ci j = t
  cases t <;> first | rfl | (show Value.long _ = Value.long _; rw [zJ_uJ, if_neg (fun q => hj q.2)])
theorem nar_ref {ty : FieldType} (h : ty.isReference = true) (ρ : Nat → Nat) (x : Nat) : narrow ty (cv ρ (.ref x)) = cv ρ (.ref x) ∧ fits ty (cv ρ (.ref x)) = true := by
  by_cases h0 : x = 0
  · subst h0
    cases ty <;> first | (exact absurd h (by decide)) | exact ⟨rfl, rfl⟩
  · rw [cv_ref h0]
    cases ty <;> first | (exact absurd h (by decide)) | exact ⟨rfl, rfl⟩
theorem V_putr {ci fk idx a x : Nat} {C : String} {T : u_T} (ko : KO ci C T) (hk : Nat.blt fk (fN ci) = true) (hlink : Cond.fieldLink μ.1.cls idx (T fk).1 (T fk).2.1 (T fk).2.2.1 ∈ lw_good) (hfin : (T fk).2.2.2 = false ∨ ((T fk).2.2.2 = true ∧ μ.1.name = "<init>" ∧ (T fk).1 = μ.1.cls)) (hd : decode μ.2.1 pc = .ok (.putfield idx, 3)) (hty : (fT ci fk).isReference = true) (h0 : a ≠ 0) (hK : zK σ a = ci)
    (kk : V g μ E CX k n (pc + 3) ls st (uR σ a fk x)) : V g μ E CX k n pc ls (.ref x :: .ref a :: st) σ := by
  refine V_putf (σ' := uR σ a fk x) ko hk hlink hfin hd h0 hK rfl rfl hK (fun ρ dA b hb => ent_uR hb) (fun j hj => ?_) ?_ (fun hx h => wr_hc hx h) (fun ρ => (nar_ref hty ρ x).1) (fun ρ => (nar_ref hty ρ x).2) kk
  · generalize fT ci j = t
    cases t <;> first | rfl | (show Value.ref _ = Value.ref _; rw [zR_uR, if_neg (fun q => hj q.2)])
  · revert hty
    generalize fT ci fk = t
    intro hty
    cases t <;> first | (exact absurd hty (by decide)) | (show Value.ref _ = _; rw [zR_uR, if_pos ⟨rfl, rfl⟩])
/-! arrays -/
theorem V_iald {a : Nat} {i : Int32} (hd : decode μ.2.1 pc = .ok (.iaload, 1)) (h0 : a ≠ 0) (hK : zK σ a = 20) (hi : vp_in i (zL σ a)) (kk : V g μ E CX k n (pc + 1) ls (.int (zI σ a i.toNatClampNeg) :: st) σ) : V g μ E CX k n pc ls (.int i :: .ref a :: st) σ := by
  refine V_step (fun hcl _ h => wv_cons wv_i (wv_tail2 h)) (fun p e s m args below meth c C H locs cells slots ρ lr Q hCn hlr hst _ k => ?_) kk
  rw [List.map_cons, List.map_cons, cv_ref h0]
  exact va_iald C.1 C.2.1 C.2.2.2.2.2.2.2.2.2.1.1 hCn.1 (a - 2) 0 (by rw [wl_get h0 (ne1 hCn hK (by decide)) (wv_hd (wv_tail hst)), ent_ia hK]) rfl hi hd k
theorem V_zald {a : Nat} {i : Int32} (hd : decode μ.2.1 pc = .ok (.baload, 1)) (h0 : a ≠ 0) (hK : zK σ a = 22) (hi : vp_in i (zL σ a)) (kk : V g μ E CX k n (pc + 1) ls (.int (zI σ a i.toNatClampNeg) :: st) σ) : V g μ E CX k n pc ls (.int i :: .ref a :: st) σ := by
  refine V_step (fun hcl _ h => wv_cons wv_i (wv_tail2 h)) (fun p e s m args below meth c C H locs cells slots ρ lr Q hCn hlr hst _ k => ?_) kk
  rw [List.map_cons, List.map_cons, cv_ref h0]
  exact va_zald C.1 C.2.1 C.2.2.2.2.2.2.2.2.2.1.1 hCn.1 (a - 2) 2 (by rw [wl_get h0 (ne1 hCn hK (by decide)) (wv_hd (wv_tail hst)), ent_za hK]) rfl hi hd k
theorem V_lald {a : Nat} {i : Int32} (hd : decode μ.2.1 pc = .ok (.laload, 1)) (h0 : a ≠ 0) (hK : zK σ a = 21) (hi : vp_in i (zL σ a)) (kk : V g μ E CX k n (pc + 1) ls (.long (zJ σ a i.toNatClampNeg) :: st) σ) : V g μ E CX k n pc ls (.int i :: .ref a :: st) σ := by
  refine V_step (fun hcl _ h => wv_cons wv_l (wv_tail2 h)) (fun p e s m args below meth c C H locs cells slots ρ lr Q hCn hlr hst _ k => ?_) kk
  rw [List.map_cons, List.map_cons, cv_ref h0]
  exact va_lald C.1 C.2.1 C.2.2.2.2.2.2.2.2.2.1.1 hCn.1 (a - 2) 1 (by rw [wl_get h0 (ne1 hCn hK (by decide)) (wv_hd (wv_tail hst)), ent_ja hK]) rfl hi hd k
/-- an array of references: of which class, by the kind; its place among the tables' words -/
def AO (κ : Nat) (C : String) (t0 : Nat) : Prop := 30 ≤ κ ∧ ∀ dA : Nat → ClassId, (tysOf dA)[t0]? = some (dA κ, .object C)
theorem ao_30 : AO 30 RX0 3 := ⟨by decide, fun _ => rfl⟩
theorem ao_32 : AO 32 RX2 4 := ⟨by decide, fun _ => rfl⟩
theorem ao_33 : AO 33 RX3 5 := ⟨by decide, fun _ => rfl⟩
theorem ao_35 : AO 35 RX5 6 := ⟨by decide, fun _ => rfl⟩
theorem ao_39 : AO 39 RX9 7 := ⟨by decide, fun _ => rfl⟩
theorem V_aald {a κ t0 : Nat} {C : String} {i : Int32} (ao : AO κ C t0) (hd : decode μ.2.1 pc = .ok (.aaload, 1)) (h0 : a ≠ 0) (hK : zK σ a = κ) (hi : vp_in i (zL σ a)) (kk : V g μ E CX k n (pc + 1) ls (.ref (zR σ a i.toNatClampNeg) :: st) σ) : V g μ E CX k n pc ls (.int i :: .ref a :: st) σ := by
  refine V_step (fun hcl _ h => wv_cons (show wv (zN σ) (.ref (zR σ a i.toNatClampNeg)) from hcl _ _) (wv_tail2 h)) (fun p e s m args below meth c C H locs cells slots ρ lr Q hCn hlr hst _ k => ?_) kk
  rw [List.map_cons, List.map_cons, cv_ref h0]
  refine va_aldq C.1 C.2.1 C.2.2.2.2.2.2.2.2.2.1.1 hCn.1 (a - 2) t0 (by rw [wl_get h0 (ne1 hCn hK (by have := ao.1; omega)) (wv_hd (wv_tail hst)), ent_qa hK ao.1]) (ao.2 _) hi hd ?_
  rw [cv_rf]
  exact k
theorem V_iast {a : Nat} {i x : Int32} (hd : decode μ.2.1 pc = .ok (.iastore, 1)) (h0 : a ≠ 0) (hK : zK σ a = 20) (hi : vp_in i (zL σ a)) (kk : V g μ E CX k n (pc + 1) ls st (uI σ a i.toNatClampNeg x)) : V g μ E CX k n pc ls (.int x :: .int i :: .ref a :: st) σ := by
  refine V_write (a := a) (σ' := uI σ a i.toNatClampNeg x) (e' := fun ρ => .inl (g.2.2.1 20, zL σ a, .inl (upd (zI σ a) i.toNatClampNeg x))) h0 (by rw [hK]; decide) rfl (fun h => wv_hd (wv_tail2 h)) rfl (fun ρ dA b hb => ent_uI hb) (fun ρ => ?_) (fun _ h => h) (fun h => wv_tail3 h) (fun p e s m args below meth c C H locs cells slots ρ lr Q hCn hS hst hg k => ?_) kk
  · rw [ent_ia (by rw [zK_uI]; exact hK)]
    congr 3
    refine congrArg Sum.inl ?_
    funext j
    rw [zI_uI]
    simp [upd]
  · rw [List.map_cons, List.map_cons, List.map_cons, cv_ref h0]
    rw [ent_ia hK] at hg
    exact va_iast C.1 C.2.1 C.2.2.2.2.2.2.2.2.2.1.1 hCn.1 hCn.2.1 hS (a - 2) 0 hg rfl hi hd k
theorem V_zast {a : Nat} {i x : Int32} (hd : decode μ.2.1 pc = .ok (.bastore, 1)) (h0 : a ≠ 0) (hK : zK σ a = 22) (hi : vp_in i (zL σ a)) (hx : vp_nar .boolean x = x) (kk : V g μ E CX k n (pc + 1) ls st (uI σ a i.toNatClampNeg x)) : V g μ E CX k n pc ls (.int x :: .int i :: .ref a :: st) σ := by
  refine V_write (a := a) (σ' := uI σ a i.toNatClampNeg x) (e' := fun ρ => .inl (g.2.2.1 22, zL σ a, .inl (upd (zI σ a) i.toNatClampNeg x))) h0 (by rw [hK]; decide) rfl (fun h => wv_hd (wv_tail2 h)) rfl (fun ρ dA b hb => ent_uI hb) (fun ρ => ?_) (fun _ h => h) (fun h => wv_tail3 h) (fun p e s m args below meth c C H locs cells slots ρ lr Q hCn hS hst hg k => ?_) kk
  · rw [ent_za (by rw [zK_uI]; exact hK)]
    congr 3
    refine congrArg Sum.inl ?_
    funext j
    rw [zI_uI]
    simp [upd]
  · rw [List.map_cons, List.map_cons, List.map_cons, cv_ref h0]
    rw [ent_za hK] at hg
    refine va_zast C.1 C.2.1 C.2.2.2.2.2.2.2.2.2.1.1 hCn.1 hCn.2.1 hS (a - 2) 2 hg rfl hi hd ?_
    rw [hx]
    exact k
theorem V_last {a : Nat} {i : Int32} {x : Int64} (hd : decode μ.2.1 pc = .ok (.lastore, 1)) (h0 : a ≠ 0) (hK : zK σ a = 21) (hi : vp_in i (zL σ a)) (kk : V g μ E CX k n (pc + 1) ls st (uJ σ a i.toNatClampNeg x)) : V g μ E CX k n pc ls (.long x :: .int i :: .ref a :: st) σ := by
  refine V_write (a := a) (σ' := uJ σ a i.toNatClampNeg x) (e' := fun ρ => .inl (g.2.2.1 21, zL σ a, .inr (.inl (vp_updL (zJ σ a) i.toNatClampNeg x)))) h0 (by rw [hK]; decide) rfl (fun h => wv_hd (wv_tail2 h)) rfl (fun ρ dA b hb => ent_uJ hb) (fun ρ => ?_) (fun _ h => h) (fun h => wv_tail3 h) (fun p e s m args below meth c C H locs cells slots ρ lr Q hCn hS hst hg k => ?_) kk
  · rw [ent_ja (by rw [zK_uJ]; exact hK)]
    congr 3
    refine congrArg _ (congrArg _ ?_)
    funext j
    rw [zJ_uJ]
    simp [vp_updL]
  · rw [List.map_cons, List.map_cons, List.map_cons, cv_ref h0]
    rw [ent_ja hK] at hg
    exact va_last C.1 C.2.1 C.2.2.2.2.2.2.2.2.2.1.1 hCn.1 hCn.2.1 hS (a - 2) 1 hg rfl hi hd k
theorem V_aast {a κ t0 ci x : Nat} {C : String} {T : u_T} {i : Int32} (ao : AO κ C t0) (ko : KO ci C T) (hd : decode μ.2.1 pc = .ok (.aastore, 1)) (h0 : a ≠ 0) (hK : zK σ a = κ) (hi : vp_in i (zL σ a)) (hx0 : x ≠ 0) (hx : zK σ x = ci) (kk : V g μ E CX k n (pc + 1) ls st (uR σ a i.toNatClampNeg x)) : V g μ E CX k n pc ls (.ref x :: .int i :: .ref a :: st) σ := by
  refine V_write (a := a) (σ' := uR σ a i.toNatClampNeg x) (e' := fun ρ => .inl (g.2.2.1 κ, zL σ a, .inr (.inr (.inr (.inr (va_up (fun j => oref ρ (zR σ a j)) i.toNatClampNeg (some (ρ x)))))))) h0 (by rw [hK]; have := ao.1; omega) rfl (fun h => wv_hd (wv_tail2 h)) rfl (fun ρ dA b hb => ent_uR hb) (fun ρ => ?_) (fun h hc => wr_hc (wv_hd h) hc) (fun h => wv_tail3 h) (fun p e s m args below meth c C H locs cells slots ρ lr Q hCn hS hst hg k => ?_) kk
  · rw [ent_qa (by rw [zK_uR]; exact hK) ao.1]
    congr 3
    refine congrArg _ (congrArg _ (congrArg _ (congrArg _ ?_)))
    funext j
    rw [zR_uR]
    by_cases hj : j = i.toNatClampNeg
    · rw [if_pos ⟨rfl, hj⟩]; simp [va_up, hj, oref, hx0]
    · rw [if_neg (fun q => hj q.2)]; simp [va_up, hj]
  · rw [List.map_cons, List.map_cons, List.map_cons, cv_ref h0, cv_ref hx0]
    rw [ent_qa hK ao.1] at hg
    exact va_astq C.1 C.2.1 C.2.2.2.2.2.2.2.2.2.1.1 hCn.1 hCn.2.1 hS (a - 2) t0 (x - 2) ci hg (ao.2 _) (by rw [wl_get hx0 (ne1 hCn hx (by have := ko.2.2.2.2; omega)) (wv_hd hst), ent_obj hx ko.2.2.2.2]) ko.1 hi hd k
theorem V_alen {a κ : Nat} (hd : decode μ.2.1 pc = .ok (.arraylength, 1)) (h0 : a ≠ 0) (hK : zK σ a = 20) (kk : V g μ E CX k n (pc + 1) ls (.int (nI (zL σ a)) :: st) σ) : V g μ E CX k n pc ls (.ref a :: st) σ := by
  refine V_step (fun hcl _ h => wv_cons wv_i (wv_tail h)) (fun p e s m args below meth c C H locs cells slots ρ lr Q hCn hlr hst _ k => ?_) kk
  rw [List.map_cons, cv_ref h0]
  exact va_alen (x := (zL σ a, .inl (zI σ a))) (v := nI (zL σ a)) C.1 C.2.1 C.2.2.2.2.2.2.2.2.2.1.1 hCn.1 (a - 2) 0 (by rw [wl_get h0 (ne1 hCn hK (by decide)) (wv_hd hst), ent_ia hK]) rfl rfl hd k
end VH
end
section
/-! ===== making cells ===== -/
def KD (ci : Nat) : Prop := ∀ k, k < fN ci → fT ci k ≠ .float ∧ fT ci k ≠ .double
section VA
variable {g : GP} {μ : MI} {E : ET} {CX : State → Array Value → Prop} {k n pc : Nat} {ls : List (Nat × Value)} {st : List Value} {σ : AH}
theorem lcv_agree {ρ ρ' : Nat → Nat} {N : Nat} (h : ∀ a, 1 ≤ a → a ≤ N → ρ' a = ρ a) {ls : List (Nat × Value)} (hw : ∀ q ∈ ls, wv N q.2) : lcv ρ' ls = lcv ρ ls :=
  List.map_congr_left fun q hq => by rw [cv_agree h (hw q hq)]
theorem st_agree {ρ ρ' : Nat → Nat} {N : Nat} (h : ∀ a, 1 ≤ a → a ≤ N → ρ' a = ρ a) {st : List Value} (hw : ∀ v ∈ st, wv N v) : st.map (cv ρ') = st.map (cv ρ) :=
  List.map_congr_left fun q hq => cv_agree h (hw q hq)
theorem rup_agree {ρ : Nat → Nat} {N q : Nat} : ∀ a, 1 ≤ a → a ≤ N → rup ρ (N + 1) q a = ρ a := fun a _ h => by
  unfold rup; rw [if_neg (by omega)]
theorem nw_hc {κ len : Nat} (h : ∀ b j, zR σ b j ≤ zN σ) : ∀ b j, zR (nw σ κ len) b j ≤ zN (nw σ κ len) := fun b j => by
  rw [zR_nw, zN_nw]
  split
  · omega
  · exact Nat.le_succ_of_le (h b j)
theorem V_alloc {κ len k' n' pc' : Nat} {e' : va_E} {st0 st' : List Value} (hk : Nat.ble (k' + 1) k = true) (hn : Nat.ble (n' + len) n = true) (hw : (∀ v ∈ st0, wv (zN σ) v) → ∀ v ∈ st', wv (zN σ) v) (he : ∀ ρ, ent g.2.2.1 ρ (nw σ κ len) (zN σ + 1) = e')
    (h : ∀ (p : Program) (e : Env) (s : State) (m : MethodId) (args : Array Value) (below : List Frame) (meth : Method) (c : Code), Cx g μ CX p s m args meth c → ∀ (H : Heap) (locs : List Loc) (cells slots : Nat) (ρ : Nat → Nat) (lr : Array Slot) (Q : State → Prop), Cn g ρ σ H → va_S (bs g.2.2.2) s.heap H locs → cells + 1 ≤ μ.2.2.2.2.2.cells → slots + len ≤ μ.2.2.2.2.2.slots →
      (∀ (q : Nat) (H1 : Heap), va_P g.2.1 vwCl (wl g.2.2.1 ρ σ ++ [(q, e')]) H1 → va_D (bs g.2.2.2) (wl g.2.2.1 ρ σ ++ [(q, e')]) → va_S (bs g.2.2.2) s.heap H1 locs → W p g.1 e μ.2.2.2.2.2 s m args below meth c H1 locs (cells + 1) (slots + len) Q (F0 m pc' lr (.ref q :: st'.map (cv ρ)))) → W p g.1 e μ.2.2.2.2.2 s m args below meth c H locs cells slots Q (F0 m pc lr (st0.map (cv ρ))))
    (kk : V g μ E CX k' n' pc' ls (.ref (zN σ + 1) :: st') (nw σ κ len)) : V g μ E CX k n pc ls st0 σ := by
  intro p e s m args below meth c C H locs cells slots ρ ρ0 n0 lr P
  have hS := mkS C P
  have hk := Nat.le_of_ble_eq_true hk
  have hn := Nat.le_of_ble_eq_true hn
  obtain ⟨p1, p2, p3, p4, p5, p6, p7, p8, p9, p10⟩ := P
  refine h p e s m args below meth c C H locs cells slots ρ lr _ p1 hS (by omega) (by omega) fun q H1 hP hD hS1 => ?_
  rw [wl_push p1.2.2.2.2.1 p1.2.2.2.2.2.1 (he _)] at hP hD
  have hw' := hw p10
  have key := kk p e s m args below meth c C H1 locs (cells + 1) (slots + len) (rup ρ (zN σ + 1) q) ρ0 n0 lr ⟨⟨hP, hD, Nat.le_trans C.2.2.2.2.2.2.2.2.2.2.1 hS1.1, fun z hz => ?_, nw_hc p1.2.2.2.2.1, Nat.le_succ_of_le p1.2.2.2.2.2.1, (zK_nw _ _ _ _).trans ((if_neg (by have := p1.2.2.2.2.2.1; omega)).trans p1.2.2.2.2.2.2)⟩, hS1.2.2, by omega, by omega, hS1.1, fun a h1 h2 => ?_, Nat.le_succ_of_le p7, by rw [lcv_agree rup_agree p9]; exact p8, fun z hz => wv_mono (Nat.le_succ _) (p9 z hz), wv_cons (Nat.le_refl _) (fun v hv => wv_mono (Nat.le_succ _) (hw' v hv))⟩
  · rw [List.map_cons, cv_ref (by omega), st_agree rup_agree hw'] at key
    rw [show rup ρ (zN σ + 1) q (zN σ + 1) = q by simp [rup]] at key
    exact key
  · rw [hS1.2.1 z (Nat.lt_of_lt_of_le hz C.2.2.2.2.2.2.2.2.2.2.1) (Nat.not_le.mpr hz)]
    exact C.2.2.2.2.2.2.2.2.2.2.2.1 z hz
  · rw [rup_agree a h1 (Nat.le_trans h2 p7)]
    exact p6 a h1 h2
theorem zK_new {κ len : Nat} : zK (nw σ κ len) (zN σ + 1) = κ := by rw [zK_nw, if_pos rfl]
theorem V_new {ci idx k' n' : Nat} {C : String} {T : u_T} (ko : KO ci C T) (kd : KD ci) (hcl : Cond.classLink μ.1.cls idx C ∈ lw_good) (hins : Cond.instantiable C (fN ci) ∈ lw_good) (hini : Cond.initialized C ∈ lw_good) (hd : decode μ.2.1 pc = .ok (.new idx, 3)) (hk : Nat.ble (k' + 1) k = true) (hn : Nat.ble (n' + fN ci) n = true)
    (kk : V g μ E CX k' n' (pc + 3) ls (.ref (zN σ + 1) :: st) (nw σ ci (fN ci))) : V g μ E CX k n pc ls st σ := by
  refine V_alloc (e' := .inr (ci, (List.range (fN ci)).map (fun k => defaultValue (fT ci k)))) hk hn (fun h => h) (fun ρ => ?_) (fun p e s m args below meth c C H locs cells slots ρ lr Q hCn hS h1 h2 k => ?_) kk
  · rw [ent_obj zK_new ko.2.2.2.2]
    refine congrArg _ (congrArg _ (List.map_congr_left fun j hj => ?_))
    have hj := kd j (List.mem_range.mp hj)
    revert hj
    generalize fT ci j = t
    intro hj
    cases t <;> first | exact absurd rfl hj.1 | exact absurd rfl hj.2 | (simp only [fv, zI_nw, zJ_nw, zR_nw, if_pos]; rfl)
  · exact va_new C.1 C.2.1 C.2.2.2.2.1 ko.2.1 (fT ci) ko.2.2.1 C.2.2.2.1 (C.2.2.2.2.1 _ hcl) (C.2.2.2.2.1 _ hins) (C.2.2.2.2.1 _ hini) C.2.2.2.2.2.2.2.2.2.1.1 hCn.1 hCn.2.1 hS (fun q hq => Nat.le_trans C.2.2.2.2.2.2.2.2.2.2.1 hq) ko.1 (fun j hj => by simp [vp_V, List.getD, List.getElem?_range hj]) h1 h2 hd k
theorem ra_eq {D : va_G} {cl : List vw_C} {tys : List (ClassId × FieldType)} {cA : ClassId} {ty : FieldType} {s : State} (t0 : Nat) {cB : ClassId} (h1 : va_K D cl tys s) (ht : tys[t0]? = some (cB, ty)) (h2 : va_K D cl (tys ++ [(cA, ty)]) s) : cA = cB := by
  have a1 := (h1.2 t0 _ ht).2
  have a2 := (h2.2 tys.length (cA, ty) (by simp)).2
  cases ty with
  | object C =>
    obtain ⟨_, _, _, _, _, e1⟩ := a1
    obtain ⟨_, _, _, _, _, e2⟩ := a2
    exact Option.some.inj (e2.symm.trans e1)
  | _ => exact Option.some.inj (Eq.trans (Eq.symm a2) a1)
theorem V_newi {z : Int32} {len k' n' : Nat} (hw : Cond.arrayClass .int ∈ lw_good) (hd : decode μ.2.1 pc = .ok (.newarray .int, 2)) (hz : ¬ z < 0) (hlen : z.toNatClampNeg = len) (hb : Nat.ble len 100000 = true) (hk : Nat.ble (k' + 1) k = true) (hn : Nat.ble (n' + len) n = true)
    (kk : V g μ E CX k' n' (pc + 2) ls (.ref (zN σ + 1) :: st) (nw σ 20 len)) : V g μ E CX k n pc ls (.int z :: st) σ := by
  have hb := Nat.le_of_ble_eq_true hb
  refine V_alloc (e' := .inl (g.2.2.1 20, len, .inl (fun _ => 0))) hk hn (fun h => wv_tail h) (fun ρ => ?_) (fun p e s m args below meth c C H locs cells slots ρ lr Q hCn hS h1 h2 k => ?_) kk
  · rw [ent_ia zK_new, zL_nw, if_pos rfl]
    refine congrArg _ (congrArg _ (congrArg _ (congrArg _ ?_)))
    funext j
    rw [zI_nw, if_pos rfl]
  · refine va_newa (atype := .int) (a0 := (len, .inl (fun _ => 0))) (ty := .int) C.1 C.2.1 (C.2.2.2.2.1 _ hw) rfl C.2.2.2.2.2.2.2.2.2.1.1 hCn.1 hCn.2.1 hS (fun q hq => Nat.le_trans C.2.2.2.2.2.2.2.2.2.2.1 hq) (fun cA => rfl) hz hlen (by show len * 4 ≤ _; omega) h1 h2 hd (fun q cA H1 hK1 hP hD hS1 => ?_)
    have e := ra_eq 0 C.2.2.2.2.2.2.2.2.2.1.1 rfl hK1
    subst e
    exact k q H1 hP hD hS1
theorem V_newz {z : Int32} {len k' n' : Nat} (hw : Cond.arrayClass .boolean ∈ lw_good) (hd : decode μ.2.1 pc = .ok (.newarray .boolean, 2)) (hz : ¬ z < 0) (hlen : z.toNatClampNeg = len) (hb : Nat.ble len 100000 = true) (hk : Nat.ble (k' + 1) k = true) (hn : Nat.ble (n' + len) n = true)
    (kk : V g μ E CX k' n' (pc + 2) ls (.ref (zN σ + 1) :: st) (nw σ 22 len)) : V g μ E CX k n pc ls (.int z :: st) σ := by
  have hb := Nat.le_of_ble_eq_true hb
  refine V_alloc (e' := .inl (g.2.2.1 22, len, .inl (fun _ => 0))) hk hn (fun h => wv_tail h) (fun ρ => ?_) (fun p e s m args below meth c C H locs cells slots ρ lr Q hCn hS h1 h2 k => ?_) kk
  · rw [ent_za zK_new, zL_nw, if_pos rfl]
    refine congrArg _ (congrArg _ (congrArg _ (congrArg _ ?_)))
    funext j
    rw [zI_nw, if_pos rfl]
  · refine va_newa (atype := .boolean) (a0 := (len, .inl (fun _ => 0))) (ty := .boolean) C.1 C.2.1 (C.2.2.2.2.1 _ hw) rfl C.2.2.2.2.2.2.2.2.2.1.1 hCn.1 hCn.2.1 hS (fun q hq => Nat.le_trans C.2.2.2.2.2.2.2.2.2.2.1 hq) (fun cA => rfl) hz hlen (by show len * 1 ≤ _; omega) h1 h2 hd (fun q cA H1 hK1 hP hD hS1 => ?_)
    have e := ra_eq 2 C.2.2.2.2.2.2.2.2.2.1.1 rfl hK1
    subst e
    exact k q H1 hP hD hS1
theorem V_newl {z : Int32} {len k' n' : Nat} (hw : Cond.arrayClass .long ∈ lw_good) (hd : decode μ.2.1 pc = .ok (.newarray .long, 2)) (hz : ¬ z < 0) (hlen : z.toNatClampNeg = len) (hb : Nat.ble len 100000 = true) (hk : Nat.ble (k' + 1) k = true) (hn : Nat.ble (n' + len) n = true)
    (kk : V g μ E CX k' n' (pc + 2) ls (.ref (zN σ + 1) :: st) (nw σ 21 len)) : V g μ E CX k n pc ls (.int z :: st) σ := by
  have hb := Nat.le_of_ble_eq_true hb
  refine V_alloc (e' := .inl (g.2.2.1 21, len, .inr (.inl (fun _ => 0)))) hk hn (fun h => wv_tail h) (fun ρ => ?_) (fun p e s m args below meth c C H locs cells slots ρ lr Q hCn hS h1 h2 k => ?_) kk
  · rw [ent_ja zK_new, zL_nw, if_pos rfl]
    refine congrArg _ (congrArg _ (congrArg _ (congrArg _ (congrArg _ ?_))))
    funext j
    rw [zJ_nw, if_pos rfl]
  · refine va_newa (atype := .long) (a0 := (len, .inr (.inl (fun _ => 0)))) (ty := .long) C.1 C.2.1 (C.2.2.2.2.1 _ hw) rfl C.2.2.2.2.2.2.2.2.2.1.1 hCn.1 hCn.2.1 hS (fun q hq => Nat.le_trans C.2.2.2.2.2.2.2.2.2.2.1 hq) (fun cA => rfl) hz hlen (by show len * 8 ≤ _; omega) h1 h2 hd (fun q cA H1 hK1 hP hD hS1 => ?_)
    have e := ra_eq 1 C.2.2.2.2.2.2.2.2.2.1.1 rfl hK1
    subst e
    exact k q H1 hP hD hS1
theorem V_newq {κ t0 idx : Nat} {CC : String} {z : Int32} {len k' n' : Nat} (ao : AO κ CC t0) (hao : CC ∈ lw_ao) (hcl : Cond.classLink μ.1.cls idx CC ∈ lw_good) (hd : decode μ.2.1 pc = .ok (.anewarray idx, 3)) (hz : ¬ z < 0) (hlen : z.toNatClampNeg = len) (hb : Nat.ble len 100000 = true) (hk : Nat.ble (k' + 1) k = true) (hn : Nat.ble (n' + len) n = true)
    (kk : V g μ E CX k' n' (pc + 3) ls (.ref (zN σ + 1) :: st) (nw σ κ len)) : V g μ E CX k n pc ls (.int z :: st) σ := by
  have hb := Nat.le_of_ble_eq_true hb
  refine V_alloc (e' := .inl (g.2.2.1 κ, len, .inr (.inr (.inr (.inr (fun _ => none)))))) hk hn (fun h => wv_tail h) (fun ρ => ?_) (fun p e s m args below meth c C H locs cells slots ρ lr Q hCn hS h1 h2 k => ?_) kk
  · rw [ent_qa zK_new ao.1, zL_nw, if_pos rfl]
    refine congrArg _ (congrArg _ (congrArg _ (congrArg _ (congrArg _ (congrArg _ (congrArg _ ?_))))))
    funext j
    rw [zR_nw, if_pos rfl]
    rfl
  · refine va_newq C.1 C.2.1 C.2.2.2.1 (C.2.2.2.2.1 _ hcl) (C.2.2.2.2.2.2.2.2.2.1.2.2.1 _ hao) C.2.2.2.2.2.2.2.2.2.1.1 hCn.1 hCn.2.1 hS (fun q hq => Nat.le_trans C.2.2.2.2.2.2.2.2.2.2.1 hq) hz hlen (by omega) h1 h2 hd (fun q cA H1 hK1 hP hD hS1 => ?_)
    have e := ra_eq t0 C.2.2.2.2.2.2.2.2.2.1.1 (ao.2 _) hK1
    subst e
    exact k q H1 hP hD hS1
/-! ===== ends ===== -/
theorem Pt_Qe {Q : AH → Option Value → Prop} {s : State} {H : Heap} {locs : List Loc} {cells slots : Nat} {ρ ρ0 : Nat → Nat} {n0 : Nat} {lr : Array Slot} (P : Pt1 g μ s k n ls st σ H locs cells slots ρ ρ0 n0 lr) {rv : Option Value} (hrv : ∀ v ∈ rv, wv (zN σ) v) (hQ : Q σ rv) (args : Array Value) (t : State) (ht : t.heap = H) : Qe g ρ0 n0 Q args s (.returned (rv.map (cv ρ))) t :=
  ⟨ρ, σ, rv, rfl, hQ, by rw [ht]; exact P.1, P.2.2.2.2.2.1, P.2.2.2.2.2.2.1, hrv, by rw [ht]; exact P.2.2.2.2.1⟩
theorem V_iret {Q : AH → Option Value → Prop} {X : AH → String → Prop} {x : Int32} (hr : μ.2.2.2.1 = some .int) (hd : decode μ.2.1 pc = .ok (.ireturn, 1)) (hQ : Q σ (some (.int x))) : V g μ (Em g μ Q X) CX k n pc ls [.int x] σ := by
  intro p e s m args below meth c C H locs cells slots ρ ρ0 n0 lr P
  refine W.widen (k := μ.2.2.2.2.2.cells) (n := μ.2.2.2.2.2.slots) (by have := P.2.2.1; omega) (by have := P.2.2.2.1; omega) (vx_ret ?_)
  exact W.iret C.1 C.2.1 (C.2.2.2.2.2.2.1.trans hr) (fun t ht _ => Pt_Qe P (rv := some (.int x)) (fun v hv => by cases hv; trivial) hQ args t ht) P.2.1 hd C.2.2.2.2.2.1
theorem V_zret {Q : AH → Option Value → Prop} {X : AH → String → Prop} {x : Int32} (hr : μ.2.2.2.1 = some .boolean) (hd : decode μ.2.1 pc = .ok (.ireturn, 1)) (hx : narrow .boolean (.int x) = .int x) (hQ : Q σ (some (.int x))) : V g μ (Em g μ Q X) CX k n pc ls [.int x] σ := by
  intro p e s m args below meth c C H locs cells slots ρ ρ0 n0 lr P
  refine W.widen (k := μ.2.2.2.2.2.cells) (n := μ.2.2.2.2.2.slots) (by have := P.2.2.1; omega) (by have := P.2.2.2.1; omega) (vx_ret ?_)
  exact W.zret C.1 C.2.1 (C.2.2.2.2.2.2.1.trans hr) hx (fun t ht _ => Pt_Qe P (rv := some (.int x)) (fun v hv => by cases hv; trivial) hQ args t ht) P.2.1 hd C.2.2.2.2.2.1
theorem V_lret {Q : AH → Option Value → Prop} {X : AH → String → Prop} {x : Int64} (hr : μ.2.2.2.1 = some .long) (hd : decode μ.2.1 pc = .ok (.lreturn, 1)) (hQ : Q σ (some (.long x))) : V g μ (Em g μ Q X) CX k n pc ls [.long x] σ := by
  intro p e s m args below meth c C H locs cells slots ρ ρ0 n0 lr P
  refine W.widen (k := μ.2.2.2.2.2.cells) (n := μ.2.2.2.2.2.slots) (by have := P.2.2.1; omega) (by have := P.2.2.2.1; omega) (vx_ret ?_)
  exact W.lret C.1 C.2.1 (C.2.2.2.2.2.2.1.trans hr) (fun t ht _ => Pt_Qe P (rv := some (.long x)) (fun v hv => by cases hv; trivial) hQ args t ht) P.2.1 hd C.2.2.2.2.2.1
theorem V_vret {Q : AH → Option Value → Prop} {X : AH → String → Prop} (hr : μ.2.2.2.1 = none) (hd : decode μ.2.1 pc = .ok (.return_, 1)) (hQ : Q σ none) : V g μ (Em g μ Q X) CX k n pc ls [] σ := by
  intro p e s m args below meth c C H locs cells slots ρ ρ0 n0 lr P
  refine W.widen (k := μ.2.2.2.2.2.cells) (n := μ.2.2.2.2.2.slots) (by have := P.2.2.1; omega) (by have := P.2.2.2.1; omega) (vx_ret ?_)
  exact W.vret C.1 C.2.1 (C.2.2.2.2.2.2.1.trans hr) (fun t ht _ => Pt_Qe P (rv := none) (fun v hv => by cases hv) hQ args t ht) P.2.1 hd C.2.2.2.2.2.1
theorem V_aret {Q : AH → Option Value → Prop} {X : AH → String → Prop} {a : Nat} {CC : String} (hr : μ.2.2.2.1 = some (.object CC)) (hd : decode μ.2.1 pc = .ok (.areturn, 1)) (hQ : Q σ (some (.ref a))) : V g μ (Em g μ Q X) CX k n pc ls [.ref a] σ := by
  intro p e s m args below meth c C H locs cells slots ρ ρ0 n0 lr P
  refine W.widen (k := μ.2.2.2.2.2.cells) (n := μ.2.2.2.2.2.slots) (by have := P.2.2.1; omega) (by have := P.2.2.2.1; omega) (vx_ret ?_)
  exact W.aret C.1 C.2.1 (C.2.2.2.2.2.2.1.trans hr) (Or.inl ⟨_, rfl⟩) (by by_cases h : a = 0 <;> simp [cv, h]) (fun t ht _ => Pt_Qe P (rv := some (.ref a)) (fun v hv => by cases hv; exact wv_hd P.2.2.2.2.2.2.2.2.2) hQ args t ht) P.2.1 hd C.2.2.2.2.2.1
theorem cats (ρ : Nat → Nat) (st : List Value) : ((st.map (cv ρ)).map fun v => v.category).sum = (st.map fun v => v.category).sum := by
  rw [List.map_map]
  refine congrArg _ (List.map_congr_left fun v _ => cv_cat ρ v)
/-- super() of Object -/
theorem V_objinit {idx a : Nat} (hl : Cond.methodLink μ.1.cls idx Lib.objectInit ∈ lw_good) (hi : Cond.instanceMethod Lib.objectInit ∈ lw_good) (hc : Cond.code Lib.objectInit ⟨#[0xb1]⟩ 1 none ∈ lw_good) (hd : decode μ.2.1 pc = .ok (.invokespecial idx, 3)) (h0 : a ≠ 0) (hf : Nat.ble 1 μ.2.2.2.2.2.frames = true) (hlo : Nat.ble ((st.map fun v => v.category).sum + 12) μ.2.2.2.2.2.locals = true)
    (kk : V g μ E CX k n (pc + 3) ls st σ) : V g μ E CX k n pc ls (.ref a :: st) σ := by
  refine V_step (fun _ _ h => wv_tail h) (fun p e s m args below meth c C H locs cells slots ρ lr Q hCn hlr hst _ k => ?_) kk
  rw [List.map_cons, cv_ref h0]
  refine W.objInit C.1 C.2.1 C.2.2.2.1 (C.2.2.2.2.1 _ hl) (C.2.2.2.2.1 _ hi) (C.2.2.2.2.1 _ hc) rfl (hlr.1.trans C.2.2.1.symm) rfl hd (Nat.le_of_ble_eq_true hf) ?_ k
  have := Nat.le_of_ble_eq_true hlo
  show 2 * 0 + ((st.map (cv ρ)).map fun v => v.category).sum + 12 ≤ _
  rw [cats]
  omega
end VA
end
section
/-! ===== contracts of methods ===== -/
def wsy (μ : MI) : List Cond := .code μ.1 μ.2.1 μ.2.2.1 μ.2.2.2.1 :: lw_good
def wsh (μ : MI) : List Cond := .codeWith μ.1 μ.2.1 μ.2.2.1 μ.2.2.2.1 μ.2.2.2.2.1 :: lw_good
def Pe (g : GP) (ρ : Nat → Nat) (as : List Value) (σ : AH) : Array Value → State → Prop := va_Pc (as.map (cv ρ)) (fun U => Cn g ρ σ U.heap ∧ Amb g U ∧ (∀ v ∈ as, wv (zN σ) v) ∧ g.1.stackTraces = false)
/-- it returns with Q -/
def Ct (g : GP) (μ : MI) (as : List Value) (σ : AH) (Q : AH → Option Value → Prop) : Prop := ∀ ρ, Met g.1 μ.1 (wsy μ) μ.2.2.2.2.2 (Pe g ρ as σ) (Qe g ρ (zN σ) Q) μ.2.2.2.2.2.cells μ.2.2.2.2.2.slots (bs g.2.2.2)
/-- it returns with Q or throws with X -/
def CtX (g : GP) (μ : MI) (as : List Value) (σ : AH) (Q : AH → Option Value → Prop) (X : AH → String → Prop) : Prop := ∀ ρ, vx_Met g.1 μ.1 (wsy μ) μ.2.2.2.2.2 (Pe g ρ as σ) (Qe g ρ (zN σ) Q) (Xe g ρ (zN σ) X) μ.2.2.2.2.2.cells μ.2.2.2.2.2.slots (bs g.2.2.2)
/-- the same, of a method with handlers -/
def CtH (g : GP) (μ : MI) (as : List Value) (σ : AH) (Q : AH → Option Value → Prop) : Prop := ∀ ρ, Met g.1 μ.1 (wsh μ) μ.2.2.2.2.2 (Pe g ρ as σ) (Qe g ρ (zN σ) Q) μ.2.2.2.2.2.cells μ.2.2.2.2.2.slots (bs g.2.2.2)
def NX : AH → String → Prop := fun _ _ => False
theorem Pe_blind (g : GP) (ρ : Nat → Nat) (as : List Value) (σ : AH) : FrameBlind (Pe g ρ as σ) := fun a U g' mk ⟨h1, h2, h3, h4⟩ => ⟨h1, h2, Amb.warm (s := U) (State.WarmedH.refl U) h3, h4⟩
theorem W.mono {p : Program} {l : Launch} {e : Env} {R : Room} {s : State} {m : MethodId} {args : Array Value} {below : List Frame} {meth : Method} {c : Code} {H : Heap} {locs : List Loc} {cells slots : Nat} {Q Q' : State → Prop} {f : JFrame} (h : ∀ t, Q t → Q' t) (k : W p l e R s m args below meth c H locs cells slots Q f) : W p l e R s m args below meth c H locs cells slots Q' f := fun T hT X => by
  obtain ⟨t, a, b⟩ := k T hT X
  exact ⟨t, a, h t b⟩
theorem Em_NX {g : GP} {μ : MI} {Q : AH → Option Value → Prop} {below : List Frame} {args : Array Value} {s : State} {ρ0 : Nat → Nat} {n0 : Nat} : ∀ t, Em g μ Q NX below args s ρ0 n0 t → MQ below (Qe g ρ0 n0 Q) args s μ.2.2.2.2.2.cells μ.2.2.2.2.2.slots (bs g.2.2.2) t := fun t ⟨o, h1, h2, h3⟩ => by
  rcases h3 with ⟨h3, h4⟩ | ⟨q, h3, E, ce, L, ⟨ρ, σ, hX, _⟩, _⟩
  · exact ⟨o, h1, h2, h3, h4⟩
  · exact hX.elim
/-- what is decided of a method by its numbers -/
def MOk (μ : MI) : Prop := plainName μ.1.cls = true ∧ (Nat.ble (lg_sl (List.replicate 0 Value.null)).length 0 = true)
theorem lg_sl_cv (ρ : Nat → Nat) (as : List Value) : (lg_sl (as.map (cv ρ))).length = (lg_sl as).length := by
  unfold lg_sl
  rw [List.length_flatMap, List.length_flatMap, List.map_map]
  refine congrArg _ (List.map_congr_left fun v _ => ?_)
  simp only [Function.comp, cv_cat]
  split <;> rfl
theorem lv_args_cv (ρ : Nat → Nat) : ∀ (as : List Value) (i : Nat), lv_args i (as.map (cv ρ)) = lcv ρ (lv_args i as)
  | [], _ => rfl
  | v :: t, i => by
    simp only [List.map_cons, lv_args, cv_cat, lcv]
    rw [lv_args_cv ρ t]
    rfl
theorem lv_args_wv {N : Nat} : ∀ (as : List Value) (i : Nat), (∀ v ∈ as, wv N v) → ∀ q ∈ lv_args i as, wv N q.2
  | [], _, _, q, h => by cases h
  | v :: t, i, h, q, hq => by
    rcases List.mem_cons.mp hq with rfl | hq
    · exact h v List.mem_cons_self
    · exact lv_args_wv t _ (fun x hx => h x (List.mem_cons_of_mem _ hx)) q hq
/-- from a method's entry -/
theorem V_enter {g : GP} {μ : MI} {E : ET} {as : List Value} {σ : AH} (hlen : Nat.ble (lg_sl as).length μ.2.2.1 = true)
    (kk : V g μ E CT μ.2.2.2.2.2.cells μ.2.2.2.2.2.slots 0 (lv_args 0 as) [] σ) {p : Program} {e : Env} {s : State} {m : MethodId} {args : Array Value} {below : List Frame} {meth : Method} {c : Code} {ρ : Nat → Nat}
    (C : Cx g μ CT p s m args meth c) (hP : Cn g ρ σ s.heap) (ha : args = (as.map (cv ρ)).toArray) (hw : ∀ v ∈ as, wv (zN σ) v) :
    W p g.1 e μ.2.2.2.2.2 s m args below meth c s.heap [] 0 0 (E below args s ρ (zN σ)) (entryFrame m args μ.2.2.1) := by
  have hl := lv_entry (as.map (cv ρ)) (n := μ.2.2.1) (by rw [lg_sl_cv]; exact Nat.le_of_ble_eq_true hlen)
  rw [ha, lg_entry_eq, ← ha]
  generalize (lg_sl (as.map (cv ρ)) ++ List.replicate (μ.2.2.1 - (lg_sl (as.map (cv ρ))).length) Slot.unset).toArray = lr at hl ⊢
  rw [lv_args_cv] at hl
  exact kk p e s m args below meth c C s.heap [] 0 0 ρ ρ (zN σ) lr ⟨hP, fun _ h => (by cases h), by omega, by omega, Nat.le_refl _, fun _ _ _ => rfl, Nat.le_refl _, hl, lv_args_wv as 0 hw, fun _ h => (by cases h)⟩
theorem CtX_of {g : GP} {μ : MI} {as : List Value} {σ : AH} {Q : AH → Option Value → Prop} {X : AH → String → Prop} (hy : plainName μ.1.cls = true) (hh : μ.2.2.2.2.1 = []) (hlen : Nat.ble (lg_sl as).length μ.2.2.1 = true)
    (kk : V g μ (Em g μ Q X) CT μ.2.2.2.2.2.cells μ.2.2.2.2.2.slots 0 (lv_args 0 as) [] σ) : CtX g μ as σ Q X := by
  intro ρ
  refine vx_ofW (cc := μ.2.1) (maxL := μ.2.2.1) (ret := μ.2.2.2.1) hy rfl ?_
  intro p e s m args below meth c s₁ B hml ht hv
  obtain ⟨ha, hP, hA, hw, hst⟩ := hv
  have hts := atoms_spec (ws := wsy μ) B.pre
  exact V_enter (E := Em g μ Q X) hlen kk ⟨B.exec, B.bytes, hml, findClass_of_methodNamed B.named, fun w hw => hts w (List.mem_cons_of_mem _ hw), B.notSynchronized, B.returns, (name_of_methodNamed B.named B.method).1, by
    rw [hh]
    cases h9 : c.exceptionTable.toList with
    | nil => rfl
    | cons x t => exact (ht x (by rw [h9]; exact List.mem_cons_self)).elim, hA, hP.2.2.1, hP.2.2.2.1, hst, trivial⟩ hP ha hw
theorem Ct_of {g : GP} {μ : MI} {as : List Value} {σ : AH} {Q : AH → Option Value → Prop} (hy : plainName μ.1.cls = true) (hh : μ.2.2.2.2.1 = []) (hlen : Nat.ble (lg_sl as).length μ.2.2.1 = true)
    (kk : V g μ (Em g μ Q NX) CT μ.2.2.2.2.2.cells μ.2.2.2.2.2.slots 0 (lv_args 0 as) [] σ) : Ct g μ as σ Q := by
  intro ρ
  refine Met.ofW (cc := μ.2.1) (maxL := μ.2.2.1) (ret := μ.2.2.2.1) hy rfl ?_
  intro p e s m args below meth c s₁ B hml hv
  obtain ⟨ha, hP, hA, hw, hst⟩ := hv
  have hts := atoms_spec (ws := wsy μ) B.pre
  refine W.mono Em_NX (V_enter (E := Em g μ Q NX) hlen kk ⟨B.exec, B.bytes, hml, findClass_of_methodNamed B.named, fun w hw => hts w (List.mem_cons_of_mem _ hw), B.notSynchronized, B.returns, (name_of_methodNamed B.named B.method).1, ?_, hA, hP.2.2.1, hP.2.2.2.1, hst, trivial⟩ hP ha hw)
  rw [hh]
  obtain ⟨meth9, c9, h1, h2, -, -, -, -, h7, -⟩ := Cond.code_spec B.named (hts _ List.mem_cons_self)
  cases Option.some.inj (h1.symm.trans B.method)
  cases Option.some.inj (h2.symm.trans (Stand.of_body B).code)
  rw [Array.isEmpty_iff.mp h7]
  rfl
theorem CtH_of {g : GP} {μ : MI} {as : List Value} {σ : AH} {Q : AH → Option Value → Prop} (hy : plainName μ.1.cls = true) (hlen : Nat.ble (lg_sl as).length μ.2.2.1 = true)
    (kk : V g μ (Em g μ Q NX) CT μ.2.2.2.2.2.cells μ.2.2.2.2.2.slots 0 (lv_args 0 as) [] σ) : CtH g μ as σ Q := by
  intro ρ
  refine MetFree.of_bodyS (code := μ.2.1) (maxLocals := μ.2.2.1) (ret := μ.2.2.2.1) hy ?_ ?_
  · intro args s m h hn
    obtain ⟨m9, meth, c, hn9, h1, h2, h3, h4, -, h5, h6, -⟩ := Cond.codeWith_spec (atoms_spec (ws := wsh μ) h _ List.mem_cons_self)
    cases hn.symm.trans hn9
    exact ⟨meth, c, h1, h2, h3, h4, h5, h6⟩
  · intro p e s m args below meth c s₁ B hml hv _
    obtain ⟨ha, hP, hA, hw, hst⟩ := hv
    have hts := atoms_spec (ws := wsh μ) B.pre
    have hh0 : s₁.heap = s.heap := by rw [B.state]; rfl
    have K := W.mono Em_NX (V_enter (E := Em g μ Q NX) (e := e) (below := below) hlen kk ⟨B.exec, B.bytes, hml, findClass_of_methodNamed B.named, fun w hw => hts w (List.mem_cons_of_mem _ hw), B.notSynchronized, B.returns, (name_of_methodNamed B.named B.method).1, vx_table (x := μ.1) B (hts _ List.mem_cons_self), hA, hP.2.2.1, hP.2.2.2.1, hst, trivial⟩ hP ha hw)
    obtain ⟨t, a1, o, b1, b2, b3⟩ := K s₁ hh0 (Stand.of_body B)
    exact ⟨t, o, a1, b1, b2, b3⟩
/-! ===== behind a call ===== -/
section VC
variable {g : GP} {μ z : MI} {E : ET} {CX : State → Array Value → Prop} {k n k' n' pc : Nat} {ls : List (Nat × Value)} {st as : List Value} {σ : AH} {Q : AH → Option Value → Prop} {X : AH → String → Prop}
/-- the numbers of a call: room for frames, locals, cells, slots -/
def RF (μ z : MI) (k n k' n' : Nat) (st : List Value) : Prop := Nat.ble (z.2.2.2.2.2.frames + 1) μ.2.2.2.2.2.frames = true ∧ Nat.ble (8 + (z.2.2.1 + 11) + z.2.2.2.2.2.locals) μ.2.2.2.2.2.locals = true ∧ Nat.ble (z.2.2.2.2.2.cells + k') k = true ∧ Nat.ble (z.2.2.2.2.2.slots + n') n = true ∧ Nat.ble (st.map fun v => v.category).sum 8 = true
theorem V_back {p : Program} {s : State} {m : MethodId} {args : Array Value} {meth : Method} {c : Code} (C : Cx g μ CX p s m args meth c) {H : Heap} {locs : List Loc} {cells slots : Nat} {ρ ρ0 : Nat → Nat} {n0 : Nat} {lr : Array Slot} {st0 : List Value} (P : Pt1 g μ s k n ls st0 σ H locs cells slots ρ ρ0 n0 lr) (hst : ∀ v ∈ st, wv (zN σ) v) {mc ms : Nat} (hk : mc + k' ≤ k) (hn : ms + n' ≤ n)
    {a : Array Value} {v : Option Value} {st₀ t T' : State} {L : List Loc} (h0 : st₀.heap = H) (hL : ∀ q ∈ L, bs g.2.2.2 q.base) (e1 : T'.heap = t.heap) (hq : Qe g ρ (zN σ) Q a st₀ (.returned v) t) :
    ∃ (ρ' : Nat → Nat) (σ' : AH) (rv : Option Value), v = rv.map (cv ρ') ∧ Q σ' rv ∧ Pt1 g μ s k' n' ls (rv.toList ++ st) σ' T'.heap (locs ++ L) (cells + mc) (slots + ms) ρ' ρ0 n0 lr ∧ (v.toList ++ st.map (cv ρ)) = (rv.toList ++ st).map (cv ρ') := by
  obtain ⟨ρ', σ', rv, hv, hQ, hC, hag, hn1, hrv, hsz⟩ := hq
  obtain ⟨p1, p2, p3, p4, p5, p6, p7, p8, p9, p10⟩ := P
  cases hv
  refine ⟨ρ', σ', rv, rfl, hQ, ⟨by rw [e1]; exact hC, fun q h => ?_, by omega, by omega, by rw [e1]; rw [h0] at hsz; omega, fun x h1 h2 => ?_, by omega, ?_, fun q h => wv_mono hn1 (p9 q h), fun x h => ?_⟩, ?_⟩
  · rcases List.mem_append.mp h with h | h
    · exact p2 q h
    · exact hL q h
  · rw [hag x h1 (by omega)]; exact p6 x h1 h2
  · rw [lcv_agree hag p9]; exact p8
  · rcases List.mem_append.mp h with h | h
    · exact hrv x (Option.mem_toList.mp h)
    · exact wv_mono hn1 (hst x h)
  · rw [List.map_append, st_agree hag hst]
    cases rv <;> rfl
theorem V_ret {p : Program} {e : Env} {s : State} {m : MethodId} {args : Array Value} {below : List Frame} {meth : Method} {c : Code} (C : Cx g μ CX p s m args meth c) {H : Heap} {locs : List Loc} {cells slots : Nat} {ρ ρ0 : Nat → Nat} {n0 : Nat} {lr : Array Slot} {st0 : List Value} (P : Pt1 g μ s k n ls st0 σ H locs cells slots ρ ρ0 n0 lr) (hst : ∀ v ∈ st, wv (zN σ) v) {mc ms : Nat} (hk : mc + k' ≤ k) (hn : ms + n' ≤ n)
    {a : Array Value} (hr : va_Run p g.1 e μ.2.2.2.2.2 s m args below meth c H locs cells slots mc ms (F0 m pc lr (st0.map (cv ρ))) (st.map (cv ρ)) (Qe g ρ (zN σ) Q a) (bs g.2.2.2))
    (kk : ∀ σ' rv, Q σ' rv → V g μ E CX k' n' (pc + 3) ls (rv.toList ++ st) σ') : W p g.1 e μ.2.2.2.2.2 s m args below meth c H locs cells slots (E below args s ρ0 n0) (F0 m pc lr (st0.map (cv ρ))) := by
  intro T hT X
  obtain ⟨v, st₀, t, T', L, h0, X', hL, e1, e2, hq, go⟩ := hr T hT X
  obtain ⟨ρ', σ', rv, hv, hQ, P', he⟩ := V_back C P hst hk hn h0 hL e1 hq
  obtain ⟨t2, a1, b1⟩ := kk σ' rv hQ p e s m args below meth c C T'.heap (locs ++ L) _ _ ρ' ρ0 n0 lr P' T' rfl X'
  refine ⟨t2, go t2 ?_, b1⟩
  rw [he]
  exact a1
theorem V_retX {p : Program} {e : Env} {s : State} {m : MethodId} {args : Array Value} {below : List Frame} {meth : Method} {c : Code} (C : Cx g μ CX p s m args meth c) {H : Heap} {locs : List Loc} {cells slots : Nat} {ρ ρ0 : Nat → Nat} {n0 : Nat} {lr : Array Slot} {st0 : List Value} (P : Pt1 g μ s k n ls st0 σ H locs cells slots ρ ρ0 n0 lr) (hst : ∀ v ∈ st, wv (zN σ) v) {mc ms : Nat} (hk : mc + k' ≤ k) (hn : ms + n' ≤ n)
    {a : Array Value} (hr : vx_Run p g.1 e μ.2.2.2.2.2 s m args below meth c H locs cells slots mc ms (F0 m pc lr (st0.map (cv ρ))) (st.map (cv ρ)) (Qe g ρ (zN σ) Q a) (Xe g ρ (zN σ) X) (bs g.2.2.2))
    (kk : ∀ σ' rv, Q σ' rv → V g μ E CX k' n' (pc + 3) ls (rv.toList ++ st) σ')
    (kx : ∀ (σ' : AH) (Ex : String) (q : Addr) (ce : Cell) (H1 : Heap) (locs1 : List Loc) (ρ' : Nat → Nat), X σ' Ex → Pt1 g μ s k' n' ls st σ' H1 locs1 (cells + mc) (slots + ms) ρ' ρ0 n0 lr → H1[q]? = some ce → ce.vm = .none → s.vm.findClass Ex = some ce.cls → vx_W p g.1 e μ.2.2.2.2.2 s m args below meth c H1 locs1 (cells + mc) (slots + ms) (E below args s ρ0 n0) (F0 m pc lr (st.map (cv ρ'))) q) : W p g.1 e μ.2.2.2.2.2 s m args below meth c H locs cells slots (E below args s ρ0 n0) (F0 m pc lr (st0.map (cv ρ))) := by
  intro T hT X
  rcases hr T hT X with ⟨v, st₀, t, T', L, h0, X', hL, e1, e2, hq, go⟩ | ⟨q, st₀, t, T', L, Ex, ce, h0, X', hL, e1, e2, ⟨ρ', σ', hX, hC, hag, hn1, hsz⟩, hce, hcv, hcl, st1⟩
  · obtain ⟨ρ', σ', rv, hv, hQ, P', he⟩ := V_back C P hst hk hn h0 hL e1 hq
    obtain ⟨t2, a1, b1⟩ := kk σ' rv hQ p e s m args below meth c C T'.heap (locs ++ L) _ _ ρ' ρ0 n0 lr P' T' rfl X'
    refine ⟨t2, go t2 ?_, b1⟩
    rw [he]
    exact a1
  · obtain ⟨p1, p2, p3, p4, p5, p6, p7, p8, p9, p10⟩ := P
    have P' : Pt1 g μ s k' n' ls st σ' T'.heap (locs ++ L) (cells + mc) (slots + ms) ρ' ρ0 n0 lr := by
      refine ⟨by rw [e1]; exact hC, fun q h => ?_, by omega, by omega, by rw [e1]; rw [h0] at hsz; omega, fun x h1 h2 => ?_, by omega, ?_, fun q h => wv_mono hn1 (p9 q h), fun x h => wv_mono hn1 (hst x h)⟩
      · rcases List.mem_append.mp h with h | h
        · exact p2 q h
        · exact hL q h
      · rw [hag x h1 (by omega)]; exact p6 x h1 h2
      · rw [lcv_agree hag p9]; exact p8
    obtain ⟨t2, a1, b1⟩ := kx σ' Ex q ce T'.heap (locs ++ L) ρ' hX P' (by rw [e1]; exact hce) hcv hcl T' rfl X'
    rw [st_agree hag hst] at a1
    exact ⟨t2, st1.trans a1, b1⟩
/-! ===== the words of a call ===== -/
def NoH (y : MethodName) : Prop := y.cls ≠ "java/lang/invoke/MethodHandle" ∧ y.cls ≠ "java/lang/invoke/VarHandle"
def Ar (y : MethodName) (n : Nat) : Prop := NoH y ∧ (parseMethodDescriptor y.desc).map (fun d => d.parameters.length) = some n
/-- a method's own words: its code, its class initialised -/
def MW (z : MI) : Prop := Cond.code z.1 z.2.1 z.2.2.1 z.2.2.2.1 ∈ lw_good ∧ Cond.initialized z.1.cls ∈ lw_good
theorem wsy_good (h : MW z) : GoodIn lw_good (wsy z) := lw_goodIn _ fun w hw => (List.mem_cons.mp hw).elim (fun e => e ▸ h.1) id
theorem cw_of {R : Room} {s : State} {args : Array Value} {own : String} {idx m : Nat} (hts : ∀ w ∈ lw_good, w.before args s = true) (hm : MW z) (hl : Cond.methodLink own idx z.1 ∈ lw_good) (ha : Ar z.1 m) (hf : z.2.2.2.2.2.frames + 1 ≤ R.frames) (hlo : 8 + (z.2.2.1 + 11) + z.2.2.2.2.2.locals ≤ R.locals) :
    CallB R s args own idx z.1 z.2.1 z.2.2.1 z.2.2.2.1 (wsy z) z.2.2.2.2.2 z.2.2.2.2.2.cells z.2.2.2.2.2.slots m :=
  callB_of m hts (wsy_good hm) rfl rfl rfl (hts _ hm.2) (hts _ hl) ⟨ha.1.1, ha.1.2, ha.2⟩ ⟨hf, hlo⟩
theorem cn_of {R : Room} {s : State} {args : Array Value} {own host : String} {idx m : Nat} (hts : ∀ w ∈ lw_good, w.before args s = true) (hA : Amb g s) (hm : MW z) (hl : (own, idx, z.1, host) ∈ lw_nest) (ha : Ar z.1 m) (hf : z.2.2.2.2.2.frames + 1 ≤ R.frames) (hlo : 8 + (z.2.2.1 + 11) + z.2.2.2.2.2.locals ≤ R.locals) :
    va_CN R s args own idx z.1 host z.2.1 z.2.2.1 z.2.2.2.1 (wsy z) z.2.2.2.2.2 z.2.2.2.2.2.cells z.2.2.2.2.2.slots m :=
  va_cnB m hts (wsy_good hm) rfl rfl rfl (hA.2.1 _ hl) (hts _ hm.2) ⟨ha.1.1, ha.1.2, ha.2⟩ ⟨hf, hlo⟩
theorem pe_of {p : Program} {s : State} {m : MethodId} {args : Array Value} {meth : Method} {c : Code} (C : Cx g μ CX p s m args meth c) {ρ : Nat → Nat} {H : Heap} (hC : Cn g ρ σ H) (hw : ∀ v ∈ as, wv (zN σ) v) : PreS s H (Pe g ρ as σ) (as.map (cv ρ)) :=
  ⟨Pe_blind g ρ as σ, fun U hU hW => ⟨rfl, by rw [hU]; exact hC, Amb.warm hW C.2.2.2.2.2.2.2.2.2.1, hw, C.2.2.2.2.2.2.2.2.2.2.2.2.1⟩⟩
theorem pv_of {p : Program} {s : State} {m : MethodId} {args : Array Value} {meth : Method} {c : Code} {ci a : Nat} {CC : String} {T : u_T} (C : Cx g μ CX p s m args meth c) {ρ : Nat → Nat} {H : Heap} (hC : Cn g ρ σ H) (ko : KO ci CC T) (h0 : a ≠ 0) (hK : zK σ a = ci) (hw : ∀ v ∈ .ref a :: as, wv (zN σ) v) : PreV s H CC (ρ a) (Pe g ρ (.ref a :: as) σ) (as.map (cv ρ)) := by
  refine ⟨Pe_blind g ρ _ σ, va_recv C.2.2.2.2.2.2.2.2.2.1.1 hC.1 (ci := ci) (q0 := a - 2) ko.1 (by rw [wl_get h0 (ne1 hC hK (by have := ko.2.2.2.2; omega)) (wv_hd hw), ent_obj hK ko.2.2.2.2]), fun U hU hW => ⟨?_, by rw [hU]; exact hC, Amb.warm hW C.2.2.2.2.2.2.2.2.2.1, hw, C.2.2.2.2.2.2.2.2.2.2.2.2.1⟩⟩
  rw [List.map_cons, cv_ref h0]
theorem wv_args {N : Nat} {as st : List Value} (h : ∀ v ∈ as.reverse ++ st, wv N v) : (∀ v ∈ as, wv N v) ∧ ∀ v ∈ st, wv N v :=
  ⟨fun v hv => h v (List.mem_append_left _ (List.mem_reverse.mpr hv)), fun v hv => h v (List.mem_append_right _ hv)⟩
theorem wv_argsV {N a : Nat} {as st : List Value} (h : ∀ v ∈ as.reverse ++ .ref a :: st, wv N v) : (∀ v ∈ .ref a :: as, wv N v) ∧ ∀ v ∈ st, wv N v := by
  obtain ⟨h1, h2⟩ := wv_args h
  exact ⟨wv_cons (wv_hd h2) h1, wv_tail h2⟩
/-- a static call -/
theorem V_callS {idx m : Nat} (hc : Ct g z as σ Q) (hm : MW z) (hs : Cond.static z.1 ∈ lw_good) (hl : Cond.methodLink μ.1.cls idx z.1 ∈ lw_good) (ha : Ar z.1 as.length) (rf : RF μ z k n k' n' st) (hd : decode μ.2.1 pc = .ok (.invokestatic idx, 3))
    (kk : ∀ σ' rv, Q σ' rv → V g μ E CX k' n' (pc + 3) ls (rv.toList ++ st) σ') : V g μ E CX k n pc ls (as.reverse ++ st) σ := by
  intro p e s m args below meth c C H locs cells slots ρ ρ0 n0 lr P
  obtain ⟨w1, w2⟩ := wv_args P.2.2.2.2.2.2.2.2.2
  have r1 := Nat.le_of_ble_eq_true rf.1
  have r2 := Nat.le_of_ble_eq_true rf.2.1
  have r3 := Nat.le_of_ble_eq_true rf.2.2.1
  have r4 := Nat.le_of_ble_eq_true rf.2.2.2.1
  have r5 := Nat.le_of_ble_eq_true rf.2.2.2.2
  have q1 := P.2.2.1
  have q2 := P.2.2.2.1
  refine V_ret C P w2 r3 r4 (va_runS (As := as.map (cv ρ)) ⟨C.1, C.2.1, C.2.2.1, C.2.2.2.1, C.2.2.2.2.1⟩ (hc ρ) ⟨cw_of C.2.2.2.2.1 hm hl ha r1 r2, C.2.2.2.2.1 _ hs⟩ (pe_of C P.1 w1) rfl (by simp) P.2.2.2.2.2.2.2.1.1 (by simp [F0]) ?_ hd ⟨by omega, by omega⟩) kk
  exact lv_room (by rw [cats]; exact r5)
end VC
end
section
/-! ===== more calls ===== -/
section VD
variable {g : GP} {μ z : MI} {E : ET} {CX : State → Array Value → Prop} {k n k' n' pc : Nat} {ls : List (Nat × Value)} {st as : List Value} {σ : AH} {Q : AH → Option Value → Prop} {X : AH → String → Prop}
/-- a virtual call of a method of the receiver's own class -/
theorem V_callV {idx ci a : Nat} {CC : String} {T : u_T} (hc : Ct g z (.ref a :: as) σ Q) (hm : MW z) (ko : KO ci CC T) (hCC : z.1.cls = CC) (hi : Cond.instanceMethod z.1 ∈ lw_good) (hs : Cond.selects CC z.1 z.1 ∈ lw_good) (hl : Cond.methodLink μ.1.cls idx z.1 ∈ lw_good) (ha : Ar z.1 as.length) (rf : RF μ z k n k' n' st) (hd : decode μ.2.1 pc = .ok (.invokevirtual idx, 3)) (h0 : a ≠ 0) (hK : zK σ a = ci)
    (kk : ∀ σ' rv, Q σ' rv → V g μ E CX k' n' (pc + 3) ls (rv.toList ++ st) σ') : V g μ E CX k n pc ls (as.reverse ++ .ref a :: st) σ := by
  intro p e s m args below meth c C H locs cells slots ρ ρ0 n0 lr P
  obtain ⟨w1, w2⟩ := wv_argsV P.2.2.2.2.2.2.2.2.2
  have r1 := Nat.le_of_ble_eq_true rf.1
  have r2 := Nat.le_of_ble_eq_true rf.2.1
  have r3 := Nat.le_of_ble_eq_true rf.2.2.1
  have r4 := Nat.le_of_ble_eq_true rf.2.2.2.1
  have r5 := Nat.le_of_ble_eq_true rf.2.2.2.2
  have q1 := P.2.2.1
  have q2 := P.2.2.2.1
  have hM := hc ρ
  refine V_ret C P w2 r3 r4 (a := (Value.ref (ρ a) :: as.map (cv ρ)).toArray) (va_runV (C := CC) (b := ρ a) (As := as.map (cv ρ)) ⟨C.1, C.2.1, C.2.2.1, C.2.2.2.1, C.2.2.2.2.1⟩ hM ⟨cw_of C.2.2.2.2.1 hm hl ha r1 r2, C.2.2.2.2.1 _ hi, C.2.2.2.2.1 _ hs⟩ (pv_of C P.1 ko h0 hK w1) rfl (by simp) P.2.2.2.2.2.2.2.1.1 (by simp [F0, cv_ref h0]) ?_ hd ⟨by omega, by omega⟩) kk
  exact lv_room (by rw [cats]; exact r5)
/-- a constructor -/
theorem V_callI {idx a : Nat} (hc : Ct g z (.ref a :: as) σ Q) (hm : MW z) (hr : z.2.2.2.1 = none) (hn : z.1.name = "<init>") (hi : Cond.instanceMethod z.1 ∈ lw_good) (hl : Cond.methodLink μ.1.cls idx z.1 ∈ lw_good) (ha : Ar z.1 as.length) (rf : RF μ z k n k' n' st) (hd : decode μ.2.1 pc = .ok (.invokespecial idx, 3)) (h0 : a ≠ 0)
    (kk : ∀ σ' rv, Q σ' rv → V g μ E CX k' n' (pc + 3) ls (rv.toList ++ st) σ') : V g μ E CX k n pc ls (as.reverse ++ .ref a :: st) σ := by
  intro p e s m args below meth c C H locs cells slots ρ ρ0 n0 lr P
  obtain ⟨w1, w2⟩ := wv_argsV P.2.2.2.2.2.2.2.2.2
  have r1 := Nat.le_of_ble_eq_true rf.1
  have r2 := Nat.le_of_ble_eq_true rf.2.1
  have r3 := Nat.le_of_ble_eq_true rf.2.2.1
  have r4 := Nat.le_of_ble_eq_true rf.2.2.2.1
  have r5 := Nat.le_of_ble_eq_true rf.2.2.2.2
  have q1 := P.2.2.1
  have q2 := P.2.2.2.1
  have hM := hc ρ
  have hp := pe_of C P.1 w1
  rw [List.map_cons, cv_ref h0] at hp
  have hb := cw_of C.2.2.2.2.1 hm hl ha r1 r2
  rw [hr] at hb
  refine V_ret C P w2 r3 r4 (a := (Value.ref (ρ a) :: as.map (cv ρ)).toArray) (va_runI (b := ρ a) (As := as.map (cv ρ)) ⟨C.1, C.2.1, C.2.2.1, C.2.2.2.1, C.2.2.2.2.1⟩ hM ⟨hb, hn, C.2.2.2.2.1 _ hi⟩ hp rfl (by simp) P.2.2.2.2.2.2.2.1.1 (by simp [F0, cv_ref h0]) ?_ hd ⟨by omega, by omega⟩) kk
  exact lv_room (by rw [cats]; exact r5)
/-- a nest mate's private constructor -/
theorem V_callIN {idx a : Nat} {host : String} (hc : Ct g z (.ref a :: as) σ Q) (hm : MW z) (hr : z.2.2.2.1 = none) (hn : z.1.name = "<init>") (hi : Cond.instanceMethod z.1 ∈ lw_good) (hl : (μ.1.cls, idx, z.1, host) ∈ lw_nest) (ha : Ar z.1 as.length) (rf : RF μ z k n k' n' st) (hd : decode μ.2.1 pc = .ok (.invokespecial idx, 3)) (h0 : a ≠ 0)
    (kk : ∀ σ' rv, Q σ' rv → V g μ E CX k' n' (pc + 3) ls (rv.toList ++ st) σ') : V g μ E CX k n pc ls (as.reverse ++ .ref a :: st) σ := by
  intro p e s m args below meth c C H locs cells slots ρ ρ0 n0 lr P
  obtain ⟨w1, w2⟩ := wv_argsV P.2.2.2.2.2.2.2.2.2
  have r1 := Nat.le_of_ble_eq_true rf.1
  have r2 := Nat.le_of_ble_eq_true rf.2.1
  have r3 := Nat.le_of_ble_eq_true rf.2.2.1
  have r4 := Nat.le_of_ble_eq_true rf.2.2.2.1
  have r5 := Nat.le_of_ble_eq_true rf.2.2.2.2
  have q1 := P.2.2.1
  have q2 := P.2.2.2.1
  have hM := hc ρ
  have hp := pe_of C P.1 w1
  rw [List.map_cons, cv_ref h0] at hp
  have hb := cn_of C.2.2.2.2.1 C.2.2.2.2.2.2.2.2.2.1 hm hl ha r1 r2 (args := args)
  rw [hr] at hb
  refine V_ret C P w2 r3 r4 (a := (Value.ref (ρ a) :: as.map (cv ρ)).toArray) (va_runIN (b := ρ a) (As := as.map (cv ρ)) ⟨C.1, C.2.1, C.2.2.1, C.2.2.2.1, C.2.2.2.2.1⟩ hM ⟨hb, hn, C.2.2.2.2.1 _ hi⟩ hp rfl (by simp) P.2.2.2.2.2.2.2.1.1 (by simp [F0, cv_ref h0]) ?_ hd ⟨by omega, by omega⟩) kk
  exact lv_room (by rw [cats]; exact r5)
/-- a nest mate's private static method -/
theorem V_callSN {idx : Nat} {host : String} (hc : Ct g z as σ Q) (hm : MW z) (hs : Cond.static z.1 ∈ lw_good) (hl : (μ.1.cls, idx, z.1, host) ∈ lw_nest) (ha : Ar z.1 as.length) (rf : RF μ z k n k' n' st) (hd : decode μ.2.1 pc = .ok (.invokestatic idx, 3))
    (kk : ∀ σ' rv, Q σ' rv → V g μ E CX k' n' (pc + 3) ls (rv.toList ++ st) σ') : V g μ E CX k n pc ls (as.reverse ++ st) σ := by
  intro p e s m args below meth c C H locs cells slots ρ ρ0 n0 lr P
  obtain ⟨w1, w2⟩ := wv_args P.2.2.2.2.2.2.2.2.2
  have r1 := Nat.le_of_ble_eq_true rf.1
  have r2 := Nat.le_of_ble_eq_true rf.2.1
  have r3 := Nat.le_of_ble_eq_true rf.2.2.1
  have r4 := Nat.le_of_ble_eq_true rf.2.2.2.1
  have r5 := Nat.le_of_ble_eq_true rf.2.2.2.2
  have q1 := P.2.2.1
  have q2 := P.2.2.2.1
  refine V_ret C P w2 r3 r4 (va_runSN (As := as.map (cv ρ)) ⟨C.1, C.2.1, C.2.2.1, C.2.2.2.1, C.2.2.2.2.1⟩ (hc ρ) ⟨cn_of C.2.2.2.2.1 C.2.2.2.2.2.2.2.2.2.1 hm hl ha r1 r2, C.2.2.2.2.1 _ hs, trivial⟩ (pe_of C P.1 w1) rfl (by simp) P.2.2.2.2.2.2.2.1.1 (by simp [F0]) ?_ hd ⟨by omega, by omega⟩) kk
  exact lv_room (by rw [cats]; exact r5)
/-- a static call of a method with handlers -/
def MWh (z : MI) : Prop := Cond.codeWith z.1 z.2.1 z.2.2.1 z.2.2.2.1 z.2.2.2.2.1 ∈ lw_good ∧ Cond.initialized z.1.cls ∈ lw_good
theorem V_callSH {idx : Nat} (hc : CtH g z as σ Q) (hm : MWh z) (hs : Cond.static z.1 ∈ lw_good) (hl : Cond.methodLink μ.1.cls idx z.1 ∈ lw_good) (ha : Ar z.1 as.length) (rf : RF μ z k n k' n' st) (hd : decode μ.2.1 pc = .ok (.invokestatic idx, 3))
    (kk : ∀ σ' rv, Q σ' rv → V g μ E CX k' n' (pc + 3) ls (rv.toList ++ st) σ') : V g μ E CX k n pc ls (as.reverse ++ st) σ := by
  intro p e s m args below meth c C H locs cells slots ρ ρ0 n0 lr P
  obtain ⟨w1, w2⟩ := wv_args P.2.2.2.2.2.2.2.2.2
  have r1 := Nat.le_of_ble_eq_true rf.1
  have r2 := Nat.le_of_ble_eq_true rf.2.1
  have r3 := Nat.le_of_ble_eq_true rf.2.2.1
  have r4 := Nat.le_of_ble_eq_true rf.2.2.2.1
  have r5 := Nat.le_of_ble_eq_true rf.2.2.2.2
  have q1 := P.2.2.1
  have q2 := P.2.2.2.1
  have hG : GoodIn lw_good (va_wsS μ.1.cls idx z.1 (wsh z)) := lw_goodIn _ fun w hw => by
    rcases List.mem_append.mp hw with hw | hw
    · simp only [List.mem_cons, List.not_mem_nil, or_false] at hw
      rcases hw with rfl | rfl | rfl
      · exact hl
      · exact hs
      · exact hm.2
    · rcases List.mem_cons.mp hw with rfl | hw
      · exact hm.1
      · exact hw
  refine V_ret C P w2 r3 r4 (vx_runSW (As := as.map (cv ρ)) ⟨C.1, C.2.1, C.2.2.1, C.2.2.2.1, C.2.2.2.2.1⟩ (hc ρ) (vx_cwSW as.length C.2.2.2.2.1 hG rfl rfl rfl ⟨ha.1.1, ha.1.2, ha.2⟩ ⟨r1, r2⟩) (pe_of C P.1 w1) rfl (by simp) P.2.2.2.2.2.2.2.1.1 (by simp [F0]) ?_ hd ⟨by omega, by omega⟩) kk
  exact lv_room (by rw [cats]; exact r5)
/-- Math.max, Math.min of ints, Math.max of longs -/
theorem V_max {idx : Nat} {x y : Int32} (hl : Cond.methodLink μ.1.cls idx Lib.Math.max.name ∈ lw_good) (hs : Cond.static Lib.Math.max.name ∈ lw_good) (hi : Cond.initialized "java/lang/Math" ∈ lw_good) (hc : Cond.code Lib.Math.max.name Lib.Math.max.code 2 (some .int) ∈ lw_good) (hd : decode μ.2.1 pc = .ok (.invokestatic idx, 3)) (hf : Nat.ble 1 μ.2.2.2.2.2.frames = true) (hlo : Nat.ble ((st.map fun v => v.category).sum + 13) μ.2.2.2.2.2.locals = true)
    (kk : V g μ E CX k n (pc + 3) ls (.int (if x < y then y else x) :: st) σ) : V g μ E CX k n pc ls (.int y :: .int x :: st) σ :=
  V_step (fun _ _ h => wv_cons wv_i (wv_tail2 h)) (fun p e s m args below meth c C H locs cells slots ρ lr Q hCn hlr hst hr k => va_mmax C.1 C.2.1 (C.2.2.1.trans hlr.1.symm) C.2.2.2.1 (C.2.2.2.2.1 _ hl) (C.2.2.2.2.1 _ hs) (C.2.2.2.2.1 _ hi) (C.2.2.2.2.1 _ hc) (Nat.le_of_ble_eq_true hf) (by rw [cats]; exact Nat.le_of_ble_eq_true hlo) hr.1 hr.2 hd k) kk
theorem V_min {idx : Nat} {x y : Int32} (hl : Cond.methodLink μ.1.cls idx Lib.Math.min.name ∈ lw_good) (hs : Cond.static Lib.Math.min.name ∈ lw_good) (hi : Cond.initialized "java/lang/Math" ∈ lw_good) (hc : Cond.code Lib.Math.min.name Lib.Math.min.code 2 (some .int) ∈ lw_good) (hd : decode μ.2.1 pc = .ok (.invokestatic idx, 3)) (hf : Nat.ble 1 μ.2.2.2.2.2.frames = true) (hlo : Nat.ble ((st.map fun v => v.category).sum + 13) μ.2.2.2.2.2.locals = true)
    (kk : V g μ E CX k n (pc + 3) ls (.int (if y < x then y else x) :: st) σ) : V g μ E CX k n pc ls (.int y :: .int x :: st) σ :=
  V_step (fun _ _ h => wv_cons wv_i (wv_tail2 h)) (fun p e s m args below meth c C H locs cells slots ρ lr Q hCn hlr hst hr k => va_mmin C.1 C.2.1 (C.2.2.1.trans hlr.1.symm) C.2.2.2.1 (C.2.2.2.2.1 _ hl) (C.2.2.2.2.1 _ hs) (C.2.2.2.2.1 _ hi) (C.2.2.2.2.1 _ hc) (Nat.le_of_ble_eq_true hf) (by rw [cats]; exact Nat.le_of_ble_eq_true hlo) hr.1 hr.2 hd k) kk
theorem V_maxl {idx : Nat} {x y : Int64} (hl : Cond.methodLink μ.1.cls idx Lib.MathLoose.max_long.x ∈ lw_good) (hs : Cond.static Lib.MathLoose.max_long.x ∈ lw_good) (hi : Cond.initialized "java/lang/Math" ∈ lw_good) (hc : Cond.code Lib.MathLoose.max_long.x Lib.MathLoose.max_long.code 4 (some .long) ∈ lw_good) (hd : decode μ.2.1 pc = .ok (.invokestatic idx, 3)) (hf : Nat.ble 1 μ.2.2.2.2.2.frames = true) (hlo : Nat.ble ((st.map fun v => v.category).sum + 15) μ.2.2.2.2.2.locals = true)
    (kk : V g μ E CX k n (pc + 3) ls (.long (if y < x then x else y) :: st) σ) : V g μ E CX k n pc ls (.long y :: .long x :: st) σ :=
  V_step (fun _ _ h => wv_cons wv_l (wv_tail2 h)) (fun p e s m args below meth c C H locs cells slots ρ lr Q hCn hlr hst hr k => va_mmax_long C.1 C.2.1 (C.2.2.1.trans hlr.1.symm) C.2.2.2.1 (C.2.2.2.2.1 _ hl) (C.2.2.2.2.1 _ hs) (C.2.2.2.2.1 _ hi) (C.2.2.2.2.1 _ hc) (Nat.le_of_ble_eq_true hf) (by rw [cats]; exact Nat.le_of_ble_eq_true hlo) hr.1 hr.2 hd k) kk
/-! ===== throw new E("text") ===== -/
/-- the words of a throw -/
def TW (own : String) (ik ic : Nat) (cls : String) : Prop := Bundle.fit cls = true ∧ cls ∈ lw_ex ∧ Cond.classLink own ik cls ∈ lw_good ∧ Cond.initialized cls ∈ lw_good ∧ (∀ w ∈ vx_atS own ic cls ["java/lang/RuntimeException", "java/lang/Exception"], w ∈ lw_good ∨ w = .castable cls cls ∨ w ∈ lw_decl.map Cond.declares) ∧ (∀ w ∈ Cond.classLink own ik cls :: Cond.initialized cls :: vx_atS own ic cls ["java/lang/RuntimeException", "java/lang/Exception"], vx_ot w = true)
theorem vx_Zq_to {g : GP} {C n d : String} {s : State} (h : vx_Zq C n d (bs g.2.2.2) s g.2.2.2) (hq : ∀ q : Nat, q < g.2.2.2.size → s.heap[q]? = g.2.2.2[q]?) : vx_Zq C n d (bs g.2.2.2) s s.heap :=
  vx_Zq.kept h fun a ha _ => hq a ha
theorem V_throw {ik is ic : Nat} {cls text : String} (tw : TW μ.1.cls ik ic cls) (hstr : (μ.1.cls, is, text) ∈ lw_str) (d0 : decode μ.2.1 pc = .ok (.new ik, 3)) (d3 : decode μ.2.1 (pc + 3) = .ok (.dup, 1)) (d4 : decode μ.2.1 (pc + 4) = .ok (.ldc is, 2)) (d6 : decode μ.2.1 (pc + 6) = .ok (.invokespecial ic, 3)) (d9 : decode μ.2.1 (pc + 9) = .ok (.athrow, 1))
    (hh : μ.2.2.2.2.1 = []) (hf : Nat.blt 5 μ.2.2.2.2.2.frames = true) (hlo : Nat.ble ((st.map fun v => v.category).sum + 82) μ.2.2.2.2.2.locals = true) (hk : Nat.ble 1 k = true) (hn : Nat.ble 6 n = true) (hX : X σ cls) : V g μ (Em g μ Q X) CX k n pc ls st σ := by
  intro p e s m args below meth c C H locs cells slots ρ ρ0 n0 lr P
  obtain ⟨t1, t2, t3, t4, t5, t6⟩ := tw
  have hS := mkS C P
  obtain ⟨sa, hsa⟩ := C.2.2.2.2.2.2.2.2.2.1.2.2.2.1 _ hstr
  have hcast := C.2.2.2.2.2.2.2.2.2.1.2.2.2.2.1 _ t2
  have hk := Nat.le_of_ble_eq_true hk
  have hn := Nat.le_of_ble_eq_true hn
  obtain ⟨p1, p2, p3, p4, p5, p6, p7, p8, p9, p10⟩ := id P
  have hempty : ∀ x ∈ c.exceptionTable.toList, covers x (pc + 9) = false := by
    rw [C.2.2.2.2.2.2.2.2.1, hh]
    intro x hx
    cases hx
  refine vx_throwS (own := μ.1.cls) (text := text) (sa := sa) (names := ["java/lang/RuntimeException", "java/lang/Exception"]) C.1 C.2.1 C.2.2.2.2.2.2.2.2.2.2.2.2.1 C.2.2.2.1 t1 (by decide +kernel) (C.2.2.2.2.1 _ t3) (C.2.2.2.2.1 _ t4) hsa (fun w hw => ?_) t6 (vx_Zq_to C.2.2.2.2.2.2.2.2.2.1.2.2.2.2.2.2.1 C.2.2.2.2.2.2.2.2.2.2.2.1) (vx_Zq_to C.2.2.2.2.2.2.2.2.2.1.2.2.2.2.2.2.2.1 C.2.2.2.2.2.2.2.2.2.2.2.1) hS (p8.1.trans C.2.2.1.symm) d0 d3 d4 d6 d9 hempty (by simpa [Nat.blt_eq] using hf) ?_ (by omega) (by omega) C.2.2.2.2.2.1 ?_ p2 (by omega) (by omega)
  · rcases t5 w hw with h | rfl | h
    · exact C.2.2.2.2.1 _ h
    · exact va_Nw.use rfl hcast
    · obtain ⟨x, hx, rfl⟩ := List.mem_map.mp h
      exact va_Nw.use rfl (C.2.2.2.2.2.2.2.2.2.1.2.2.2.2.2.2.2.2 x hx)
  · rw [cats]
    exact Nat.le_of_ble_eq_true hlo
  · intro t hal hsz hold
    refine ⟨ρ, σ, hX, ⟨p1.1.kept fun k q hq => hold q.1 ((p1.1 k q hq).lt), p1.2.1, Nat.le_trans p1.2.2.1 hsz, fun q hq => ?_, p1.2.2.2.2⟩, p6, p7, Nat.le_trans p5 hsz⟩
    rw [hold q (Nat.lt_of_lt_of_le hq p1.2.2.1)]
    exact p1.2.2.2.1 q hq
end VD
end
section
/-! ===== a call that may throw, caught here; the handler: store it, answer a number ===== -/
section VE
variable {g : GP} {μ z : MI} {E : ET} {CX : State → Array Value → Prop} {k n k' n' pc : Nat} {ls : List (Nat × Value)} {st as : List Value} {σ : AH} {Q Q0 : AH → Option Value → Prop} {X : AH → String → Prop}
/-- the handler at h: it stores what was thrown, and answers r -/
def HC (μ : MI) (h : Nat) (r : Int32) : Prop :=
  (∃ (q : Fin 4) (w : Int), decode μ.2.1 h = .ok (.astore_n q, 1) ∧ (q : Nat) < μ.2.2.1 ∧ decode μ.2.1 (h + 1) = .ok (.iconst w, 1) ∧ Int32.ofInt w = r ∧ decode μ.2.1 (h + 1 + 1) = .ok (.ireturn, 1)) ∨
  (∃ (i : Nat) (w : Int), decode μ.2.1 h = .ok (.astore i, 2) ∧ i < μ.2.2.1 ∧ decode μ.2.1 (h + 2) = .ok (.iconst w, 1) ∧ Int32.ofInt w = r ∧ decode μ.2.1 (h + 2 + 1) = .ok (.ireturn, 1))
/-- what is thrown as Ex at pc comes to the handler that answers r -/
def HX (μ : MI) (pc : Nat) (Ex : String) (r : Int32) : Prop :=
  ∃ (pre : List ExceptionTableEntry) (x : ExceptionTableEntry) (suf : List ExceptionTableEntry), tableOf μ.2.2.2.2.1 = pre ++ x :: suf ∧ (∀ y ∈ pre, covers y pc = false ∨ (y.catchType ≠ 0 ∧ ∃ nm : String, Cond.classLink μ.1.cls y.catchType nm ∈ lw_good ∧ nm ∈ lw_ex ∧ Ex ≠ nm)) ∧ covers x pc = true ∧ x.catchType ≠ 0 ∧ Cond.classLink μ.1.cls x.catchType Ex ∈ lw_good ∧ Ex ∈ lw_ex ∧ HC μ x.handlerPc r
theorem hc_run {p : Program} {e : Env} {s : State} {m : MethodId} {args : Array Value} {below : List Frame} {meth : Method} {c : Code} (C : Cx g μ CX p s m args meth c) {H : Heap} {locs : List Loc} {cells slots : Nat} {ρ ρ0 : Nat → Nat} {n0 : Nat} {lr : Array Slot} (P : Pt1 g μ s k n ls st σ H locs cells slots ρ ρ0 n0 lr) {h : Nat} {r : Int32} (hh : HC μ h r) (hr : μ.2.2.2.1 = some .int) (hQ : Q0 σ (some (.int r))) {q : Addr} :
    W p g.1 e μ.2.2.2.2.2 s m args below meth c H locs cells slots (Em g μ Q0 X below args s ρ0 n0) (F0 m h lr [.ref q]) := by
  have fin : ∀ (pc : Nat) (lr' : Array Slot), decode μ.2.1 pc = .ok (.ireturn, 1) → W p g.1 e μ.2.2.2.2.2 s m args below meth c H locs cells slots (Em g μ Q0 X below args s ρ0 n0) (F0 m pc lr' [.int r]) := fun pc lr' hd => by
    refine W.widen (k := μ.2.2.2.2.2.cells) (n := μ.2.2.2.2.2.slots) (by have := P.2.2.1; omega) (by have := P.2.2.2.1; omega) (vx_ret ?_)
    exact W.iret C.1 C.2.1 (C.2.2.2.2.2.2.1.trans hr) (fun t ht _ => Pt_Qe P (rv := some (.int r)) (fun v hv => by cases hv; trivial) hQ args t ht) P.2.1 hd C.2.2.2.2.2.1
  rcases hh with ⟨i, w, h1, h2, h3, h4, h5⟩ | ⟨i, w, h1, h2, h3, h4, h5⟩
  · exact la_astore_n C.1 C.2.1 rfl rfl h1 P.2.2.2.2.2.2.2.1 h2 fun lr' _ => lv_iconst C.1 C.2.1 h3 h4 (fin _ lr' h5)
  · exact la_astore C.1 C.2.1 rfl rfl h1 P.2.2.2.2.2.2.2.1 h2 fun lr' _ => lv_iconst C.1 C.2.1 h3 h4 (fin _ lr' h5)
theorem V_callVX {idx ci a : Nat} {CC : String} {T : u_T} (hc : CtX g z (.ref a :: as) σ Q X) (hm : MW z) (ko : KO ci CC T) (hCC : z.1.cls = CC) (hi : Cond.instanceMethod z.1 ∈ lw_good) (hs : Cond.selects CC z.1 z.1 ∈ lw_good) (hl : Cond.methodLink μ.1.cls idx z.1 ∈ lw_good) (ha : Ar z.1 as.length) (rf : RF μ z k n k' n' st) (hd : decode μ.2.1 pc = .ok (.invokevirtual idx, 3)) (h0 : a ≠ 0) (hK : zK σ a = ci) (hr : μ.2.2.2.1 = some .int)
    (kk : ∀ σ' rv, Q σ' rv → V g μ (Em g μ Q0 NX) CX k' n' (pc + 3) ls (rv.toList ++ st) σ') (kx : ∀ σ' Ex, X σ' Ex → ∃ r, HX μ pc Ex r ∧ Q0 σ' (some (.int r))) : V g μ (Em g μ Q0 NX) CX k n pc ls (as.reverse ++ .ref a :: st) σ := by
  intro p e s m args below meth c C H locs cells slots ρ ρ0 n0 lr P
  obtain ⟨w1, w2⟩ := wv_argsV P.2.2.2.2.2.2.2.2.2
  have r1 := Nat.le_of_ble_eq_true rf.1
  have r2 := Nat.le_of_ble_eq_true rf.2.1
  have r3 := Nat.le_of_ble_eq_true rf.2.2.1
  have r4 := Nat.le_of_ble_eq_true rf.2.2.2.1
  have r5 := Nat.le_of_ble_eq_true rf.2.2.2.2
  have q1 := P.2.2.1
  have q2 := P.2.2.2.1
  have hM := hc ρ
  refine V_retX C P w2 r3 r4 (a := (Value.ref (ρ a) :: as.map (cv ρ)).toArray) (vx_runV (C := CC) (b := ρ a) (As := as.map (cv ρ)) ⟨C.1, C.2.1, C.2.2.1, C.2.2.2.1, C.2.2.2.2.1⟩ hM ⟨cw_of C.2.2.2.2.1 hm hl ha r1 r2, C.2.2.2.2.1 _ hi, C.2.2.2.2.1 _ hs⟩ (pv_of C P.1 ko h0 hK w1) rfl (by simp) P.2.2.2.2.2.2.2.1.1 (by simp [F0, cv_ref h0]) (lv_room (by rw [cats]; exact r5)) hd ⟨by omega, by omega⟩) kk ?_
  intro σ' Ex q ce H1 locs1 ρ' hX P' hce hcv hcl
  obtain ⟨r, ⟨pre, x, suf, e1, e2, e3, e4, e5, e6, e7⟩, hQ⟩ := kx σ' Ex hX
  refine vx_catch C.2.2.2.1 pre x suf (C.2.2.2.2.2.2.2.2.1.trans e1) (fun y hy => ?_) e3 e4 (C.2.2.2.2.1 _ e5) (va_Nw.use rfl (C.2.2.2.2.2.2.2.2.2.1.2.2.2.2.1 _ e6)) hce hcv hcl (hc_run C P' e7 hr hQ)
  rcases e2 y hy with h | ⟨h1, nm, h2, h3, h4⟩
  · exact Or.inl h
  · exact Or.inr ⟨h1, nm, C.2.2.2.2.1 _ h2, C.2.2.2.2.2.2.2.2.2.1.2.2.2.2.2.1 _ e6 _ h3 h4⟩
end VE
end

section
-- ===== PART A: goes FIRST, ahead of the names: the tables' words, and 'selects' of the private methods out of them =====
/-- a private method of a class that the tables say can be made, by its rows of tables_1 -/
def lw_okq (q : MethodName × Nat) : Prop := (q.1.cls ≠ "java/lang/invoke/MethodHandle" ∧ q.1.cls ≠ "java/lang/invoke/VarHandle") ∧ Cond.instantiable q.1.cls q.2 ∈ tables_1 ∧ Cond.privateMethod q.1 ∈ tables_1 ∧ Cond.instanceMethod q.1 ∈ tables_1
theorem lw_p0 : lw_okq (⟨"BowFoundry", "now", "()LBowFoundry$State;"⟩, 9) := ⟨⟨by decide +kernel, by decide +kernel⟩, List.mem_of_getElem? (i := 31) (by decide +kernel), List.mem_of_getElem? (i := 236) (by decide +kernel), List.mem_of_getElem? (i := 237) (by decide +kernel)⟩
theorem lw_p1 : lw_okq (⟨"java/lang/Throwable", "fillInStackTrace", "(I)Ljava/lang/Throwable;"⟩, 6) := ⟨⟨by decide +kernel, by decide +kernel⟩, List.mem_of_getElem? (i := 562) (by decide +kernel), List.mem_of_getElem? (i := 560) (by decide +kernel), List.mem_of_getElem? (i := 561) (by decide +kernel)⟩
theorem lw_p2 : lw_okq (⟨"BowFoundry", "draft", "()LBowFoundry$State;"⟩, 9) := ⟨⟨by decide +kernel, by decide +kernel⟩, List.mem_of_getElem? (i := 31) (by decide +kernel), List.mem_of_getElem? (i := 725) (by decide +kernel), List.mem_of_getElem? (i := 726) (by decide +kernel)⟩
theorem lw_p3 : lw_okq (⟨"BowFoundry", "following", "()I"⟩, 9) := ⟨⟨by decide +kernel, by decide +kernel⟩, List.mem_of_getElem? (i := 31) (by decide +kernel), List.mem_of_getElem? (i := 729) (by decide +kernel), List.mem_of_getElem? (i := 730) (by decide +kernel)⟩
theorem lw_p4 : lw_okq (⟨"BowFoundry", "kept", "(I)I"⟩, 9) := ⟨⟨by decide +kernel, by decide +kernel⟩, List.mem_of_getElem? (i := 31) (by decide +kernel), List.mem_of_getElem? (i := 740) (by decide +kernel), List.mem_of_getElem? (i := 741) (by decide +kernel)⟩
theorem lw_p5 : lw_okq (⟨"BowFoundry", "placeOf", "(I)I"⟩, 9) := ⟨⟨by decide +kernel, by decide +kernel⟩, List.mem_of_getElem? (i := 31) (by decide +kernel), List.mem_of_getElem? (i := 995) (by decide +kernel), List.mem_of_getElem? (i := 996) (by decide +kernel)⟩
theorem lw_p6 : lw_okq (⟨"BowFoundryModel", "begin", "()V"⟩, 16) := ⟨⟨by decide +kernel, by decide +kernel⟩, List.mem_of_getElem? (i := 1355) (by decide +kernel), List.mem_of_getElem? (i := 1419) (by decide +kernel), List.mem_of_getElem? (i := 1420) (by decide +kernel)⟩
theorem lw_p7 : lw_okq (⟨"BowFoundryModel", "addsAlloy", "(III)I"⟩, 16) := ⟨⟨by decide +kernel, by decide +kernel⟩, List.mem_of_getElem? (i := 1355) (by decide +kernel), List.mem_of_getElem? (i := 1426) (by decide +kernel), List.mem_of_getElem? (i := 1427) (by decide +kernel)⟩
theorem lw_p8 : lw_okq (⟨"BowFoundryModel", "fails", "(I)I"⟩, 16) := ⟨⟨by decide +kernel, by decide +kernel⟩, List.mem_of_getElem? (i := 1355) (by decide +kernel), List.mem_of_getElem? (i := 1433) (by decide +kernel), List.mem_of_getElem? (i := 1434) (by decide +kernel)⟩
theorem lw_p9 : lw_okq (⟨"BowFoundryModel", "done", "(I)I"⟩, 16) := ⟨⟨by decide +kernel, by decide +kernel⟩, List.mem_of_getElem? (i := 1355) (by decide +kernel), List.mem_of_getElem? (i := 1437) (by decide +kernel), List.mem_of_getElem? (i := 1438) (by decide +kernel)⟩
theorem lw_p10 : lw_okq (⟨"BowFoundryModel", "kept", "(I)I"⟩, 16) := ⟨⟨by decide +kernel, by decide +kernel⟩, List.mem_of_getElem? (i := 1355) (by decide +kernel), List.mem_of_getElem? (i := 1441) (by decide +kernel), List.mem_of_getElem? (i := 1442) (by decide +kernel)⟩
theorem lw_p11 : lw_okq (⟨"BowFoundryModel", "addsMould", "(I)I"⟩, 16) := ⟨⟨by decide +kernel, by decide +kernel⟩, List.mem_of_getElem? (i := 1355) (by decide +kernel), List.mem_of_getElem? (i := 1449) (by decide +kernel), List.mem_of_getElem? (i := 1450) (by decide +kernel)⟩
theorem lw_p12 : lw_okq (⟨"BowFoundryModel", "buys", "(II)I"⟩, 16) := ⟨⟨by decide +kernel, by decide +kernel⟩, List.mem_of_getElem? (i := 1355) (by decide +kernel), List.mem_of_getElem? (i := 1457) (by decide +kernel), List.mem_of_getElem? (i := 1458) (by decide +kernel)⟩
theorem lw_p13 : lw_okq (⟨"BowFoundryModel", "casts", "(III)I"⟩, 16) := ⟨⟨by decide +kernel, by decide +kernel⟩, List.mem_of_getElem? (i := 1355) (by decide +kernel), List.mem_of_getElem? (i := 1468) (by decide +kernel), List.mem_of_getElem? (i := 1469) (by decide +kernel)⟩
theorem lw_p14 : lw_okq (⟨"BowFoundryModel", "isAlloy", "(I)Z"⟩, 16) := ⟨⟨by decide +kernel, by decide +kernel⟩, List.mem_of_getElem? (i := 1355) (by decide +kernel), List.mem_of_getElem? (i := 1472) (by decide +kernel), List.mem_of_getElem? (i := 1473) (by decide +kernel)⟩
theorem lw_p15 : lw_okq (⟨"BowFoundryModel", "isMould", "(I)Z"⟩, 16) := ⟨⟨by decide +kernel, by decide +kernel⟩, List.mem_of_getElem? (i := 1355) (by decide +kernel), List.mem_of_getElem? (i := 1476) (by decide +kernel), List.mem_of_getElem? (i := 1477) (by decide +kernel)⟩
def lw_privs_1 : List (MethodName × Nat) := [(⟨"BowFoundry", "now", "()LBowFoundry$State;"⟩, 9), (⟨"java/lang/Throwable", "fillInStackTrace", "(I)Ljava/lang/Throwable;"⟩, 6), (⟨"BowFoundry", "draft", "()LBowFoundry$State;"⟩, 9), (⟨"BowFoundry", "following", "()I"⟩, 9), (⟨"BowFoundry", "kept", "(I)I"⟩, 9), (⟨"BowFoundry", "placeOf", "(I)I"⟩, 9), (⟨"BowFoundryModel", "begin", "()V"⟩, 16), (⟨"BowFoundryModel", "addsAlloy", "(III)I"⟩, 16), (⟨"BowFoundryModel", "fails", "(I)I"⟩, 16), (⟨"BowFoundryModel", "done", "(I)I"⟩, 16), (⟨"BowFoundryModel", "kept", "(I)I"⟩, 16), (⟨"BowFoundryModel", "addsMould", "(I)I"⟩, 16), (⟨"BowFoundryModel", "buys", "(II)I"⟩, 16), (⟨"BowFoundryModel", "casts", "(III)I"⟩, 16), (⟨"BowFoundryModel", "isAlloy", "(I)Z"⟩, 16), (⟨"BowFoundryModel", "isMould", "(I)Z"⟩, 16)]
theorem lw_r1 : ∀ q ∈ lw_privs_1, lw_okq q := List.forall_mem_cons.mpr ⟨lw_p0, List.forall_mem_cons.mpr ⟨lw_p1, List.forall_mem_cons.mpr ⟨lw_p2, List.forall_mem_cons.mpr ⟨lw_p3, List.forall_mem_cons.mpr ⟨lw_p4, List.forall_mem_cons.mpr ⟨lw_p5, List.forall_mem_cons.mpr ⟨lw_p6, List.forall_mem_cons.mpr ⟨lw_p7, List.forall_mem_cons.mpr ⟨lw_p8, List.forall_mem_cons.mpr ⟨lw_p9, List.forall_mem_cons.mpr ⟨lw_p10, List.forall_mem_cons.mpr ⟨lw_p11, List.forall_mem_cons.mpr ⟨lw_p12, List.forall_mem_cons.mpr ⟨lw_p13, List.forall_mem_cons.mpr ⟨lw_p14, List.forall_mem_cons.mpr ⟨lw_p15, fun _ h => absurd h List.not_mem_nil⟩⟩⟩⟩⟩⟩⟩⟩⟩⟩⟩⟩⟩⟩⟩⟩
theorem lw_p16 : lw_okq (⟨"BowFoundryModel", "hasMetal", "(II)Z"⟩, 16) := ⟨⟨by decide +kernel, by decide +kernel⟩, List.mem_of_getElem? (i := 1355) (by decide +kernel), List.mem_of_getElem? (i := 1480) (by decide +kernel), List.mem_of_getElem? (i := 1481) (by decide +kernel)⟩
theorem lw_p17 : lw_okq (⟨"BowFoundryModel", "part", "(II)I"⟩, 16) := ⟨⟨by decide +kernel, by decide +kernel⟩, List.mem_of_getElem? (i := 1355) (by decide +kernel), List.mem_of_getElem? (i := 1484) (by decide +kernel), List.mem_of_getElem? (i := 1485) (by decide +kernel)⟩
theorem lw_p18 : lw_okq (⟨"BowFoundryModel", "squeakOf", "(II)I"⟩, 16) := ⟨⟨by decide +kernel, by decide +kernel⟩, List.mem_of_getElem? (i := 1355) (by decide +kernel), List.mem_of_getElem? (i := 1488) (by decide +kernel), List.mem_of_getElem? (i := 1489) (by decide +kernel)⟩
theorem lw_p19 : lw_okq (⟨"BowFoundryModel", "inspects", "(I)I"⟩, 16) := ⟨⟨by decide +kernel, by decide +kernel⟩, List.mem_of_getElem? (i := 1355) (by decide +kernel), List.mem_of_getElem? (i := 1496) (by decide +kernel), List.mem_of_getElem? (i := 1497) (by decide +kernel)⟩
theorem lw_p20 : lw_okq (⟨"BowFoundryModel", "placeOf", "(I)I"⟩, 16) := ⟨⟨by decide +kernel, by decide +kernel⟩, List.mem_of_getElem? (i := 1355) (by decide +kernel), List.mem_of_getElem? (i := 1500) (by decide +kernel), List.mem_of_getElem? (i := 1501) (by decide +kernel)⟩
theorem lw_p21 : lw_okq (⟨"BowFoundryModel", "passes", "(II)Z"⟩, 16) := ⟨⟨by decide +kernel, by decide +kernel⟩, List.mem_of_getElem? (i := 1355) (by decide +kernel), List.mem_of_getElem? (i := 1504) (by decide +kernel), List.mem_of_getElem? (i := 1505) (by decide +kernel)⟩
theorem lw_p22 : lw_okq (⟨"BowFoundryModel", "goodOnes", "(II)I"⟩, 16) := ⟨⟨by decide +kernel, by decide +kernel⟩, List.mem_of_getElem? (i := 1355) (by decide +kernel), List.mem_of_getElem? (i := 1508) (by decide +kernel), List.mem_of_getElem? (i := 1509) (by decide +kernel)⟩
theorem lw_p23 : lw_okq (⟨"BowFoundryModel", "squeakAt", "(II)I"⟩, 16) := ⟨⟨by decide +kernel, by decide +kernel⟩, List.mem_of_getElem? (i := 1355) (by decide +kernel), List.mem_of_getElem? (i := 1512) (by decide +kernel), List.mem_of_getElem? (i := 1513) (by decide +kernel)⟩
theorem lw_p24 : lw_okq (⟨"BowFoundryModel", "sampled", "(I)I"⟩, 16) := ⟨⟨by decide +kernel, by decide +kernel⟩, List.mem_of_getElem? (i := 1355) (by decide +kernel), List.mem_of_getElem? (i := 1516) (by decide +kernel), List.mem_of_getElem? (i := 1517) (by decide +kernel)⟩
theorem lw_p25 : lw_okq (⟨"BowFoundryModel", "sells", "(I)V"⟩, 16) := ⟨⟨by decide +kernel, by decide +kernel⟩, List.mem_of_getElem? (i := 1355) (by decide +kernel), List.mem_of_getElem? (i := 1520) (by decide +kernel), List.mem_of_getElem? (i := 1521) (by decide +kernel)⟩
theorem lw_p26 : lw_okq (⟨"BowFoundryModel", "drops", "(I)V"⟩, 16) := ⟨⟨by decide +kernel, by decide +kernel⟩, List.mem_of_getElem? (i := 1355) (by decide +kernel), List.mem_of_getElem? (i := 1524) (by decide +kernel), List.mem_of_getElem? (i := 1525) (by decide +kernel)⟩
theorem lw_p27 : lw_okq (⟨"BowFoundryModel", "melts", "(I)I"⟩, 16) := ⟨⟨by decide +kernel, by decide +kernel⟩, List.mem_of_getElem? (i := 1355) (by decide +kernel), List.mem_of_getElem? (i := 1532) (by decide +kernel), List.mem_of_getElem? (i := 1533) (by decide +kernel)⟩
theorem lw_p28 : lw_okq (⟨"BowFoundryModel", "renews", "(I)I"⟩, 16) := ⟨⟨by decide +kernel, by decide +kernel⟩, List.mem_of_getElem? (i := 1355) (by decide +kernel), List.mem_of_getElem? (i := 1540) (by decide +kernel), List.mem_of_getElem? (i := 1541) (by decide +kernel)⟩
theorem lw_p29 : lw_okq (⟨"BowFoundryModel", "sets", "(IIII)I"⟩, 16) := ⟨⟨by decide +kernel, by decide +kernel⟩, List.mem_of_getElem? (i := 1355) (by decide +kernel), List.mem_of_getElem? (i := 1548) (by decide +kernel), List.mem_of_getElem? (i := 1549) (by decide +kernel)⟩
theorem lw_p30 : lw_okq (⟨"BowFoundryModel", "batchNumber", "(II)I"⟩, 16) := ⟨⟨by decide +kernel, by decide +kernel⟩, List.mem_of_getElem? (i := 1355) (by decide +kernel), List.mem_of_getElem? (i := 1600) (by decide +kernel), List.mem_of_getElem? (i := 1601) (by decide +kernel)⟩
theorem lw_p31 : lw_okq (⟨"BowFoundryModel", "placeWith", "(I)I"⟩, 16) := ⟨⟨by decide +kernel, by decide +kernel⟩, List.mem_of_getElem? (i := 1355) (by decide +kernel), List.mem_of_getElem? (i := 1616) (by decide +kernel), List.mem_of_getElem? (i := 1617) (by decide +kernel)⟩
def lw_privs_2 : List (MethodName × Nat) := [(⟨"BowFoundryModel", "hasMetal", "(II)Z"⟩, 16), (⟨"BowFoundryModel", "part", "(II)I"⟩, 16), (⟨"BowFoundryModel", "squeakOf", "(II)I"⟩, 16), (⟨"BowFoundryModel", "inspects", "(I)I"⟩, 16), (⟨"BowFoundryModel", "placeOf", "(I)I"⟩, 16), (⟨"BowFoundryModel", "passes", "(II)Z"⟩, 16), (⟨"BowFoundryModel", "goodOnes", "(II)I"⟩, 16), (⟨"BowFoundryModel", "squeakAt", "(II)I"⟩, 16), (⟨"BowFoundryModel", "sampled", "(I)I"⟩, 16), (⟨"BowFoundryModel", "sells", "(I)V"⟩, 16), (⟨"BowFoundryModel", "drops", "(I)V"⟩, 16), (⟨"BowFoundryModel", "melts", "(I)I"⟩, 16), (⟨"BowFoundryModel", "renews", "(I)I"⟩, 16), (⟨"BowFoundryModel", "sets", "(IIII)I"⟩, 16), (⟨"BowFoundryModel", "batchNumber", "(II)I"⟩, 16), (⟨"BowFoundryModel", "placeWith", "(I)I"⟩, 16)]
theorem lw_r2 : ∀ q ∈ lw_privs_2, lw_okq q := List.forall_mem_cons.mpr ⟨lw_p16, List.forall_mem_cons.mpr ⟨lw_p17, List.forall_mem_cons.mpr ⟨lw_p18, List.forall_mem_cons.mpr ⟨lw_p19, List.forall_mem_cons.mpr ⟨lw_p20, List.forall_mem_cons.mpr ⟨lw_p21, List.forall_mem_cons.mpr ⟨lw_p22, List.forall_mem_cons.mpr ⟨lw_p23, List.forall_mem_cons.mpr ⟨lw_p24, List.forall_mem_cons.mpr ⟨lw_p25, List.forall_mem_cons.mpr ⟨lw_p26, List.forall_mem_cons.mpr ⟨lw_p27, List.forall_mem_cons.mpr ⟨lw_p28, List.forall_mem_cons.mpr ⟨lw_p29, List.forall_mem_cons.mpr ⟨lw_p30, List.forall_mem_cons.mpr ⟨lw_p31, fun _ h => absurd h List.not_mem_nil⟩⟩⟩⟩⟩⟩⟩⟩⟩⟩⟩⟩⟩⟩⟩⟩
theorem lw_p32 : lw_okq (⟨"BowFoundryModel", "sumOf", "(I)I"⟩, 16) := ⟨⟨by decide +kernel, by decide +kernel⟩, List.mem_of_getElem? (i := 1355) (by decide +kernel), List.mem_of_getElem? (i := 1671) (by decide +kernel), List.mem_of_getElem? (i := 1672) (by decide +kernel)⟩
theorem lw_p33 : lw_okq (⟨"BowFoundryModel", "writesNumber", "(I)V"⟩, 16) := ⟨⟨by decide +kernel, by decide +kernel⟩, List.mem_of_getElem? (i := 1355) (by decide +kernel), List.mem_of_getElem? (i := 1707) (by decide +kernel), List.mem_of_getElem? (i := 1708) (by decide +kernel)⟩
theorem lw_p34 : lw_okq (⟨"BowFoundryModel", "writes", "(I)V"⟩, 16) := ⟨⟨by decide +kernel, by decide +kernel⟩, List.mem_of_getElem? (i := 1355) (by decide +kernel), List.mem_of_getElem? (i := 1711) (by decide +kernel), List.mem_of_getElem? (i := 1712) (by decide +kernel)⟩
theorem lw_p35 : lw_okq (⟨"BowFoundryModel", "parsesCommand", "(I)V"⟩, 16) := ⟨⟨by decide +kernel, by decide +kernel⟩, List.mem_of_getElem? (i := 1355) (by decide +kernel), List.mem_of_getElem? (i := 1731) (by decide +kernel), List.mem_of_getElem? (i := 1732) (by decide +kernel)⟩
theorem lw_p36 : lw_okq (⟨"BowFoundryModel", "here", "()I"⟩, 16) := ⟨⟨by decide +kernel, by decide +kernel⟩, List.mem_of_getElem? (i := 1355) (by decide +kernel), List.mem_of_getElem? (i := 1735) (by decide +kernel), List.mem_of_getElem? (i := 1736) (by decide +kernel)⟩
theorem lw_p37 : lw_okq (⟨"BowFoundryModel", "parsesAlloy", "(I)V"⟩, 16) := ⟨⟨by decide +kernel, by decide +kernel⟩, List.mem_of_getElem? (i := 1355) (by decide +kernel), List.mem_of_getElem? (i := 1739) (by decide +kernel), List.mem_of_getElem? (i := 1740) (by decide +kernel)⟩
theorem lw_p38 : lw_okq (⟨"BowFoundryModel", "needsThree", "(III)V"⟩, 16) := ⟨⟨by decide +kernel, by decide +kernel⟩, List.mem_of_getElem? (i := 1355) (by decide +kernel), List.mem_of_getElem? (i := 1743) (by decide +kernel), List.mem_of_getElem? (i := 1744) (by decide +kernel)⟩
theorem lw_p39 : lw_okq (⟨"BowFoundryModel", "needs", "(I)V"⟩, 16) := ⟨⟨by decide +kernel, by decide +kernel⟩, List.mem_of_getElem? (i := 1355) (by decide +kernel), List.mem_of_getElem? (i := 1747) (by decide +kernel), List.mem_of_getElem? (i := 1748) (by decide +kernel)⟩
theorem lw_p40 : lw_okq (⟨"BowFoundryModel", "behindBlank", "(I)I"⟩, 16) := ⟨⟨by decide +kernel, by decide +kernel⟩, List.mem_of_getElem? (i := 1355) (by decide +kernel), List.mem_of_getElem? (i := 1751) (by decide +kernel), List.mem_of_getElem? (i := 1752) (by decide +kernel)⟩
theorem lw_p41 : lw_okq (⟨"BowFoundryModel", "digits", "(I)I"⟩, 16) := ⟨⟨by decide +kernel, by decide +kernel⟩, List.mem_of_getElem? (i := 1355) (by decide +kernel), List.mem_of_getElem? (i := 1755) (by decide +kernel), List.mem_of_getElem? (i := 1756) (by decide +kernel)⟩
theorem lw_p42 : lw_okq (⟨"BowFoundryModel", "parsesM", "(I)V"⟩, 16) := ⟨⟨by decide +kernel, by decide +kernel⟩, List.mem_of_getElem? (i := 1355) (by decide +kernel), List.mem_of_getElem? (i := 1759) (by decide +kernel), List.mem_of_getElem? (i := 1760) (by decide +kernel)⟩
theorem lw_p43 : lw_okq (⟨"BowFoundryModel", "parsesCast", "(I)V"⟩, 16) := ⟨⟨by decide +kernel, by decide +kernel⟩, List.mem_of_getElem? (i := 1355) (by decide +kernel), List.mem_of_getElem? (i := 1763) (by decide +kernel), List.mem_of_getElem? (i := 1764) (by decide +kernel)⟩
theorem lw_p44 : lw_okq (⟨"BowFoundryModel", "carriesOut", "(I)I"⟩, 16) := ⟨⟨by decide +kernel, by decide +kernel⟩, List.mem_of_getElem? (i := 1355) (by decide +kernel), List.mem_of_getElem? (i := 1767) (by decide +kernel), List.mem_of_getElem? (i := 1768) (by decide +kernel)⟩
def lw_privs_3 : List (MethodName × Nat) := [(⟨"BowFoundryModel", "sumOf", "(I)I"⟩, 16), (⟨"BowFoundryModel", "writesNumber", "(I)V"⟩, 16), (⟨"BowFoundryModel", "writes", "(I)V"⟩, 16), (⟨"BowFoundryModel", "parsesCommand", "(I)V"⟩, 16), (⟨"BowFoundryModel", "here", "()I"⟩, 16), (⟨"BowFoundryModel", "parsesAlloy", "(I)V"⟩, 16), (⟨"BowFoundryModel", "needsThree", "(III)V"⟩, 16), (⟨"BowFoundryModel", "needs", "(I)V"⟩, 16), (⟨"BowFoundryModel", "behindBlank", "(I)I"⟩, 16), (⟨"BowFoundryModel", "digits", "(I)I"⟩, 16), (⟨"BowFoundryModel", "parsesM", "(I)V"⟩, 16), (⟨"BowFoundryModel", "parsesCast", "(I)V"⟩, 16), (⟨"BowFoundryModel", "carriesOut", "(I)I"⟩, 16)]
theorem lw_r3 : ∀ q ∈ lw_privs_3, lw_okq q := List.forall_mem_cons.mpr ⟨lw_p32, List.forall_mem_cons.mpr ⟨lw_p33, List.forall_mem_cons.mpr ⟨lw_p34, List.forall_mem_cons.mpr ⟨lw_p35, List.forall_mem_cons.mpr ⟨lw_p36, List.forall_mem_cons.mpr ⟨lw_p37, List.forall_mem_cons.mpr ⟨lw_p38, List.forall_mem_cons.mpr ⟨lw_p39, List.forall_mem_cons.mpr ⟨lw_p40, List.forall_mem_cons.mpr ⟨lw_p41, List.forall_mem_cons.mpr ⟨lw_p42, List.forall_mem_cons.mpr ⟨lw_p43, List.forall_mem_cons.mpr ⟨lw_p44, fun _ h => absurd h List.not_mem_nil⟩⟩⟩⟩⟩⟩⟩⟩⟩⟩⟩⟩⟩
def lw_privs : List (MethodName × Nat) := lw_privs_1 ++ (lw_privs_2 ++ (lw_privs_3))
def lw_tbl : List Cond := k2_sels lw_privs ++ tables_1
theorem lw_privs_ok : ∀ q ∈ lw_privs, lw_okq q := by
  show ∀ q ∈ lw_privs_1 ++ (lw_privs_2 ++ (lw_privs_3)), lw_okq q
  exact List.forall_mem_append.mpr ⟨lw_r1, List.forall_mem_append.mpr ⟨lw_r2, lw_r3⟩⟩
/-- the streams that the claim lets the run draw from -/
abbrev lw_cs : List Choice := [Jvm.Choice.named "NaN.bits"]
theorem lw_bits : nanBits ∈ lw_cs := by first | decide | exact List.mem_cons_self | simp [lw_cs, nanBits]
end
section
/-- an array class over an array type stands (the kit's names use this word without saying it) -/
def va_AOA (ty : FieldType) (U : State) : Prop := (Cond.arrayOver (.array ty)).before #[] U = true
theorem va_AOA.of {ty : FieldType} {A : Array Value} {U : State} (h : (Cond.arrayOver (.array ty)).before A U = true) : va_AOA ty U := h
theorem va_AOA.use {ty : FieldType} {A : Array Value} {U : State} (h : va_AOA ty U) : (Cond.arrayOver (.array ty)).before A U = true := h
/-! ===== BEGIN words of one list among another's, by their places ===== -/
theorem goodIn_r {big : List Cond} (ws : List Cond) (ps : List Nat) (hp : ws = ps.filterMap (fun i => big[i]?)) (h : ws.all goodWord = true) : GoodIn big ws := by
  intro w hw
  have h1 := List.all_eq_true.mp h w hw
  rw [hp] at hw
  obtain ⟨i, -, hi⟩ := List.mem_filterMap.mp hw
  have hm : w ∈ big := by first | exact List.mem_of_getElem? hi | exact List.getElem?_mem hi
  exact ⟨hm, good_of_word h1⟩
theorem goodIn_app {big a b : List Cond} (ha : GoodIn big a) (hb : GoodIn big b) : GoodIn big (a ++ b) := fun w h => (List.mem_append.mp h).elim (ha w) (hb w)
theorem goodIn_ca {big a b : List Cond} {c : Cond} (ha : GoodIn big (c :: a)) (hb : GoodIn big b) : GoodIn big (c :: (a ++ b)) := fun w h => (List.mem_cons.mp h).elim (fun e => ha w (List.mem_cons.mpr (Or.inl e))) (fun h => (List.mem_append.mp h).elim (fun h => ha w (List.mem_cons.mpr (Or.inr h))) (hb w))
theorem goodIn_sub {big ws : List Cond} (hm : ∀ w ∈ ws, w ∈ big) (h : ws.all goodWord = true) : GoodIn big ws := fun w hw => ⟨hm w hw, good_of_word (List.all_eq_true.mp h w hw)⟩
/-! ===== END ===== -/

/-! ===== BEGIN new T[n][m]: the outer array a place, the inner ones among the pooled ===== -/
/-- f, but v at every address of l -/
def vr_up {α : Type} (f : Nat → α) (l : List Nat) (v : α) : Nat → α := fun a => if a ∈ l then v else f a
theorem vr_up_in {α : Type} {f : Nat → α} {l : List Nat} {v : α} {a : Nat} (h : a ∈ l) : vr_up f l v a = v := if_pos h
theorem vr_up_ne {α : Type} {f : Nat → α} {l : List Nat} {v : α} {a : Nat} (h : a ∉ l) : vr_up f l v a = f a := if_neg h
theorem vr_rows {L l : List Nat} {f : Nat → va_E} {e : va_E} (h : ∀ a, a ∈ l → a ∉ L) : va_pl L f ++ l.map (fun a => (a, e)) = va_pl (L ++ l) (vr_up f l e) := by
  unfold va_pl
  rw [List.map_append]
  congr 1
  · apply List.map_congr_left
    intro a ha
    rw [vr_up_ne (fun q => h a q ha)]
  · apply List.map_congr_left
    intro a ha
    rw [vr_up_in ha]
theorem vr_lay {X rows : va_W} {x : Nat × va_E} {pl : va_W} {D : va_G} {cl : List vw_C} {H : Heap} (hP : va_P D cl (((X ++ pl) ++ [x]) ++ rows) H) : va_P D cl ((X ++ [x]) ++ (pl ++ rows)) H := by
  rw [List.append_assoc (X ++ pl)] at hP
  have h := va_P.swap hP
  rw [← List.append_assoc X] at h
  have h2 := va_P.swap h
  rw [List.append_assoc (X ++ [x])] at h2
  exact h2
theorem vr_layD {X rows : va_W} {x : Nat × va_E} {pl : va_W} {A : Nat → Prop} (hD : va_D A (((X ++ pl) ++ [x]) ++ rows)) : va_D A ((X ++ [x]) ++ (pl ++ rows)) := by
  rw [List.append_assoc (X ++ pl)] at hD
  have h := va_D.swap hD
  rw [← List.append_assoc X] at h
  have h2 := va_D.swap h
  rw [List.append_assoc (X ++ [x])] at h2
  exact h2
theorem vr_outer (c : ClassId) (N h0 : Nat) : ∀ i : Nat, Jvm.Free.Multi.outerC c N h0 i = arrV c N (fun j => va_rf (if j < i then some (h0 + 1 + j) else none))
  | 0 => by
    show ({ cls := c, slots := Array.replicate N .null, vm := .none } : Cell) = _
    rw [arrV_new]
    refine congrArg (arrV c N) (funext fun j => ?_)
    simp [va_rf]
  | i + 1 => by
    show (Jvm.Free.Multi.outerC c N h0 i).setSlot i (.ref (h0 + 1 + i)) = _
    rw [vr_outer c N h0 i, arrV_store]
    refine congrArg (arrV c N) (funext fun j => ?_)
    by_cases e : j = i
    · subst e
      simp [updV, va_rf]
    · by_cases h : j < i
      · simp [updV, e, h, Nat.lt_succ_of_lt h]
      · simp [updV, e, h, show ¬ j < i + 1 by omega]
section VGM
variable {p : Program} {l : Launch} {e : Env} {R : Room} {s : State} {m : MethodId} {args : Array Value} {below : List Frame} {meth : Method} {c : Code} {H : Heap} {locs : List Loc} {cells slots : Nat} {Q : State → Prop}
variable {cc : ByteArray} {pc : Nat} {ls : Array Slot} {rest : List Value} {D : va_G} {cl : List vw_C} {A : Nat → Prop} {a : Nat} {tys : List (ClassId × FieldType)} {ws : va_W} {H0 : Heap}
theorem va_mna {X : va_W} {L : List Nat} {f : Nat → va_E} {cc : ByteArray} (hexec : p.tables.exec = Jvm.exec) (hb : c.code = cc) {own : String} {index : Nat} {ty : FieldType} {cy : ClassId} (hown : s.vm.findClass own = some m.cls) (hclink : (Cond.classLink own index ("[" ++ (FieldType.array ty).toString)).before args s = true) (hover : va_AOA ty s) (harr : (Cond.arrayClass ty).before args s = true) (hcy : s.vm.findClass (FieldType.array ty).toString = some cy)
    (hK : va_K D cl tys s) (hP : va_P D cl (X ++ va_pl L f) H) (hD : va_D A (X ++ va_pl L f)) (hS : va_S A H0 H locs) (hA : ∀ q, H0.size ≤ q → A q) {n k : Int32} {N' K' : Nat} {z : vp_A} (hn : ¬ n < 0) (hk : ¬ k < 0) (hN : n.toNatClampNeg = N') (hM : k.toNatClampNeg = K')
    (hb1 : N' * 4 ≤ 536870912) (hb2 : K' * componentBytes ty ≤ 536870912) (hb3 : K' ≤ 536870912) (hdf : fits ty (defaultValue ty) = true) (hdd : (defaultValue ty).isDefault = true) (hcells : cells + (1 + N') ≤ R.cells) (hslots : slots + (N' + N' * K') ≤ R.slots) (hz : ∀ c : ClassId, Jvm.Free.Multi.innerC c K' (defaultValue ty) = vp_cell c z) (hdg : decode cc pc = .ok (.multianewarray index 2, 4))
    (kk : ∀ (q : Nat) (r : Nat → Nat) (cA : ClassId) (H1 : Heap), (∀ i j : Nat, i < N' → j < N' → r i = r j → i = j) → (∀ i : Nat, i < N' → r i ∉ L) → va_K D cl (tys ++ [(cA, .array ty)]) s →
      va_P D cl ((X ++ [(q, .inl (cA, N', .inr (.inr (.inr (.inr (fun i => if i < N' then some (r i) else none))))))]) ++ va_pl (L ++ (List.range N').map r) (vr_up f ((List.range N').map r) (.inl (cy, z)))) H1 → va_D A ((X ++ [(q, .inl (cA, N', .inr (.inr (.inr (.inr (fun i => if i < N' then some (r i) else none))))))]) ++ va_pl (L ++ (List.range N').map r) (vr_up f ((List.range N').map r) (.inl (cy, z)))) → va_S A H0 H1 locs →
      W p l e R s m args below meth c H1 locs (cells + 1 + N') (slots + N' + N' * K') Q (F0 m (pc + 4) ls (.ref q :: rest))) : W p l e R s m args below meth c H locs cells slots Q (F0 m pc ls (.int k :: .int n :: rest)) := by
  subst hN
  subst hM
  intro T hT Xs
  obtain ⟨vm₁, cA, comp, -, fA, fC, hO, -, X', step⟩ := Xs.multianewarray2F hexec hown hclink (va_AOA.use hover) harr (g := F0 m pc ls (.int k :: .int n :: rest)) rfl (by rw [hb]; exact hdg) rfl hn hk hb1 hb2 hb3 hdf hdd hcells hslots
  have ec : some cy = some comp := hcy.symm.trans fC
  cases ec
  generalize hF : Jvm.Free.Multi.fill (T.setVm vm₁) cA cy n.toNatClampNeg k.toNatClampNeg (defaultValue ty) n.toNatClampNeg = F at X' step
  have hTh : (T.setVm vm₁).heap = H := hT
  obtain ⟨f1, f2, -, -⟩ := Jvm.Free.Multi.fill_facts (T.setVm vm₁) cA cy n.toNatClampNeg k.toNatClampNeg (defaultValue ty) n.toNatClampNeg
  rw [hF, hTh] at f1 f2
  have hold : ∀ x : Nat, x < H.size → F.heap[x]? = H[x]? := fun x hx => by
    have := Jvm.Free.Multi.fill_old (T.setVm vm₁) cA cy n.toNatClampNeg k.toNatClampNeg (defaultValue ty) (a := x) (by rw [hTh]; exact hx) n.toNatClampNeg
    rw [hF, hTh] at this
    exact this
  have hrow : ∀ j : Nat, j < n.toNatClampNeg → F.heap[H.size + 1 + j]? = some (vp_cell cy z) := fun j hj => by
    have := Jvm.Free.Multi.fill_inner (T.setVm vm₁) cA cy n.toNatClampNeg k.toNatClampNeg (defaultValue ty) n.toNatClampNeg j hj
    rw [hF, hTh, hz] at this
    exact this
  have hout : Jvm.Free.Multi.outerC cA n.toNatClampNeg H.size n.toNatClampNeg = vp_cell cA (n.toNatClampNeg, .inr (.inr (.inr (.inr (fun i => if i < n.toNatClampNeg then some (H.size + 1 + i) else none))))) := by
    rw [vp_cell_q]
    exact vr_outer cA n.toNatClampNeg H.size n.toNatClampNeg
  rw [hout] at f2
  have hlt : ∀ a, a ∈ L → a < H.size := fun a ha => by
    obtain ⟨k9, hk9⟩ := va_pl_get (X := X) (f := f) ha
    exact (hP k9 _ hk9).lt
  have hnl : ∀ i : Nat, i < n.toNatClampNeg → H.size + 1 + i ∉ L := fun i _ h => by
    have := hlt _ h
    omega
  have hnm : ∀ a, a ∈ (List.range n.toNatClampNeg).map (fun i => H.size + 1 + i) → a ∉ L := fun a ha h => by
    obtain ⟨i, -, rfl⟩ := List.mem_map.mp ha
    have := hlt _ h
    omega
  have hP0 : va_P D cl (X ++ va_pl L f) F.heap := hP.kept (fun k9 x hx => hold x.1 ((hP k9 x hx).lt))
  have hP1 : va_P D cl ((X ++ va_pl L f) ++ [(H.size, .inl (cA, n.toNatClampNeg, .inr (.inr (.inr (.inr (fun i => if i < n.toNatClampNeg then some (H.size + 1 + i) else none))))))]) F.heap := hP0.app (fun k9 x hx => by
    have h0 : k9 < 1 := (List.getElem?_eq_some_iff.mp hx).1
    rw [show k9 = 0 by omega] at hx
    cases hx
    exact f2)
  have hP2 : va_P D cl (((X ++ va_pl L f) ++ [(H.size, .inl (cA, n.toNatClampNeg, .inr (.inr (.inr (.inr (fun i => if i < n.toNatClampNeg then some (H.size + 1 + i) else none))))))]) ++ ((List.range n.toNatClampNeg).map (fun i => H.size + 1 + i)).map (fun a => (a, .inl (cy, z)))) F.heap := hP1.app (fun k9 x hx => by
    obtain ⟨a, ha, rfl⟩ := List.mem_map.mp (List.mem_of_getElem? hx)
    obtain ⟨i, hi, rfl⟩ := List.mem_map.mp ha
    exact hrow i (List.mem_range.mp hi))
  have hD2 : va_D A (((X ++ va_pl L f) ++ [(H.size, .inl (cA, n.toNatClampNeg, .inr (.inr (.inr (.inr (fun i => if i < n.toNatClampNeg then some (H.size + 1 + i) else none))))))]) ++ ((List.range n.toNatClampNeg).map (fun i => H.size + 1 + i)).map (fun a => (a, .inl (cy, z)))) := by
    have hD1 := hD.push (e := .inl (cA, n.toNatClampNeg, .inr (.inr (.inr (.inr (fun i => if i < n.toNatClampNeg then some (H.size + 1 + i) else none)))))) hP rfl (hA _ hS.1)
    generalize hW1 : (X ++ va_pl L f) ++ [(H.size, .inl (cA, n.toNatClampNeg, .inr (.inr (.inr (.inr (fun i => if i < n.toNatClampNeg then some (H.size + 1 + i) else none))))))] = W1 at hD1 hP1 ⊢
    have hle : ∀ (k9 : Nat) (x : Nat × va_E), W1[k9]? = some x → x.1 ≤ H.size := fun k9 x hx => by
      rw [← hW1] at hx
      by_cases hl : k9 < (X ++ va_pl L f).length
      · rw [List.getElem?_append_left hl] at hx
        exact Nat.le_of_lt ((hP k9 x hx).lt)
      · rw [List.getElem?_append_right (by omega)] at hx
        have h0 : k9 - (X ++ va_pl L f).length < 1 := (List.getElem?_eq_some_iff.mp hx).1
        rw [show k9 - (X ++ va_pl L f).length = 0 by omega] at hx
        cases hx
        exact Nat.le_refl _
    have hr : ∀ (k9 : Nat) (x : Nat × va_E), (((List.range n.toNatClampNeg).map (fun i => H.size + 1 + i)).map (fun a => ((a, .inl (cy, z)) : Nat × va_E)))[k9]? = some x → x.1 = H.size + 1 + k9 := fun k9 x hx => by
      rw [List.getElem?_map, List.getElem?_map] at hx
      by_cases h9 : k9 < n.toNatClampNeg
      · rw [List.getElem?_range h9] at hx
        cases hx
        rfl
      · have hn0 : (List.range n.toNatClampNeg)[k9]? = none := List.getElem?_eq_none (by rw [List.length_range]; omega)
        rw [hn0] at hx
        cases hx
    refine ⟨fun i j x y hi hj hxy => ?_, fun k9 x hx => ?_⟩
    · by_cases h1 : i < W1.length <;> by_cases h2 : j < W1.length
      · rw [List.getElem?_append_left h1] at hi
        rw [List.getElem?_append_left h2] at hj
        exact hD1.1 i j x y hi hj hxy
      · rw [List.getElem?_append_left h1] at hi
        rw [List.getElem?_append_right (by omega)] at hj
        have := hle _ _ hi
        have := hr _ _ hj
        omega
      · rw [List.getElem?_append_right (by omega)] at hi
        rw [List.getElem?_append_left h2] at hj
        have := hle _ _ hj
        have := hr _ _ hi
        omega
      · rw [List.getElem?_append_right (by omega)] at hi hj
        have := hr _ _ hi
        have := hr _ _ hj
        omega
    · by_cases h1 : k9 < W1.length
      · rw [List.getElem?_append_left h1] at hx
        exact hD1.2 k9 x hx
      · rw [List.getElem?_append_right (by omega)] at hx
        have := hr _ _ hx
        exact hA _ (by have := hS.1; omega)
  have hAr : ArrOfT s cA (.array ty) := fun N9 z9 => by
    obtain ⟨-, k9, hk9, cm9, hkk9⟩ := (hO 0 0 0).1
    exact ⟨(fun q hq => by cases hq), k9, hk9, cm9, hkk9⟩
  have hK2 : va_K D cl (tys ++ [(cA, .array ty)]) s := ⟨hK.1, fun k9 x hx => by
    by_cases hl : k9 < tys.length
    · rw [List.getElem?_append_left hl] at hx
      exact hK.2 k9 x hx
    · rw [List.getElem?_append_right (by omega)] at hx
      have h0 : k9 - tys.length < 1 := (List.getElem?_eq_some_iff.mp hx).1
      rw [show k9 - tys.length = 0 by omega] at hx
      cases hx
      exact ⟨hAr, fA⟩⟩
  obtain ⟨t, a1, b1⟩ := kk H.size (fun i => H.size + 1 + i) cA F.heap (fun i j _ _ h => by have h9 : H.size + 1 + i = H.size + 1 + j := h; omega) hnl hK2 (by rw [← vr_rows hnm]; exact vr_lay hP2) (by rw [← vr_rows hnm]; exact vr_layD hD2) ⟨by rw [f1]; have := hS.1; omega, fun x h1 h2 => (hold x (Nat.lt_of_lt_of_le h1 hS.1)).trans (hS.2.1 x h1 h2), hS.2.2⟩ F rfl X'
  refine ⟨t, step t ?_, b1⟩
  have e : T.heap.size = H.size := by rw [hT]
  rw [e]
  exact a1
end VGM
/-! ===== END ===== -/

/-! ===== BEGIN exceptions that leave a method, and their catching by the caller (launches without stack traces) ===== -/
section VXA
/-! The laws vx_back, vx_callV, vx_callS, vx_callSW, vx_throw0, vx_throwS follow proofs of the library, with one case more: JvmDerived/Free/Laws.lean (Back.of_free), Shelf42/LK1.lean (callV, callS), Shelf/KitTraced.lean (throwNew0V, throwNewS). -/
/-- where a method has thrown q: the class by its name, the cell, what was written, the world -/
def vx_T (XC : String → State → State → Prop) (st : State) (q : Addr) (t : State) (mc ms : Nat) (free : Addr → Prop) : Prop :=
  ∃ (E : String) (ce : Cell) (L : List Loc), XC E st t ∧ t.heap[q]? = some ce ∧ ce.vm = .none ∧ st.vm.findClass E = some ce.cls ∧ st.WarmedH t.vm ∧ st.sameButNew ({ t with vm := st.vm } : State) L mc ms ∧ ∀ z ∈ L, free z.base
def vx_Q (Qc : Array Value → State → Outcome → State → Prop) (XC : String → State → State → Prop) (mc ms : Nat) (free : Addr → Prop) : Array Value → State → Outcome → State → Prop := fun a st o t =>
  (Qc a st o t ∧ ∃ L, FrameEnd st o t L mc ms ∧ ∀ q ∈ L, free q.base) ∨ ∃ q, o = .threw q ∧ vx_T XC st q t mc ms free
/-- a callee that returns or throws -/
def vx_Met (l : Launch) (y : MethodName) (ws : List Cond) (rm : Room) (Pc : Array Value → State → Prop) (Qc : Array Value → State → Outcome → State → Prop) (XC : String → State → State → Prop) (mc ms : Nat) (free : Addr → Prop) : Prop :=
  MetFree l y (headSpec ws rm) Pc (fun _ _ _ _ _ => True) (vx_Q Qc XC mc ms free)
def vx_Post (XC : String → State → State → Prop) (mc ms : Nat) (free : Addr → Prop) : Pt → Array Value → Addr → Pt → Prop := fun A a q B =>
  ∃ (g : JFrame) (mk : MethodId) (t : State) (L : List Loc) (E : String) (ce : Cell), B.U.heap = t.heap ∧ B.U.vm = t.vm ∧ XC E (A.U.calling g mk a) t ∧ t.heap[q]? = some ce ∧ ce.vm = .none ∧ A.U.vm.findClass E = some ce.cls ∧ B.locs = A.locs ++ L ∧ (∀ z ∈ L, free z.base) ∧ B.cells = A.cells + mc ∧ B.slots = A.slots + ms
def vx_Back (l : Launch) (R : Room) (p : Program) (e : Env) (below : List Frame) (s : State) (sargs : Array Value) (y : MethodName) (len W9 : Nat)
    (Pre : Pt → Array Value → Prop) (Post : Pt → Array Value → Option Value → Pt → Prop) (PostX : Pt → Array Value → Addr → Pt → Prop) : Prop :=
  ∀ (m : MethodId) (meth : Method) (c : Code) (A : Pt) (g : JFrame) (ig : Instr) (mk : MethodId) (a : Array Value),
    Stand p l e R s m sargs below meth c A.U A.locs A.cells A.slots → g.method = m → g.locals.size = c.maxLocals → decode c.code g.pc = .ok (ig, len) →
    2 * g.monitorRoom + (g.stack.map fun v => v.category).sum ≤ W9 → A.U.methodNamed? y = some mk → Pre A a →
    (∃ (v : Option Value) (B : Pt), Stand p l e R s m sargs below meth c B.U B.locs B.cells B.slots ∧ Post A a v B ∧
      Steps p.tables e below (doInvoke e (A.U.setTop g) [] mk a).1 (B.U.setTop { g with pc := g.pc + len, stack := v.toList ++ g.stack })) ∨
    (∃ (q : Addr) (B : Pt), Stand p l e R s m sargs below meth c B.U B.locs B.cells B.slots ∧ PostX A a q B ∧
      Steps p.tables e below (doInvoke e (A.U.setTop g) [] mk a).1 ((B.U.setTop g).pushFrame (.throwing q)))
section Payer
variable {l : Launch} {R : Room} {p : Program} {e : Env} {below : List Frame} {s : State} {sargs : Array Value} {y : MethodName} {len W9 : Nat}
theorem vx_back {ws : List Cond} {rm : Room} {Pc : Array Value → State → Prop} {Qc : Array Value → State → Outcome → State → Prop} {XC : String → State → State → Prop} {mc ms : Nat} {free : Addr → Prop} {bytes : ByteArray} {maxL : Nat} {ret : Option FieldType}
    (hM : vx_Met l y ws rm Pc Qc XC mc ms free) (hblind : FrameBlind Pc) (hrc : rm.cells = mc) (hrs : rm.slots = ms)
    (hframes : rm.frames + 1 ≤ R.frames) (hlocals : W9 + (maxL + 11) + rm.locals ≤ R.locals)
    (hws : ∀ w ∈ ws, ∀ a' U, s.WarmedH U.vm → w.before a' U = true) (hcode : Cond.code y bytes maxL ret ∈ ws) (hinit : ∀ a' U, s.WarmedH U.vm → (Cond.initialized y.cls).before a' U = true) :
    vx_Back l R p e below s sargs y len W9 (PreOf R mc ms Pc) (PostOf Qc mc ms free) (vx_Post XC mc ms free) := by
  intro m meth c A g ig mk a X hg hsize hdg hW hn hp
  have h1 : (headSpec ws rm).pre.before a A.U = true := atoms_intro fun w hw => hws w hw _ _ X.warmed
  have h2 : (Cond.code y bytes maxL ret).before a A.U = true := hws _ hcode _ _ X.warmed
  have h3 : (Cond.initialized y.cls).before a A.U = true := hinit _ _ X.warmed
  have h4 : A.cells + (headSpec ws rm).room.cells ≤ R.cells := by rw [show (headSpec ws rm).room.cells = mc from hrc]; exact hp.1
  have h5 : A.slots + (headSpec ws rm).room.slots ≤ R.slots := by rw [show (headSpec ws rm).room.slots = ms from hrs]; exact hp.2.1
  have hPc : Pc a (A.U.calling g mk a) := hblind _ _ _ _ hp.2.2
  obtain ⟨U, Ls, c0, s0⟩ := A
  dsimp only [Pt.U, Pt.locs, Pt.cells, Pt.slots] at h1 h2 h3 h4 h5 X hn hPc ⊢
  obtain ⟨methY, cY, hmY, hcY, -, hlY, -, -, -, -⟩ := Cond.code_spec hn h2
  obtain ⟨kY, hkY, -⟩ := className_of_methodNamed hn
  have hinitY : kY.init = .initialized := Cond.initialized_spec (findClass_of_methodNamed hn) hkY h3
  have h : At U g.method c below := by rw [hg]; exact X.here
  have hlocals9 : W9 + (maxL + 11) + (headSpec ws rm).room.locals ≤ R.locals := hlocals
  have happ : (headSpec ws rm).appliesLoose y e.platform (U.calling g mk a) = true :=
    Spec.appliesLoose_calling (g := g) h hdg hn hkY hinitY
      (X.room_calling (g := g) (R' := (headSpec ws rm).room) hsize hmY hcY hframes (by rw [hlY]; omega) h4 h5) h1
  obtain ⟨mid, hmid⟩ := h.above
  have hfr : (U.setTop g).frames = (.java g :: mid) ++ below := by rw [State.frames_setTop' g h.top, hmid]; rfl
  obtain ⟨o, s₂, hsteps, -, hend, hq⟩ := Steps.callFree hM p X.admits X.cas X.clock (acts := []) hfr happ hPc trivial
  have hq' : vx_Q Qc XC mc ms free a (U.calling g mk a) o s₂ := hq
  rw [State.frames_setTop' g h.top] at hend
  obtain ⟨g₀, hg0⟩ := Option.isSome_iff_exists.mp h.top
  obtain ⟨r, hr⟩ := State.topJava?_eq_some.mp hg0
  have hr' : (({ U with heap := s₂.heap, slotsUsed := s₂.slotsUsed } : State).setVm s₂.vm).frames = .java g₀ :: r := hr
  rcases hq' with ⟨hqc, L, hfe, hL⟩ | ⟨q, rfl, E, ce, L, hx, hce, hcv, hcl, hW₂, hsm, hL⟩
  · obtain ⟨⟨v, rfl⟩, hW₂, e2, q2, q3, q4, q5, q6⟩ := id hfe
    have e3 : s₂ = ({ (U.calling g mk a).setFrames s₂.frames with heap := s₂.heap, slotsUsed := s₂.slotsUsed } : State).setVm s₂.vm := by
      have : s₂ = ({ s₂ with vm := (U.calling g mk a).vm } : State).setVm s₂.vm := rfl
      rw [e2] at this
      exact this
    obtain ⟨c₂, i₂, len₂, hc₂, hd₂, hf₂⟩ := hend
    have hW' : U.WarmedH s₂.vm := hW₂
    have hcc : c₂ = c := by
      have h1 : s₂.code? g.method = U.code? g.method := by
        rw [State.code?_eq, State.code?_eq, hW'.alike.method?]
      exact Option.some.inj (hc₂.symm.trans (h1.trans h.code))
    subst hcc
    have hlen : len₂ = len := by rw [hdg] at hd₂; cases hd₂; rfl
    subst hlen
    have hs₂ : s₂ = (({ U with heap := s₂.heap, slotsUsed := s₂.slotsUsed } : State).setVm s₂.vm).setTop { g with pc := g.pc + len₂, stack := v.toList ++ g.stack } := by
      refine e3.trans ?_
      rw [hf₂, State.calling_eq h.top, State.setFrames_setFrames, State.setTop_of_frames _ hr', hr]
      rfl
    have hsame : U.sameButNew ({ U with heap := s₂.heap, slotsUsed := s₂.slotsUsed } : State) L mc ms := by
      refine ⟨?_, q2, q3, q4, q5, q6⟩
      obtain ⟨t, ht, -⟩ := State.frames_cons hr
      show ({ U with heap := s₂.heap, slotsUsed := s₂.slotsUsed } : State) = { U.setFrames U.frames with heap := s₂.heap, slotsUsed := s₂.slotsUsed }
      rw [State.setFrames_self ht]
    subst hg
    refine Or.inl ⟨v, ⟨(({ U with heap := s₂.heap, slotsUsed := s₂.slotsUsed } : State).setVm s₂.vm), Ls ++ L, c0 + mc, s0 + ms⟩,
      ⟨X.admits, X.cas, X.clock, X.frames, X.room, X.hears, X.method, X.code, (X.here.setHeapUsed s₂.heap s₂.slotsUsed).setVm hW'.alike, X.tail, State.WarmedH.trans X.warmed hW', X.limits, X.bytes, X.same.trans (hsame.setVm s.vm)⟩,
      ⟨g, mk, s₂, L, rfl, rfl, hqc, rfl, hL, rfl, rfl⟩, ?_⟩
    show Steps p.tables e below _ ((({ U with heap := s₂.heap, slotsUsed := s₂.slotsUsed } : State).setVm s₂.vm).setTop { g with pc := g.pc + len₂, stack := v.toList ++ g.stack })
    rw [← hs₂]
    exact hsteps
  · obtain ⟨e2, q2, q3, q4, q5, q6⟩ := id hsm
    have e3 : s₂ = ({ (U.calling g mk a).setFrames s₂.frames with heap := s₂.heap, slotsUsed := s₂.slotsUsed } : State).setVm s₂.vm := by
      have : s₂ = ({ s₂ with vm := (U.calling g mk a).vm } : State).setVm s₂.vm := rfl
      rw [e2] at this
      exact this
    have hf₂ : s₂.frames = .throwing q :: .java g :: U.frames.tail := hend
    have hW' : U.WarmedH s₂.vm := hW₂
    have hs₂ : s₂ = ((({ U with heap := s₂.heap, slotsUsed := s₂.slotsUsed } : State).setVm s₂.vm).setTop g).pushFrame (.throwing q) := by
      refine e3.trans ?_
      rw [hf₂, State.calling_eq h.top, State.setFrames_setFrames, State.pushFrame, State.frames_setTop _ hr', State.setTop_of_frames _ hr', State.setFrames_setFrames, hr]
      rfl
    have hsame : U.sameButNew ({ U with heap := s₂.heap, slotsUsed := s₂.slotsUsed } : State) L mc ms := by
      refine ⟨?_, q2, q3, q4, q5, q6⟩
      obtain ⟨t, ht, -⟩ := State.frames_cons hr
      show ({ U with heap := s₂.heap, slotsUsed := s₂.slotsUsed } : State) = { U.setFrames U.frames with heap := s₂.heap, slotsUsed := s₂.slotsUsed }
      rw [State.setFrames_self ht]
    subst hg
    refine Or.inr ⟨q, ⟨(({ U with heap := s₂.heap, slotsUsed := s₂.slotsUsed } : State).setVm s₂.vm), Ls ++ L, c0 + mc, s0 + ms⟩,
      ⟨X.admits, X.cas, X.clock, X.frames, X.room, X.hears, X.method, X.code, (X.here.setHeapUsed s₂.heap s₂.slotsUsed).setVm hW'.alike, X.tail, State.WarmedH.trans X.warmed hW', X.limits, X.bytes, X.same.trans (hsame.setVm s.vm)⟩,
      ⟨g, mk, s₂, L, E, ce, rfl, rfl, hx, hce, hcv, hcl, rfl, hL, rfl, rfl⟩, ?_⟩
    show Steps p.tables e below _ (((({ U with heap := s₂.heap, slotsUsed := s₂.slotsUsed } : State).setVm s₂.vm).setTop g).pushFrame (.throwing q))
    rw [← hs₂]
    exact hsteps
end Payer
section Calls
variable {p : Program} {l : Launch} {e : Env} {R : Room} {s : State} {m : MethodId} {args : Array Value} {below : List Frame} {meth : Method} {c : Code} {T : State} {locs : List Loc} {cells slots : Nat}
theorem vx_callV (X : Stand p l e R s m args below meth c T locs cells slots) (hexec : p.tables.exec = Jvm.exec) {own C : String} {index : Nat} {y : MethodName} {bytes : ByteArray} {maxL : Nat} {ret : Option FieldType}
    (hown : s.vm.findClass own = some m.cls) (hlink : (Cond.methodLink own index y).before args s = true) (hinst : (Cond.instanceMethod y).before args s = true) (hsel : (Cond.selects C y y).before args s = true)
    (hcode : (Cond.code y bytes maxL ret).before args s = true) (hy : y.cls ≠ "java/lang/invoke/MethodHandle" ∧ y.cls ≠ "java/lang/invoke/VarHandle")
    {W9 : Nat} {Pre : Pt → Array Value → Prop} {Post : Pt → Array Value → Option Value → Pt → Prop} {PostX : Pt → Array Value → Addr → Pt → Prop} (hK : vx_Back l R p e below s args y 3 W9 Pre Post PostX)
    {b : Addr} {cellB : Cell} (hcell : T.heap[b]? = some cellB) (hobj : cellB.vm.isStatics = false) (hcls : s.vm.findClass C = some cellB.cls)
    {g : JFrame} (hg : g.method = m) (hsize : g.locals.size = c.maxLocals) {argsL rest : List Value} (hlen : ∀ sig, parseMethodDescriptor y.desc = some sig → argsL.length = sig.parameters.length)
    (hstack : g.stack = argsL.reverse ++ .ref b :: rest) (hW : 2 * g.monitorRoom + (rest.map fun v => v.category).sum ≤ W9) (hdg : decode c.code g.pc = .ok (.invokevirtual index, 3))
    (hpre : ∀ vm₁, s.WarmedH vm₁ → Pre ⟨T.setVm vm₁, locs, cells, slots⟩ (Value.ref b :: argsL).toArray) :
    (∃ (v : Option Value) (vm₁ : Vm) (B : Pt), s.WarmedH vm₁ ∧ Stand p l e R s m args below meth c B.U B.locs B.cells B.slots ∧ Post ⟨T.setVm vm₁, locs, cells, slots⟩ (Value.ref b :: argsL).toArray v B ∧
      ∀ target, Steps p.tables e below (B.U.setTop { g with pc := g.pc + 3, stack := v.toList ++ rest }) target → Steps p.tables e below (T.setTop g) target) ∨
    (∃ (q : Addr) (vm₁ : Vm) (B : Pt), s.WarmedH vm₁ ∧ Stand p l e R s m args below meth c B.U B.locs B.cells B.slots ∧ PostX ⟨T.setVm vm₁, locs, cells, slots⟩ (Value.ref b :: argsL).toArray q B ∧
      Steps p.tables e below (T.setTop g) ((B.U.setTop { g with stack := rest }).pushFrame (.throwing q))) := by
  obtain ⟨mk, methM, hnamed, hmethM, hstM, habM⟩ := Cond.instanceMethod_spec hinst
  obtain ⟨methM', cM, hmethM', -, -, -, -, -, -, hsigM⟩ := Cond.code_spec hnamed hcode
  cases hmethM.symm.trans hmethM'
  obtain ⟨c2, r2, m2, q1, q2, q3, q4, kP, hkP, hkPi⟩ := Cond.selects_spec hsel
  cases hcls.symm.trans q1
  cases (State.methodFound?_of_named hnamed hy).symm.trans q2
  cases hnamed.symm.trans q3
  have hselP : selectMethod e.platform s.vm cellB.cls mk = .method mk := by rw [Launch.admits_selectMethod X.admits]; exact q4
  obtain ⟨vm₁, X₁, hstep₁⟩ := X.invokevirtual hexec hown hlink hnamed hmethM hstM hkP hkPi hy (a := b) (cell := cellB) hcell
    (fun z h => by rw [h] at hobj; cases hobj) hselP hmethM habM hkP hkPi (g := g) hg (argsL := argsL) (rest := rest) (hlen _ hsigM) hstack hdg
  rcases hK m meth c ⟨T.setVm vm₁, locs, cells, slots⟩ { g with stack := rest } (.invokevirtual index) mk (Value.ref b :: argsL).toArray X₁ hg hsize hdg hW (X₁.named hnamed) (hpre vm₁ X₁.warmed) with ⟨v, B, X', hpost, hsteps⟩ | ⟨q, B, X', hpost, hsteps⟩
  · exact Or.inl ⟨v, vm₁, B, X₁.warmed, X', hpost, fun target h => hstep₁ _ fun acts => by rw [doInvoke_state]; exact hsteps.trans h⟩
  · exact Or.inr ⟨q, vm₁, B, X₁.warmed, X', hpost, hstep₁ _ fun acts => by rw [doInvoke_state]; exact hsteps⟩
theorem vx_callS (X : Stand p l e R s m args below meth c T locs cells slots) (hexec : p.tables.exec = Jvm.exec) {own : String} {index : Nat} {y : MethodName} {bytes : ByteArray} {maxL : Nat} {ret : Option FieldType}
    (hown : s.vm.findClass own = some m.cls) (hlink : (Cond.methodLink own index y).before args s = true) (hstat : (Cond.static y).before args s = true) (hinit : (Cond.initialized y.cls).before args s = true)
    (hcode : (Cond.code y bytes maxL ret).before args s = true) (hy : y.cls ≠ "java/lang/invoke/MethodHandle" ∧ y.cls ≠ "java/lang/invoke/VarHandle")
    {W9 : Nat} {Pre : Pt → Array Value → Prop} {Post : Pt → Array Value → Option Value → Pt → Prop} {PostX : Pt → Array Value → Addr → Pt → Prop} (hK : vx_Back l R p e below s args y 3 W9 Pre Post PostX)
    {g : JFrame} (hg : g.method = m) (hsize : g.locals.size = c.maxLocals) {argsL rest : List Value} (hlen : ∀ sig, parseMethodDescriptor y.desc = some sig → argsL.length = sig.parameters.length)
    (hstack : g.stack = argsL.reverse ++ rest) (hW : 2 * g.monitorRoom + (rest.map fun v => v.category).sum ≤ W9) (hdg : decode c.code g.pc = .ok (.invokestatic index, 3))
    (hpre : ∀ vm₁, s.WarmedH vm₁ → Pre ⟨T.setVm vm₁, locs, cells, slots⟩ argsL.toArray) :
    (∃ (v : Option Value) (vm₁ : Vm) (B : Pt), s.WarmedH vm₁ ∧ Stand p l e R s m args below meth c B.U B.locs B.cells B.slots ∧ Post ⟨T.setVm vm₁, locs, cells, slots⟩ argsL.toArray v B ∧
      ∀ target, Steps p.tables e below (B.U.setTop { g with pc := g.pc + 3, stack := v.toList ++ rest }) target → Steps p.tables e below (T.setTop g) target) ∨
    (∃ (q : Addr) (vm₁ : Vm) (B : Pt), s.WarmedH vm₁ ∧ Stand p l e R s m args below meth c B.U B.locs B.cells B.slots ∧ PostX ⟨T.setVm vm₁, locs, cells, slots⟩ argsL.toArray q B ∧
      Steps p.tables e below (T.setTop g) ((B.U.setTop { g with stack := rest }).pushFrame (.throwing q))) := by
  obtain ⟨mk, hnamed⟩ := Cond.code_named hcode
  obtain ⟨methM, cM, hmethM, -, -, -, -, -, -, hsigM⟩ := Cond.code_spec hnamed hcode
  have hstatic : methM.isStatic = true := Cond.static_spec hnamed hmethM hstat
  obtain ⟨kP, hkP, -⟩ := className_of_methodNamed hnamed
  have hinitP : kP.init = .initialized := Cond.initialized_spec (findClass_of_methodNamed hnamed) hkP hinit
  obtain ⟨vm₁, X₁, hstep₁⟩ := X.invokestatic hexec hown hlink hnamed hmethM hstatic hkP hinitP hy (g := g) hg (argsL := argsL) (rest := rest) (hlen _ hsigM) hstack hdg
  rcases hK m meth c ⟨T.setVm vm₁, locs, cells, slots⟩ { g with stack := rest } (.invokestatic index) mk argsL.toArray X₁ hg hsize hdg hW (X₁.named hnamed) (hpre vm₁ X₁.warmed) with ⟨v, B, X', hpost, hsteps⟩ | ⟨q, B, X', hpost, hsteps⟩
  · exact Or.inl ⟨v, vm₁, B, X₁.warmed, X', hpost, fun target h => hstep₁ _ fun acts => by rw [doInvoke_state]; exact hsteps.trans h⟩
  · exact Or.inr ⟨q, vm₁, B, X₁.warmed, X', hpost, hstep₁ _ fun acts => by rw [doInvoke_state]; exact hsteps⟩
end Calls
theorem vx_cls {s : State} {T : State} {vm₁ : Vm} {E : String} {k : ClassId} (hW : s.WarmedH vm₁) (h : (T.setVm vm₁).vm.findClass E = some k) : s.vm.findClass E = some k := by
  have h1 : vm₁.findClass E = some k := h
  rw [hW.alike.findClass] at h1
  exact h1
/-- the method's frame g, with q thrown over it -/
def vx_W (p : Program) (l : Launch) (e : Env) (R : Room) (s : State) (m : MethodId) (args : Array Value) (below : List Frame) (meth : Method) (c : Code) (H : Heap) (locs : List Loc) (cells slots : Nat) (Q : State → Prop) (g : JFrame) (q : Addr) : Prop :=
  ∀ T : State, T.heap = H → Stand p l e R s m args below meth c T locs cells slots → ∃ t, Steps p.tables e below ((T.setTop g).pushFrame (.throwing q)) t ∧ Q t
def vx_Run (p : Program) (l : Launch) (e : Env) (R : Room) (s : State) (m : MethodId) (args : Array Value) (below : List Frame) (meth : Method) (c : Code) (H : Heap) (locs : List Loc) (cells slots mc ms : Nat) (g : JFrame) (rest : List Value) (Qa : State → Outcome → State → Prop) (XC : String → State → State → Prop) (free : Addr → Prop) : Prop :=
  ∀ T : State, T.heap = H → Stand p l e R s m args below meth c T locs cells slots →
    (∃ (v : Option Value) (st₀ t T' : State) (L : List Loc), st₀.heap = H ∧ Stand p l e R s m args below meth c T' (locs ++ L) (cells + mc) (slots + ms) ∧ (∀ q ∈ L, free q.base) ∧ T'.heap = t.heap ∧ T'.vm = t.vm ∧ Qa st₀ (.returned v) t ∧
      Goes p e below T g T' { g with pc := g.pc + 3, stack := v.toList ++ rest }) ∨
    (∃ (q : Addr) (st₀ t T' : State) (L : List Loc) (E : String) (ce : Cell), st₀.heap = H ∧ Stand p l e R s m args below meth c T' (locs ++ L) (cells + mc) (slots + ms) ∧ (∀ z ∈ L, free z.base) ∧ T'.heap = t.heap ∧ T'.vm = t.vm ∧ XC E st₀ t ∧ t.heap[q]? = some ce ∧ ce.vm = .none ∧ s.vm.findClass E = some ce.cls ∧
      Steps p.tables e below (T.setTop g) ((T'.setTop { g with stack := rest }).pushFrame (.throwing q)))
def vx_X {S : Type} (px : S → Prop) (B : String → S → State → Prop) (A : Nat → Prop) : String → State → State → Prop := fun E st t => ∃ u : S, px u ∧ B E u t ∧ va_F A st t
section Runs
variable {p : Program} {l : Launch} {e : Env} {R : Room} {s : State} {m : MethodId} {args : Array Value} {below : List Frame} {meth : Method} {c : Code} {H : Heap} {locs : List Loc} {cells slots : Nat}
variable {y : MethodName} {bytes cc : ByteArray} {maxL nL mc ms n index : Nat} {ret : Option FieldType} {ws : List Cond} {rm : Room} {Pc : Array Value → State → Prop} {Qc : Array Value → State → Outcome → State → Prop} {XC : String → State → State → Prop} {free : Addr → Prop} {Ts : List Cond} {own C : String} {b : Addr} {As rest : List Value} {g : JFrame}
theorem vx_callBack (cb : CallB R s args own index y bytes maxL ret ws rm mc ms n) (hM : vx_Met l y ws rm Pc Qc XC mc ms free) (hbl : FrameBlind Pc) : vx_Back l R p e below s args y 3 8 (PreOf R mc ms Pc) (PostOf Qc mc ms free) (vx_Post XC mc ms free) := by
  obtain ⟨hrc, hrs, hfr, hlo, hws, hcw, -, hini, -⟩ := cb
  exact vx_back (bytes := bytes) (maxL := maxL) (ret := ret) hM hbl hrc hrs hfr hlo hws hcw (fun a' U hW => word_at hW (Or.inl (by first | rfl | simp [Cond.onTables, Cond.keeps, Cond.steady])) hini)
theorem vx_runV (S : CallFix p m c cc nL s args Ts own) (hM : vx_Met l y ws rm Pc Qc XC mc ms free) (cw : CallW R s args own C index y bytes maxL ret ws rm mc ms n) (hp : PreV s H C b Pc As)
    (hg : g.method = m) (hn : As.length = n) (hsize : g.locals.size = nL) (hstack : g.stack = As.reverse ++ .ref b :: rest) (hW : 2 * g.monitorRoom + (rest.map fun v => v.category).sum ≤ 8) (hdg : decode cc g.pc = .ok (.invokevirtual index, 3)) (hf : cells + mc ≤ R.cells ∧ slots + ms ≤ R.slots) :
    vx_Run p l e R s m args below meth c H locs cells slots mc ms g rest (Qc (Value.ref b :: As).toArray) XC free := by
  have hK : vx_Back l R p e below s args y 3 8 (PreOf R mc ms Pc) (PostOf Qc mc ms free) (vx_Post XC mc ms free) := vx_callBack cw.1 hM hp.1
  obtain ⟨⟨-, -, -, -, -, -, hcode, -, hy, hlen, hl⟩, hin, hse⟩ := cw
  obtain ⟨hx, hb, hml, ho, -⟩ := S
  obtain ⟨-, ⟨cellB, hcB, hoB, hclB⟩, hPc⟩ := hp
  intro T hT X
  rcases vx_callV X hx (C := C) (bytes := bytes) (maxL := maxL) (ret := ret) ho hl hin hse hcode hy hK (by rw [hT]; exact hcB) hoB hclB hg (hsize.trans hml.symm) (argsL := As) (rest := rest) (fun sig h => hn.trans (hlen sig h)) hstack hW (by rw [hb]; exact hdg)
    (fun vm₁ hW₁ => ⟨hf.1, hf.2, hPc (T.setVm vm₁) hT hW₁⟩) with ⟨v, vm₁, ⟨U', l2, c2, s2⟩, hW₁, X', ⟨g', mk, t, L, e1, e2, hq, h1, hL, h2, h3⟩, st⟩ | ⟨q, vm₁, ⟨U', l2, c2, s2⟩, hW₁, X', ⟨g', mk, t, L, E, ce, e1, e2, hq, hce, hcv, hcl, h1, hL, h2, h3⟩, st⟩
  · dsimp only [Pt.U, Pt.locs, Pt.cells, Pt.slots] at X' e1 e2 h1 h2 h3 st
    subst h1; subst h2; subst h3
    exact Or.inl ⟨v, (T.setVm vm₁).calling g' mk (Value.ref b :: As).toArray, t, U', L, hT, X', hL, e1, e2, hq, st⟩
  · dsimp only [Pt.U, Pt.locs, Pt.cells, Pt.slots] at X' e1 e2 h1 h2 h3 st hcl
    subst h1; subst h2; subst h3
    exact Or.inr ⟨q, (T.setVm vm₁).calling g' mk (Value.ref b :: As).toArray, t, U', L, E, ce, hT, X', hL, e1, e2, hq, hce, hcv, vx_cls hW₁ hcl, st⟩
theorem vx_runS (S : CallFix p m c cc nL s args Ts own) (hM : vx_Met l y ws rm Pc Qc XC mc ms free) (cw : CallB R s args own index y bytes maxL ret ws rm mc ms n ∧ (Cond.static y).before args s = true) (hp : PreS s H Pc As)
    (hg : g.method = m) (hn : As.length = n) (hsize : g.locals.size = nL) (hstack : g.stack = As.reverse ++ rest) (hW : 2 * g.monitorRoom + (rest.map fun v => v.category).sum ≤ 8) (hdg : decode cc g.pc = .ok (.invokestatic index, 3)) (hf : cells + mc ≤ R.cells ∧ slots + ms ≤ R.slots) :
    vx_Run p l e R s m args below meth c H locs cells slots mc ms g rest (Qc As.toArray) XC free := by
  have hK : vx_Back l R p e below s args y 3 8 (PreOf R mc ms Pc) (PostOf Qc mc ms free) (vx_Post XC mc ms free) := vx_callBack cw.1 hM hp.1
  obtain ⟨⟨-, -, -, -, -, -, hcode, hini, hy, hlen, hl⟩, hstt⟩ := cw
  obtain ⟨hx, hb, hml, ho, -⟩ := S
  intro T hT X
  rcases vx_callS X hx (bytes := bytes) (maxL := maxL) (ret := ret) ho hl hstt hini hcode hy hK hg (hsize.trans hml.symm) (argsL := As) (rest := rest) (fun sig h => hn.trans (hlen sig h)) hstack hW (by rw [hb]; exact hdg)
    (fun vm₁ hW₁ => ⟨hf.1, hf.2, hp.2 (T.setVm vm₁) hT hW₁⟩) with ⟨v, vm₁, ⟨U', l2, c2, s2⟩, hW₁, X', ⟨g', mk, t, L, e1, e2, hq, h1, hL, h2, h3⟩, st⟩ | ⟨q, vm₁, ⟨U', l2, c2, s2⟩, hW₁, X', ⟨g', mk, t, L, E, ce, e1, e2, hq, hce, hcv, hcl, h1, hL, h2, h3⟩, st⟩
  · dsimp only [Pt.U, Pt.locs, Pt.cells, Pt.slots] at X' e1 e2 h1 h2 h3 st
    subst h1; subst h2; subst h3
    exact Or.inl ⟨v, (T.setVm vm₁).calling g' mk As.toArray, t, U', L, hT, X', hL, e1, e2, hq, st⟩
  · dsimp only [Pt.U, Pt.locs, Pt.cells, Pt.slots] at X' e1 e2 h1 h2 h3 st hcl
    subst h1; subst h2; subst h3
    exact Or.inr ⟨q, (T.setVm vm₁).calling g' mk As.toArray, t, U', L, E, ce, hT, X', hL, e1, e2, hq, hce, hcv, vx_cls hW₁ hcl, st⟩
end Runs
section Rows
variable {p : Program} {l : Launch} {e : Env} {R : Room} {s : State} {m : MethodId} {args : Array Value} {below : List Frame} {meth : Method} {c : Code} {H : Heap} {locs : List Loc} {cells slots : Nat} {Q : State → Prop}
variable {mc ms : Nat} {free : Addr → Prop} {A0 A1 : Nat → Prop} {H0 : Heap} {a : Array Value} {pc : Nat} {ls : Array Slot} {st0 rest : List Value}
theorem vx_keep {st₀ t T' : State} {L : List Loc} (h0 : st₀.heap = H) (e1 : T'.heap = t.heap) (hS : va_S A0 H0 H locs) (hA : ∀ q, q < H.size → A1 q → A0 q) (hf : ∀ q, free q → A0 q) (hL : ∀ q ∈ L, free q.base) (hF : va_F A1 st₀ t) :
    H.size ≤ T'.heap.size ∧ (∀ q : Nat, q < H.size → ¬ A1 q → T'.heap[q]? = H[q]?) ∧ va_S A0 H0 T'.heap (locs ++ L) := by
  obtain ⟨hz, hk⟩ := hF
  rw [h0] at hz hk
  exact ⟨by rw [e1]; exact hz, fun q h1 h2 => by rw [e1]; exact hk q h1 h2,
    ⟨Nat.le_trans hS.1 (by rw [e1]; exact hz), fun q h1 h2 => by rw [e1, hk q (Nat.lt_of_lt_of_le h1 hS.1) (fun z => h2 (hA q (Nat.lt_of_lt_of_le h1 hS.1) z))]; exact hS.2.1 q h1 h2, fun q hq => by
      rcases List.mem_append.mp hq with h | h
      · exact hS.2.2 q h
      · exact hf _ (hL q h)⟩⟩
theorem vx_calli {S SX : Type} {post : Int32 → S → Prop} {px : SX → Prop} {B : S → State → Prop} {BX : String → SX → State → Prop} {AX : Nat → Prop} (hr : vx_Run p l e R s m args below meth c H locs cells slots mc ms (F0 m pc ls st0) rest (va_Qi post B A1 a) (vx_X px BX AX) free) (hS : va_S A0 H0 H locs) (hA : ∀ q, q < H.size → A1 q → A0 q) (hf : ∀ q, free q → A0 q) (hAX : ∀ q, q < H.size → AX q → A0 q)
    (kx : ∀ (E : String) (ce : Cell) (q9 : Addr) (u : SX) (t : State) (H1 : Heap) (locs1 : List Loc), t.heap = H1 → s.vm.Alike t.vm → px u → BX E u t → H.size ≤ H1.size → (∀ q : Nat, q < H.size → ¬ AX q → H1[q]? = H[q]?) → va_S A0 H0 H1 locs1 → H1[q9]? = some ce → ce.vm = .none → s.vm.findClass E = some ce.cls → vx_W p l e R s m args below meth c H1 locs1 (cells + mc) (slots + ms) Q (F0 m pc ls rest) q9)
    (kk : ∀ (r : Int32) (u : S) (t : State) (H1 : Heap) (locs1 : List Loc), t.heap = H1 → s.vm.Alike t.vm → post r u → B u t → H.size ≤ H1.size → (∀ q : Nat, q < H.size → ¬ A1 q → H1[q]? = H[q]?) → va_S A0 H0 H1 locs1 → W p l e R s m args below meth c H1 locs1 (cells + mc) (slots + ms) Q (F0 m (pc + 3) ls (.int r :: rest))) : W p l e R s m args below meth c H locs cells slots Q (F0 m pc ls st0) := by
  intro T hT X
  rcases hr T hT X with ⟨v, st₀, t, T', L, h0, X', hL, e1, e2, ⟨⟨r, u, hv, hp, hb⟩, hF⟩, st⟩ | ⟨q, st₀, t, T', L, E, ce, h0, X', hL, e1, e2, ⟨u, hp, hb, hF⟩, hce, hcv, hcl, st⟩
  · cases hv
    obtain ⟨k1, k2, k3⟩ := vx_keep h0 e1 hS hA hf hL hF
    obtain ⟨t2, a1, b1⟩ := kk r u t T'.heap (locs ++ L) e1.symm (by rw [← e2]; exact X'.warmed.alike) hp hb k1 k2 k3 T' rfl X'
    exact ⟨t2, st t2 a1, b1⟩
  · obtain ⟨k1, k2, k3⟩ := vx_keep h0 e1 hS hAX hf hL hF
    obtain ⟨t2, a1, b1⟩ := kx E ce q u t T'.heap (locs ++ L) e1.symm (by rw [← e2]; exact X'.warmed.alike) hp hb k1 k2 k3 (by rw [e1]; exact hce) hcv hcl T' rfl X'
    exact ⟨t2, st.trans a1, b1⟩
theorem vx_calll {S SX : Type} {post : Int64 → S → Prop} {px : SX → Prop} {B : S → State → Prop} {BX : String → SX → State → Prop} {AX : Nat → Prop} (hr : vx_Run p l e R s m args below meth c H locs cells slots mc ms (F0 m pc ls st0) rest (va_Ql post B A1 a) (vx_X px BX AX) free) (hS : va_S A0 H0 H locs) (hA : ∀ q, q < H.size → A1 q → A0 q) (hf : ∀ q, free q → A0 q) (hAX : ∀ q, q < H.size → AX q → A0 q)
    (kx : ∀ (E : String) (ce : Cell) (q9 : Addr) (u : SX) (t : State) (H1 : Heap) (locs1 : List Loc), t.heap = H1 → s.vm.Alike t.vm → px u → BX E u t → H.size ≤ H1.size → (∀ q : Nat, q < H.size → ¬ AX q → H1[q]? = H[q]?) → va_S A0 H0 H1 locs1 → H1[q9]? = some ce → ce.vm = .none → s.vm.findClass E = some ce.cls → vx_W p l e R s m args below meth c H1 locs1 (cells + mc) (slots + ms) Q (F0 m pc ls rest) q9)
    (kk : ∀ (r : Int64) (u : S) (t : State) (H1 : Heap) (locs1 : List Loc), t.heap = H1 → s.vm.Alike t.vm → post r u → B u t → H.size ≤ H1.size → (∀ q : Nat, q < H.size → ¬ A1 q → H1[q]? = H[q]?) → va_S A0 H0 H1 locs1 → W p l e R s m args below meth c H1 locs1 (cells + mc) (slots + ms) Q (F0 m (pc + 3) ls (.long r :: rest))) : W p l e R s m args below meth c H locs cells slots Q (F0 m pc ls st0) := by
  intro T hT X
  rcases hr T hT X with ⟨v, st₀, t, T', L, h0, X', hL, e1, e2, ⟨⟨r, u, hv, hp, hb⟩, hF⟩, st⟩ | ⟨q, st₀, t, T', L, E, ce, h0, X', hL, e1, e2, ⟨u, hp, hb, hF⟩, hce, hcv, hcl, st⟩
  · cases hv
    obtain ⟨k1, k2, k3⟩ := vx_keep h0 e1 hS hA hf hL hF
    obtain ⟨t2, a1, b1⟩ := kk r u t T'.heap (locs ++ L) e1.symm (by rw [← e2]; exact X'.warmed.alike) hp hb k1 k2 k3 T' rfl X'
    exact ⟨t2, st t2 a1, b1⟩
  · obtain ⟨k1, k2, k3⟩ := vx_keep h0 e1 hS hAX hf hL hF
    obtain ⟨t2, a1, b1⟩ := kx E ce q u t T'.heap (locs ++ L) e1.symm (by rw [← e2]; exact X'.warmed.alike) hp hb k1 k2 k3 (by rw [e1]; exact hce) hcv hcl T' rfl X'
    exact ⟨t2, st.trans a1, b1⟩
theorem vx_callf {S SX : Type} {post : UInt32 → S → Prop} {px : SX → Prop} {B : S → State → Prop} {BX : String → SX → State → Prop} {AX : Nat → Prop} (hr : vx_Run p l e R s m args below meth c H locs cells slots mc ms (F0 m pc ls st0) rest (va_Qf post B A1 a) (vx_X px BX AX) free) (hS : va_S A0 H0 H locs) (hA : ∀ q, q < H.size → A1 q → A0 q) (hf : ∀ q, free q → A0 q) (hAX : ∀ q, q < H.size → AX q → A0 q)
    (kx : ∀ (E : String) (ce : Cell) (q9 : Addr) (u : SX) (t : State) (H1 : Heap) (locs1 : List Loc), t.heap = H1 → s.vm.Alike t.vm → px u → BX E u t → H.size ≤ H1.size → (∀ q : Nat, q < H.size → ¬ AX q → H1[q]? = H[q]?) → va_S A0 H0 H1 locs1 → H1[q9]? = some ce → ce.vm = .none → s.vm.findClass E = some ce.cls → vx_W p l e R s m args below meth c H1 locs1 (cells + mc) (slots + ms) Q (F0 m pc ls rest) q9)
    (kk : ∀ (r : UInt32) (u : S) (t : State) (H1 : Heap) (locs1 : List Loc), t.heap = H1 → s.vm.Alike t.vm → post r u → B u t → H.size ≤ H1.size → (∀ q : Nat, q < H.size → ¬ A1 q → H1[q]? = H[q]?) → va_S A0 H0 H1 locs1 → W p l e R s m args below meth c H1 locs1 (cells + mc) (slots + ms) Q (F0 m (pc + 3) ls (.float r :: rest))) : W p l e R s m args below meth c H locs cells slots Q (F0 m pc ls st0) := by
  intro T hT X
  rcases hr T hT X with ⟨v, st₀, t, T', L, h0, X', hL, e1, e2, ⟨⟨r, u, hv, hp, hb⟩, hF⟩, st⟩ | ⟨q, st₀, t, T', L, E, ce, h0, X', hL, e1, e2, ⟨u, hp, hb, hF⟩, hce, hcv, hcl, st⟩
  · cases hv
    obtain ⟨k1, k2, k3⟩ := vx_keep h0 e1 hS hA hf hL hF
    obtain ⟨t2, a1, b1⟩ := kk r u t T'.heap (locs ++ L) e1.symm (by rw [← e2]; exact X'.warmed.alike) hp hb k1 k2 k3 T' rfl X'
    exact ⟨t2, st t2 a1, b1⟩
  · obtain ⟨k1, k2, k3⟩ := vx_keep h0 e1 hS hAX hf hL hF
    obtain ⟨t2, a1, b1⟩ := kx E ce q u t T'.heap (locs ++ L) e1.symm (by rw [← e2]; exact X'.warmed.alike) hp hb k1 k2 k3 (by rw [e1]; exact hce) hcv hcl T' rfl X'
    exact ⟨t2, st.trans a1, b1⟩
theorem vx_calld {S SX : Type} {post : UInt64 → S → Prop} {px : SX → Prop} {B : S → State → Prop} {BX : String → SX → State → Prop} {AX : Nat → Prop} (hr : vx_Run p l e R s m args below meth c H locs cells slots mc ms (F0 m pc ls st0) rest (va_Qd post B A1 a) (vx_X px BX AX) free) (hS : va_S A0 H0 H locs) (hA : ∀ q, q < H.size → A1 q → A0 q) (hf : ∀ q, free q → A0 q) (hAX : ∀ q, q < H.size → AX q → A0 q)
    (kx : ∀ (E : String) (ce : Cell) (q9 : Addr) (u : SX) (t : State) (H1 : Heap) (locs1 : List Loc), t.heap = H1 → s.vm.Alike t.vm → px u → BX E u t → H.size ≤ H1.size → (∀ q : Nat, q < H.size → ¬ AX q → H1[q]? = H[q]?) → va_S A0 H0 H1 locs1 → H1[q9]? = some ce → ce.vm = .none → s.vm.findClass E = some ce.cls → vx_W p l e R s m args below meth c H1 locs1 (cells + mc) (slots + ms) Q (F0 m pc ls rest) q9)
    (kk : ∀ (r : UInt64) (u : S) (t : State) (H1 : Heap) (locs1 : List Loc), t.heap = H1 → s.vm.Alike t.vm → post r u → B u t → H.size ≤ H1.size → (∀ q : Nat, q < H.size → ¬ A1 q → H1[q]? = H[q]?) → va_S A0 H0 H1 locs1 → W p l e R s m args below meth c H1 locs1 (cells + mc) (slots + ms) Q (F0 m (pc + 3) ls (.double r :: rest))) : W p l e R s m args below meth c H locs cells slots Q (F0 m pc ls st0) := by
  intro T hT X
  rcases hr T hT X with ⟨v, st₀, t, T', L, h0, X', hL, e1, e2, ⟨⟨r, u, hv, hp, hb⟩, hF⟩, st⟩ | ⟨q, st₀, t, T', L, E, ce, h0, X', hL, e1, e2, ⟨u, hp, hb, hF⟩, hce, hcv, hcl, st⟩
  · cases hv
    obtain ⟨k1, k2, k3⟩ := vx_keep h0 e1 hS hA hf hL hF
    obtain ⟨t2, a1, b1⟩ := kk r u t T'.heap (locs ++ L) e1.symm (by rw [← e2]; exact X'.warmed.alike) hp hb k1 k2 k3 T' rfl X'
    exact ⟨t2, st t2 a1, b1⟩
  · obtain ⟨k1, k2, k3⟩ := vx_keep h0 e1 hS hAX hf hL hF
    obtain ⟨t2, a1, b1⟩ := kx E ce q u t T'.heap (locs ++ L) e1.symm (by rw [← e2]; exact X'.warmed.alike) hp hb k1 k2 k3 (by rw [e1]; exact hce) hcv hcl T' rfl X'
    exact ⟨t2, st.trans a1, b1⟩
theorem vx_callv {S SX : Type} {post : S → Prop} {px : SX → Prop} {B : S → State → Prop} {BX : String → SX → State → Prop} {AX : Nat → Prop} (hr : vx_Run p l e R s m args below meth c H locs cells slots mc ms (F0 m pc ls st0) rest (va_Qv post B A1 a) (vx_X px BX AX) free) (hS : va_S A0 H0 H locs) (hA : ∀ q, q < H.size → A1 q → A0 q) (hf : ∀ q, free q → A0 q) (hAX : ∀ q, q < H.size → AX q → A0 q)
    (kx : ∀ (E : String) (ce : Cell) (q9 : Addr) (u : SX) (t : State) (H1 : Heap) (locs1 : List Loc), t.heap = H1 → s.vm.Alike t.vm → px u → BX E u t → H.size ≤ H1.size → (∀ q : Nat, q < H.size → ¬ AX q → H1[q]? = H[q]?) → va_S A0 H0 H1 locs1 → H1[q9]? = some ce → ce.vm = .none → s.vm.findClass E = some ce.cls → vx_W p l e R s m args below meth c H1 locs1 (cells + mc) (slots + ms) Q (F0 m pc ls rest) q9)
    (kk : ∀ (u : S) (t : State) (H1 : Heap) (locs1 : List Loc), t.heap = H1 → s.vm.Alike t.vm → post u → B u t → H.size ≤ H1.size → (∀ q : Nat, q < H.size → ¬ A1 q → H1[q]? = H[q]?) → va_S A0 H0 H1 locs1 → W p l e R s m args below meth c H1 locs1 (cells + mc) (slots + ms) Q (F0 m (pc + 3) ls (rest))) : W p l e R s m args below meth c H locs cells slots Q (F0 m pc ls st0) := by
  intro T hT X
  rcases hr T hT X with ⟨v, st₀, t, T', L, h0, X', hL, e1, e2, ⟨⟨u, hv, hp, hb⟩, hF⟩, st⟩ | ⟨q, st₀, t, T', L, E, ce, h0, X', hL, e1, e2, ⟨u, hp, hb, hF⟩, hce, hcv, hcl, st⟩
  · cases hv
    obtain ⟨k1, k2, k3⟩ := vx_keep h0 e1 hS hA hf hL hF
    obtain ⟨t2, a1, b1⟩ := kk u t T'.heap (locs ++ L) e1.symm (by rw [← e2]; exact X'.warmed.alike) hp hb k1 k2 k3 T' rfl X'
    exact ⟨t2, st t2 a1, b1⟩
  · obtain ⟨k1, k2, k3⟩ := vx_keep h0 e1 hS hAX hf hL hF
    obtain ⟨t2, a1, b1⟩ := kx E ce q u t T'.heap (locs ++ L) e1.symm (by rw [← e2]; exact X'.warmed.alike) hp hb k1 k2 k3 (by rw [e1]; exact hce) hcv hcl T' rfl X'
    exact ⟨t2, st.trans a1, b1⟩
/-- caught by the row x of this method's table; the rows ahead don't take it -/
theorem vx_catch {own name : String} {E : String} {ce : Cell} {q : Addr} (hown : s.vm.findClass own = some m.cls) (pre : List ExceptionTableEntry) (x : ExceptionTableEntry) (suf : List ExceptionTableEntry) (hsplit : c.exceptionTable.toList = pre ++ x :: suf)
    (hpass : ∀ z ∈ pre, covers z pc = false ∨ (z.catchType ≠ 0 ∧ ∃ nm : String, (Cond.classLink own z.catchType nm).before args s = true ∧ va_Nc E nm s)) (hx : covers x pc = true) (h0 : x.catchType ≠ 0)
    (hlink : (Cond.classLink own x.catchType name).before args s = true) (hcast : (Cond.castable E name).before args s = true) (hcell : H[q]? = some ce) (hv : ce.vm = .none) (hcl : s.vm.findClass E = some ce.cls)
    (kk : W p l e R s m args below meth c H locs cells slots Q (F0 m x.handlerPc ls [.ref q])) : vx_W p l e R s m args below meth c H locs cells slots Q (F0 m pc ls rest) q := by
  intro T hT X
  have hpl : e.platform.magicAccessors = ({} : Platform).magicAccessors := by rw [X.admits.platform]
  obtain ⟨c3, c4, hc3, hc4, hasg⟩ := Cond.castable_spec hcast
  cases Option.some.inj (hc3.symm.trans hcl)
  obtain ⟨c5, hc5, hcl5⟩ := Cond.classLink_spec hown hlink e.platform hpl
  cases Option.some.inj (hc4.symm.trans hc5)
  obtain ⟨vm', X', st⟩ := X.thenCaughtThrough q (g := F0 m pc ls rest) rfl (Steps.refl _) (by rw [hT]; exact hcell) (by rw [hv]; rfl) (by obtain ⟨k9, h9, -⟩ := Vm.findClass_spec hcl; exact ⟨k9, h9⟩) pre x suf hsplit
    (fun z hz => by
      rcases hpass z hz with h | ⟨hz0, nm, hl1, hn1⟩
      · exact Or.inl h
      · obtain ⟨c6, hc6, hcl6⟩ := Cond.classLink_spec hown hl1 e.platform hpl
        obtain ⟨a8, b8, h1, h2, h3⟩ := hn1
        cases Option.some.inj (h1.symm.trans hcl)
        cases Option.some.inj (h2.symm.trans hc6)
        exact Or.inr ⟨hz0, _, hcl6, h3⟩) hx (Or.inr ⟨h0, c4, hcl5, hasg⟩)
  obtain ⟨t, a1, b1⟩ := kk (T.setVm vm') hT X'
  exact ⟨t, st.trans a1, b1⟩
end Rows
section Ends
variable {p : Program} {l : Launch} {e : Env} {R : Room} {s : State} {m : MethodId} {args : Array Value} {below : List Frame} {meth : Method} {c : Code} {H : Heap} {locs : List Loc} {cells slots : Nat} {Q : State → Prop}
variable {mc ms : Nat} {free : Addr → Prop} {A0 A1 : Nat → Prop} {H0 : Heap} {a : Array Value} {ls : Array Slot} {st0 rest : List Value}
variable {Qc : Array Value → State → Outcome → State → Prop} {XC : String → State → State → Prop}
/-- what a body that may throw owes at its end -/
def vx_MQ (below : List Frame) (Qc : Array Value → State → Outcome → State → Prop) (XC : String → State → State → Prop) (a : Array Value) (s : State) (mc ms : Nat) (free : Addr → Prop) : State → Prop := fun t =>
  ∃ o, t.status = .running ∧ Ended t below o ∧ vx_Q Qc XC mc ms free a s o t
theorem vx_ret {g : JFrame} {mc ms : Nat} (k : W p l e R s m args below meth c H locs cells slots (MQ below Qc args s mc ms free) g) : W p l e R s m args below meth c H locs cells slots (vx_MQ below Qc XC args s mc ms free) g := by
  intro T hT X
  obtain ⟨t, a1, o, b1, b2, b3, b4⟩ := k T hT X
  exact ⟨t, a1, o, b1, b2, Or.inl ⟨b3, b4⟩⟩
/-- not caught here: it goes on to the caller -/
theorem vx_widen {g : JFrame} {q : Addr} {k n : Nat} (h1 : cells ≤ k) (h2 : slots ≤ n) (kk : vx_W p l e R s m args below meth c H locs k n Q g q) : vx_W p l e R s m args below meth c H locs cells slots Q g q := fun T hT X => kk T hT (stand_widen X h1 h2)
theorem vx_out {pc : Nat} {E : String} {ce : Cell} {q : Addr} {mc ms : Nat} (hout : ∀ x ∈ c.exceptionTable.toList, covers x pc = false) (hlocks : meth.locks = false) (hcell : H[q]? = some ce) (hv : ce.vm = .none) (hcl : s.vm.findClass E = some ce.cls)
    (hx : ∀ t : State, t.heap = H → s.vm.Alike t.vm → XC E s t) (hf : ∀ z ∈ locs, free z.base) (hc : cells ≤ mc) (hs : slots ≤ ms) :
    vx_W p l e R s m args below meth c H locs cells slots (vx_MQ below Qc XC args s mc ms free) (F0 m pc ls rest) q := by
  intro T hT X
  obtain ⟨st1, hrun, hend, hW, hsm⟩ := X.leaveThrown q (g := F0 m pc ls rest) rfl rfl rfl hout hlocks
  have hcell9 : (T.setFrames (.throwing q :: below)).heap[q]? = some ce := by
    show T.heap[q]? = some ce
    rw [hT]; exact hcell
  exact ⟨_, st1, .threw q, hrun, hend, Or.inr ⟨q, rfl, E, ce, locs, hx _ hT hW.alike, hcell9, hv, hcl, hW, hsm.mono hc hs, hf⟩⟩
theorem vx_frame {U : State} {k n : Nat} (h : s.sameButNew ({ U with vm := s.vm } : State) locs k n) : s.heap.size ≤ U.heap.size ∧ ∀ q : Nat, q < s.heap.size → (∀ z ∈ locs, z.base ≠ q) → U.heap[q]? = s.heap[q]? := by
  obtain ⟨-, h2, -, -, -, h6⟩ := h
  refine ⟨h2, fun q hq hz => ?_⟩
  obtain ⟨c9, e1, e2, e3, e4⟩ := h6 q _ (Array.getElem?_eq_getElem hq)
  have hs : c9.slots = (s.heap[q]).slots := Array.ext_getElem? fun i => e4 i fun hm => hz _ hm rfl
  have h9 : c9 = s.heap[q] := by
    rw [hs] at e2
    exact e2
  have e5 : U.heap[q]? = some c9 := e1
  rw [e5, h9, Array.getElem?_eq_getElem hq]
/-- the words of a throw but the four that speak of the heap -/
def vx_no (w : Cond) : Bool := decide (w ≠ .isRef (.static Bundle.tN "UNASSIGNED_STACK" Bundle.steD)) && decide (w ≠ .isRef (.static Bundle.tN "SUPPRESSED_SENTINEL" Bundle.listD)) && decide (w ≠ .laysStatic Bundle.tN "UNASSIGNED_STACK" Bundle.steD) && decide (w ≠ .laysStatic Bundle.tN "SUPPRESSED_SENTINEL" Bundle.listD)
def vx_at0 (own : String) (ic : Nat) (X : String) (names : List String) : List Cond := (Bundle.ownAtoms0 own ic X names).filter vx_no
def vx_atS (own : String) (ic : Nat) (X : String) (names : List String) : List Cond := (Bundle.ownAtoms own ic X names).filter vx_no
/-- a word that the tables alone decide, or a good one -/
def vx_ot (w : Cond) : Bool := w.onTables || goodWord w
theorem vx_ot_at {args a' : Array Value} {s U : State} {w : Cond} (hW : s.WarmedH U.vm) (hvm : s.vm = U.vm) (hg : vx_ot w = true) (h : w.before args s = true) : w.before a' U = true := by
  simp only [vx_ot, Bool.or_eq_true] at hg
  rcases hg with hg | hg
  · exact va_tabs hg hvm h
  · exact word_at hW (good_of_word hg) h
/-- a list's words: the good ones out of the method's own list, the others by premises of their own -/
theorem vx_hat {args : Array Value} {s : State} {L B : List Cond} (h1 : ∀ w ∈ L.filter goodWord, w.before args s = true) (h2 : ∀ w ∈ L.filter (fun w => !goodWord w), w ∈ B) (h3 : ∀ w ∈ B, w.before args s = true) : ∀ w ∈ L, w.before args s = true := by
  intro w hw
  by_cases g : goodWord w = true
  · exact h1 w (List.mem_filter.mpr ⟨hw, g⟩)
  · refine h3 w (h2 w (List.mem_filter.mpr ⟨hw, ?_⟩))
    show (!goodWord w) = true
    cases hgw : goodWord w
    · rfl
    · exact absurd hgw g
theorem vx_c {args : Array Value} {s : State} {w : Cond} {B : List Cond} (h : w.before args s = true) (t : ∀ w ∈ B, w.before args s = true) : ∀ w' ∈ w :: B, w'.before args s = true := fun w' h' => (List.mem_cons.mp h').elim (fun e => by rw [e]; exact h) (t w')
theorem vx_n {args : Array Value} {s : State} : ∀ w ∈ ([] : List Cond), w.before args s = true := fun _ h => nomatch h
theorem vx_own {args : Array Value} {s : State} {L : List Cond} (h1 : ∀ w ∈ L.filter vx_no, w.before args s = true)
    (hU : (Cond.isRef (.static Bundle.tN "UNASSIGNED_STACK" Bundle.steD)).before args s = true) (hN : (Cond.isRef (.static Bundle.tN "SUPPRESSED_SENTINEL" Bundle.listD)).before args s = true)
    (lU : (Cond.laysStatic Bundle.tN "UNASSIGNED_STACK" Bundle.steD).before args s = true) (lN : (Cond.laysStatic Bundle.tN "SUPPRESSED_SENTINEL" Bundle.listD).before args s = true) : ∀ w ∈ L, w.before args s = true := by
  intro w hw
  by_cases e1 : w = .isRef (.static Bundle.tN "UNASSIGNED_STACK" Bundle.steD)
  · rw [e1]; exact hU
  · by_cases e2 : w = .isRef (.static Bundle.tN "SUPPRESSED_SENTINEL" Bundle.listD)
    · rw [e2]; exact hN
    · by_cases e3 : w = .laysStatic Bundle.tN "UNASSIGNED_STACK" Bundle.steD
      · rw [e3]; exact lU
      · by_cases e4 : w = .laysStatic Bundle.tN "SUPPRESSED_SENTINEL" Bundle.listD
        · rw [e4]; exact lN
        · exact h1 w (List.mem_filter.mpr ⟨hw, by unfold vx_no; rw [decide_eq_true e1, decide_eq_true e2, decide_eq_true e3, decide_eq_true e4]; rfl⟩)
/-- where a static field lies, its class's statics cell in H -/
def vx_L (C n d : String) (A : Nat → Prop) (U : State) (H : Heap) : Prop := ∃ (c : ClassId) (k : Class) (i : Nat) (f : Field) (a : Nat) (cell : Cell), U.vm.findClass C = some c ∧ U.fieldFound? C n d = some (c, k, i, f) ∧ f.isStatic = true ∧ k.statics = some a ∧ H[a]? = some cell ∧ cell.vm.isStatics = true ∧ cell.cls = c ∧ f.slot < cell.slots.size ∧ k.staticTypes[f.slot]? = some f.type ∧ ¬ A a
theorem vx_L.moved {C n d : String} {A : Nat → Prop} {u U : State} {H : Heap} (hvm : u.vm.Alike U.vm) (h : vx_L C n d A u H) : vx_L C n d A U H := by
  obtain ⟨c, k, i, f, a, cell, h1, h2, h3, h4, h5, h6, h7, h8, h9, h10⟩ := h
  obtain ⟨k', hi', he⟩ := State.fieldFound?_setVm hvm h2
  exact ⟨c, k', i, f, a, cell, by rw [hvm.findClass]; exact h1, hi', h3, by rw [he]; exact h4, h5, h6, h7, h8, by rw [he]; exact h9, h10⟩
theorem vx_L.kept {C n d : String} {A : Nat → Prop} {U : State} {H H1 : Heap} (h : vx_L C n d A U H) (hq : ∀ a : Nat, a < H.size → ¬ A a → H1[a]? = H[a]?) : vx_L C n d A U H1 := by
  obtain ⟨c, k, i, f, a, cell, h1, h2, h3, h4, h5, h6, h7, h8, h9, h10⟩ := h
  exact ⟨c, k, i, f, a, cell, h1, h2, h3, h4, by rw [hq a (Array.getElem?_eq_some_iff.mp h5).1 h10]; exact h5, h6, h7, h8, h9, h10⟩
theorem vx_L.narrow {C n d : String} {A B : Nat → Prop} {U : State} {H : Heap} (h : vx_L C n d A U H) (hAB : ∀ q, B q → A q) : vx_L C n d B U H := by
  obtain ⟨c, k, i, f, a, cell, h1, h2, h3, h4, h5, h6, h7, h8, h9, h10⟩ := h
  exact ⟨c, k, i, f, a, cell, h1, h2, h3, h4, h5, h6, h7, h8, h9, fun z => h10 (hAB _ z)⟩
theorem vx_L.word {C n d : String} {A : Nat → Prop} {s : State} {args : Array Value} (h : vx_L C n d A s s.heap) : (Cond.laysStatic C n d).before args s = true := by
  obtain ⟨c, k, i, f, a, cell, h1, h2, h3, h4, h5, h6, h7, h8, h9, -⟩ := h
  show (Cond.laysStatic C n d).holds args s none s [] = true
  exact Cond.laysStatic_of h1 h2 h3 h4 h5 h6 h7 h8 h9
/-- .. and what it holds: null or some reference -/
def vx_Zq (C n d : String) (A : Nat → Prop) (U : State) (H : Heap) : Prop := va_Zq C n d A U H ∧ vx_L C n d A U H
theorem vx_Zq.moved {C n d : String} {A : Nat → Prop} {u U : State} {H : Heap} (hvm : u.vm.Alike U.vm) (h : vx_Zq C n d A u H) : vx_Zq C n d A U H := ⟨va_Zq.moved hvm h.1, vx_L.moved hvm h.2⟩
theorem vx_Zq.kept {C n d : String} {A : Nat → Prop} {U : State} {H H1 : Heap} (h : vx_Zq C n d A U H) (hq : ∀ a : Nat, a < H.size → ¬ A a → H1[a]? = H[a]?) : vx_Zq C n d A U H1 := ⟨va_Zq.kept h.1 hq, vx_L.kept h.2 hq⟩
theorem vx_Zq.narrow {C n d : String} {A B : Nat → Prop} {U : State} {H : Heap} (h : vx_Zq C n d A U H) (hAB : ∀ q, B q → A q) : vx_Zq C n d B U H := ⟨va_Zq.narrow h.1 hAB, vx_L.narrow h.2 hAB⟩
theorem vx_Zqof {args : Array Value} {s : State} {C n d : String} {A : Nat → Prop} (hl : (Cond.laysStatic C n d).before args s = true) (hini : (Cond.initialized C).before args s = true) (h : (Cond.isRef (.static C n d)).before args s = true) (hA : ∀ a : Nat, a < s.heap.size → ¬ A a) : vx_Zq C n d A s s.heap := by
  refine ⟨va_Zqof hl hini h hA, ?_⟩
  obtain ⟨c, k, i, f, a, cell, h1, h2, h3, h4, h5, h6, h7, h8, h9⟩ := Cond.laysStatic_spec hl
  exact ⟨c, k, i, f, a, cell, h1, h2, h3, h4, h5, h6, h7, h8, h9, hA a (Array.getElem?_eq_some_iff.mp h5).1⟩
theorem vx_isRef {C n d : String} {v : Value} {A : Nat → Prop} {s : State} {args : Array Value} (h : va_Z C n d v A s s.heap) (hv : v.isRef = true) : (Cond.isRef (.static C n d)).before args s = true := by
  obtain ⟨cf, kf, fi, f, a, cell, h1, h2, h3, h4, h5, h6, h7, -⟩ := h
  have he : (Term.static C n d).eval args s none [] s = some v := by
    simp [Term.eval, State.fieldNamed?, h1, h2, h4, h5, h6, h7]
  simp only [Cond.before, Cond.holds, Cond.value, he]
  cases v <;> simp_all [Value.isRef]
theorem vx_isRefq {C n d : String} {A : Nat → Prop} {s : State} {args : Array Value} (h : va_Zq C n d A s s.heap) : (Cond.isRef (.static C n d)).before args s = true := by
  rcases h with h | ⟨t, h⟩
  · exact vx_isRef h rfl
  · exact vx_isRef h rfl
/-- the same frame, seen from here: as if the method were called anew in this heap -/
theorem vx_rebase {T : State} (X : Stand p l e R s m args below meth c T locs cells slots) {R' : Room} (hf : R'.frames ≤ R.frames) (hl : R'.locals ≤ R.locals) (hc : cells + R'.cells ≤ R.cells) (hs : slots + R'.slots ≤ R.slots) :
    Stand p l e R' ((T.setVm s.vm).setFrames (.invoking m args :: below)) m args below meth c T [] 0 0 := by
  have htop : (T.setVm s.vm).topJava?.isSome := X.here.top
  have hF : ((T.setVm s.vm).setFrames (.invoking m args :: below)).frames = .invoking m args :: below := State.frames_setFrames _ (State.cur_lt_of_top htop)
  obtain ⟨g₀, hg0⟩ := Option.isSome_iff_exists.mp htop
  obtain ⟨r, hr⟩ := State.topJava?_eq_some.mp hg0
  have hl9 : e.platform.stackLimits (T.setVm s.vm).me = e.platform.stackLimits s.me := X.limits
  have hb9 : (T.setVm s.vm).me.stackBytes = s.me.stackBytes := X.bytes
  refine ⟨X.admits, X.cas, X.clock, hF, ?_, X.hears, X.method, X.code, X.here, X.tail, X.warmed, ?_, ?_, ?_⟩
  · have h := X.room
    have hU : ((T.setVm s.vm).setFrames (.invoking m args :: below)).localsInUse = s.localsInUse := by
      rw [State.localsInUse_invoking hF (meth := meth) (c := c) X.method X.code, State.localsInUse_invoking X.frames X.method X.code]
    simp only [State.hasRoom, Bool.and_eq_true, decide_eq_true_eq] at h ⊢
    obtain ⟨⟨⟨⟨h1, h2, h3, h4, h5, h6⟩, h7⟩, h8⟩, h9⟩ := h
    rw [X.frames, List.length_cons] at h2 h3
    have q1 := X.heapSize
    have q2 := X.used
    simp only [hF, hU, List.length_cons, State.stackLimits_setFrames, State.stackBytes_setFrames, hl9, hb9]
    refine ⟨⟨⟨⟨by omega, by omega, by omega, by omega, by omega, h6⟩, ?_⟩, ?_⟩, X.book⟩
    · show T.heap.size + R'.cells ≤ e.platform.maxCells
      omega
    · show T.slotsUsed + R'.slots ≤ e.platform.maxSlots
      omega
  · rw [State.stackLimits_setFrames]; rfl
  · rw [State.stackBytes_setFrames]; rfl
  · refine ⟨?_, Nat.le_refl _, Nat.le_refl _, ?_, ?_, fun a c9 h9 => ⟨c9, h9, rfl, rfl, fun _ _ => rfl⟩⟩
    · obtain ⟨t, ht, -⟩ := State.frames_cons hr
      show T.setVm s.vm = { ((T.setVm s.vm).setFrames (.invoking m args :: below)).setFrames (T.setVm s.vm).frames with heap := T.heap, slotsUsed := T.slotsUsed }
      rw [State.setFrames_setFrames, State.setFrames_self ht]
      rfl
    · show T.slotsUsed = T.slotsUsed + ((T.heap.toList.drop T.heap.size).map (·.slots.size)).sum
      rw [List.drop_eq_nil_of_le (Nat.le_of_eq Array.length_toList)]
      rfl
    · show ((T.heap.toList.drop T.heap.size).map (·.slots.size)).sum ≤ 0
      rw [List.drop_eq_nil_of_le (Nat.le_of_eq Array.length_toList)]
      exact Nat.le_refl _
/-- 'throw new E()': new; dup; invokespecial; athrow -/
theorem vx_throw0 {cc : ByteArray} {pc : Nat} (hexec : p.tables.exec = Jvm.exec) (hb : c.code = cc) (hl : l.stackTraces = false) {own cls : String} {names : List String} {ik ic mc ms : Nat} {A : Nat → Prop}
    (hown : s.vm.findClass own = some m.cls) (hcls : Bundle.fit cls = true) (hnames : ∀ n ∈ names, Bundle.fit n = true)
    (hk : (Cond.classLink own ik cls).before args s = true) (hini : (Cond.initialized cls).before args s = true) (hat : ∀ w ∈ vx_at0 own ic cls names, w.before args s = true)
    (hgood : ∀ w ∈ Cond.classLink own ik cls :: Cond.initialized cls :: vx_at0 own ic cls names, vx_ot w = true)
    (hU : vx_Zq Bundle.tN "UNASSIGNED_STACK" Bundle.steD A s s.heap) (hN : vx_Zq Bundle.tN "SUPPRESSED_SENTINEL" Bundle.listD A s s.heap) (hS : va_S A s.heap H locs) (hsize : ls.size = c.maxLocals)
    (d0 : decode cc pc = .ok (.new ik, 3)) (d3 : decode cc (pc + 3) = .ok (.dup, 1)) (d4 : decode cc (pc + 4) = .ok (.invokespecial ic, 3)) (d7 : decode cc (pc + 7) = .ok (.athrow, 1))
    (hout : ∀ x ∈ c.exceptionTable.toList, covers x (pc + 7) = false)
    (hRframes : names.length + 3 < R.frames) (hRlocals : (rest.map fun v => v.category).sum + (13 * (names.length + 1) + 42) ≤ R.locals) (hRcells : cells + 1 ≤ R.cells) (hRslots : slots + 6 ≤ R.slots) (hlocks : meth.locks = false)
    (hx : ∀ t : State, s.vm.Alike t.vm → H.size ≤ t.heap.size → (∀ q : Nat, q < H.size → t.heap[q]? = H[q]?) → XC cls s t)
    (hf : ∀ z ∈ locs, free z.base) (hc : cells + 1 ≤ mc) (hs : slots + 6 ≤ ms) :
    W p l e R s m args below meth c H locs cells slots (vx_MQ below Qc XC args s mc ms free) (F0 m pc ls rest) := by
  intro T hT X
  have htr : e.platform.stackTraces = false := (show e.platform.stackTraces = l.stackTraces by rw [X.admits.platform]).trans hl
  have Y := vx_rebase X (R' := { frames := R.frames, locals := R.locals, cells := 1, slots := 6 }) (Nat.le_refl _) (Nat.le_refl _) hRcells hRslots
  obtain ⟨s', hA⟩ : ∃ z, z = (T.setVm s.vm).setFrames (.invoking m args :: below) := ⟨_, rfl⟩
  rw [← hA] at Y
  have hvm : s'.vm = s.vm := by rw [hA]; rfl
  have hhp : s'.heap = H := by rw [hA]; exact hT
  have hW0 : s.WarmedH s'.vm := by rw [hvm]; exact State.WarmedH.refl s
  have hat' : ∀ w ∈ vx_at0 own ic cls names, w.before args s' = true := fun w hw => vx_ot_at hW0 hvm.symm (hgood w (List.mem_cons_of_mem _ (List.mem_cons_of_mem _ hw))) (hat w hw)
  have hk' : (Cond.classLink own ik cls).before args s' = true := vx_ot_at hW0 hvm.symm (hgood _ List.mem_cons_self) hk
  have hini' : (Cond.initialized cls).before args s' = true := vx_ot_at hW0 hvm.symm (hgood _ (List.mem_cons_of_mem _ List.mem_cons_self)) hini
  have hU' : vx_Zq Bundle.tN "UNASSIGNED_STACK" Bundle.steD A s' s'.heap := by rw [hhp]; exact vx_Zq.moved hW0.alike (hU.kept hS.2.1)
  have hN' : vx_Zq Bundle.tN "SUPPRESSED_SENTINEL" Bundle.listD A s' s'.heap := by rw [hhp]; exact vx_Zq.moved hW0.alike (hN.kept hS.2.1)
  have h : ∀ w ∈ Bundle.ownAtoms0 own ic cls names, w.before args s' = true := vx_own hat' (vx_isRefq hU'.1) (vx_isRefq hN'.1) hU'.2.word hN'.2.word
  have hown' : s'.vm.findClass own = some m.cls := by rw [hvm]; exact hown
  have hins : (Cond.instantiable cls 6).before args s' = true := h _ (by simp [Bundle.ownAtoms0])
  obtain ⟨vm₁, cX, kX, hfX, hkX, -, -, X₁, st1⟩ := Y.newCold hexec (own := own) (C := cls) (index := ik) (n := 6) hown' hk' hins hini'
    (g := F0 m pc ls rest) rfl (by rw [hb]; exact d0) (Nat.le_refl _) (Nat.le_refl _)
  generalize hT1 : (T.setVm vm₁).pushCell { cls := cX, slots := kX.instanceTypes.map defaultValue, vm := .none } = T1 at X₁ st1
  have hcat : (Value.ref T.heap.size).category = 1 := rfl
  have hcellA : T1.heap[T.heap.size]? = some (freshCell cX kX) := by rw [← hT1]; exact State.heap_pushCell_size _ _
  have d3' : decode c.code (pc + 3) = .ok (.dup, 1) := by rw [hb]; exact d3
  obtain ⟨U, hsteps, hrun, hend, hW, hsame, ce, hce, hO⟩ := X₁.ctorThrow0 hexec htr (own := own) (cls := cls) (names := names) (ic := ic) hown' hcls hnames h (fun x hx => nomatch hx) hfX hkX hcellA (by rw [hhp, hT]; exact Nat.le_refl _)
    (g := { method := m, pc := pc + 4, locals := ls, stack := .ref T.heap.size :: .ref T.heap.size :: rest, locked := none }) rfl hsize rfl rfl (rest := rest) rfl
    (by rw [hb]; exact d4) (by rw [hb]; exact d7) hout hRframes (by simp only [List.map_cons, List.sum_cons, hcat]; omega) hlocks
  obtain ⟨f1, f2⟩ := vx_frame hsame
  rw [hhp] at f1 f2
  have hWs : s.WarmedH U.vm := State.WarmedH.trans hW0 hW
  have hcl : s.vm.findClass cls = some ce.cls := by
    have h9 := hO.cls
    rw [hvm] at h9
    exact h9
  have hall : s.sameButNew ({ U with vm := s.vm } : State) locs mc ms := by
    subst hA
    obtain ⟨e1, e2⟩ := hsame
    rw [State.setFrames_setFrames] at e1
    have h2 : (T.setVm s.vm).sameButNew ({ U with vm := s.vm } : State) [] (0 + 1) (0 + 6) := ⟨e1, e2⟩
    have h3 := X.same.trans h2
    rw [List.append_nil] at h3
    exact h3.mono hc hs
  refine ⟨U, ?_, .threw T.heap.size, hrun, hend, Or.inr ⟨T.heap.size, rfl, cls, ce, locs, hx U hWs.alike f1 (fun q hq => f2 q hq (fun z hz => nomatch hz)), hce, hO.vm, hcl, hWs, hall, hf⟩⟩
  refine st1 _ ?_
  show Steps p.tables e below (T1.setTop { method := m, pc := pc + 3, locals := ls, stack := .ref T.heap.size :: rest, locked := none }) _
  jvm_step X₁.here [X₁.here.top, hexec, d3', Value.category]
  exact hsteps
/-- 'throw new E("text")': new; dup; ldc; invokespecial; athrow -/
theorem vx_throwS {cc : ByteArray} {pc : Nat} (hexec : p.tables.exec = Jvm.exec) (hb : c.code = cc) (hl : l.stackTraces = false) {own cls text : String} {names : List String} {ik is ic mc ms sa : Nat} {A : Nat → Prop}
    (hown : s.vm.findClass own = some m.cls) (hcls : Bundle.fit cls = true) (hnames : ∀ n ∈ names, Bundle.fit n = true)
    (hk : (Cond.classLink own ik cls).before args s = true) (hini : (Cond.initialized cls).before args s = true) (hstr : vk_R own is text sa s) (hat : ∀ w ∈ vx_atS own ic cls names, w.before args s = true)
    (hgood : ∀ w ∈ Cond.classLink own ik cls :: Cond.initialized cls :: vx_atS own ic cls names, vx_ot w = true)
    (hU : vx_Zq Bundle.tN "UNASSIGNED_STACK" Bundle.steD A s s.heap) (hN : vx_Zq Bundle.tN "SUPPRESSED_SENTINEL" Bundle.listD A s s.heap) (hS : va_S A s.heap H locs) (hsize : ls.size = c.maxLocals)
    (d0 : decode cc pc = .ok (.new ik, 3)) (d3 : decode cc (pc + 3) = .ok (.dup, 1)) (d4 : decode cc (pc + 4) = .ok (.ldc is, 2)) (d6 : decode cc (pc + 6) = .ok (.invokespecial ic, 3)) (d9 : decode cc (pc + 9) = .ok (.athrow, 1))
    (hout : ∀ x ∈ c.exceptionTable.toList, covers x (pc + 9) = false)
    (hRframes : names.length + 3 < R.frames) (hRlocals : (rest.map fun v => v.category).sum + (13 * (names.length + 1) + 43) ≤ R.locals) (hRcells : cells + 1 ≤ R.cells) (hRslots : slots + 6 ≤ R.slots) (hlocks : meth.locks = false)
    (hx : ∀ t : State, s.vm.Alike t.vm → H.size ≤ t.heap.size → (∀ q : Nat, q < H.size → t.heap[q]? = H[q]?) → XC cls s t)
    (hf : ∀ z ∈ locs, free z.base) (hc : cells + 1 ≤ mc) (hs : slots + 6 ≤ ms) :
    W p l e R s m args below meth c H locs cells slots (vx_MQ below Qc XC args s mc ms free) (F0 m pc ls rest) := by
  intro T hT X
  have htr : e.platform.stackTraces = false := (show e.platform.stackTraces = l.stackTraces by rw [X.admits.platform]).trans hl
  have Y := vx_rebase X (R' := { frames := R.frames, locals := R.locals, cells := 1, slots := 6 }) (Nat.le_refl _) (Nat.le_refl _) hRcells hRslots
  obtain ⟨s', hA⟩ : ∃ z, z = (T.setVm s.vm).setFrames (.invoking m args :: below) := ⟨_, rfl⟩
  rw [← hA] at Y
  have hvm : s'.vm = s.vm := by rw [hA]; rfl
  have hhp : s'.heap = H := by rw [hA]; exact hT
  have hW0 : s.WarmedH s'.vm := by rw [hvm]; exact State.WarmedH.refl s
  have hat' : ∀ w ∈ vx_atS own ic cls names, w.before args s' = true := fun w hw => vx_ot_at hW0 hvm.symm (hgood w (List.mem_cons_of_mem _ (List.mem_cons_of_mem _ hw))) (hat w hw)
  have hk' : (Cond.classLink own ik cls).before args s' = true := vx_ot_at hW0 hvm.symm (hgood _ List.mem_cons_self) hk
  have hini' : (Cond.initialized cls).before args s' = true := vx_ot_at hW0 hvm.symm (hgood _ (List.mem_cons_of_mem _ List.mem_cons_self)) hini
  have hU' : vx_Zq Bundle.tN "UNASSIGNED_STACK" Bundle.steD A s' s'.heap := by rw [hhp]; exact vx_Zq.moved hW0.alike (hU.kept hS.2.1)
  have hN' : vx_Zq Bundle.tN "SUPPRESSED_SENTINEL" Bundle.listD A s' s'.heap := by rw [hhp]; exact vx_Zq.moved hW0.alike (hN.kept hS.2.1)
  have h : ∀ w ∈ Bundle.ownAtoms own ic cls names, w.before args s' = true := vx_own hat' (vx_isRefq hU'.1) (vx_isRefq hN'.1) hU'.2.word hN'.2.word
  have hown' : s'.vm.findClass own = some m.cls := by rw [hvm]; exact hown
  have hins : (Cond.instantiable cls 6).before args s' = true := h _ (by simp [Bundle.ownAtoms])
  obtain ⟨vm₁, cX, kX, hfX, hkX, -, -, X₁, st1⟩ := Y.newCold hexec (own := own) (C := cls) (index := ik) (n := 6) hown' hk' hins hini'
    (g := F0 m pc ls rest) rfl (by rw [hb]; exact d0) (Nat.le_refl _) (Nat.le_refl _)
  generalize hT1 : (T.setVm vm₁).pushCell { cls := cX, slots := kX.instanceTypes.map defaultValue, vm := .none } = T1 at X₁ st1
  have hcat : (Value.ref T.heap.size).category = 1 := rfl
  have hcellA : T1.heap[T.heap.size]? = some (freshCell cX kX) := by rw [← hT1]; exact State.heap_pushCell_size _ _
  have d3' : decode c.code (pc + 3) = .ok (.dup, 1) := by rw [hb]; exact d3
  have d4' : decode c.code (pc + 4) = .ok (.ldc is, 2) := by rw [hb]; exact d4
  have hstr' : vk_R own is text sa s' := vk_R.warm hW0 hstr
  obtain ⟨U, hsteps, hrun, hend, hW, hsame, ce, hce, hO⟩ := X₁.ctorThrowS hexec htr (own := own) (cls := cls) (names := names) (ic := ic) hown' hcls hnames h (fun x hx => nomatch hx) hfX hkX hcellA (by rw [hhp, hT]; exact Nat.le_refl _) (msg := .ref sa) rfl
    (g := { method := m, pc := pc + 6, locals := ls, stack := .ref sa :: .ref T.heap.size :: .ref T.heap.size :: rest, locked := none }) rfl hsize rfl rfl (rest := rest) rfl
    (by rw [hb]; exact d6) (by rw [hb]; exact d9) hout hRframes (by simp only [List.map_cons, List.sum_cons, hcat]; omega) hlocks
  obtain ⟨f1, f2⟩ := vx_frame hsame
  rw [hhp] at f1 f2
  have hWs : s.WarmedH U.vm := State.WarmedH.trans hW0 hW
  have hcl : s.vm.findClass cls = some ce.cls := by
    have h9 := hO.cls
    rw [hvm] at h9
    exact h9
  have hall : s.sameButNew ({ U with vm := s.vm } : State) locs mc ms := by
    subst hA
    obtain ⟨e1, e2⟩ := hsame
    rw [State.setFrames_setFrames] at e1
    have h2 : (T.setVm s.vm).sameButNew ({ U with vm := s.vm } : State) [] (0 + 1) (0 + 6) := ⟨e1, e2⟩
    have h3 := X.same.trans h2
    rw [List.append_nil] at h3
    exact h3.mono hc hs
  refine ⟨U, ?_, .threw T.heap.size, hrun, hend, Or.inr ⟨T.heap.size, rfl, cls, ce, locs, hx U hWs.alike f1 (fun q hq => f2 q hq (fun z hz => nomatch hz)), hce, hO.vm, hcl, hWs, hall, hf⟩⟩
  refine st1 _ ?_
  show Steps p.tables e below (T1.setTop { method := m, pc := pc + 3, locals := ls, stack := .ref T.heap.size :: rest, locked := none }) _
  jvm_step X₁.here [X₁.here.top, hexec, d3', Value.category]
  exact X₁.ldcString hexec (own := own) (text := text) (index := is) (a := sa) hown' hstr'.1 hstr'.2
    (g := { method := m, pc := pc + 4, locals := ls, stack := .ref T.heap.size :: .ref T.heap.size :: rest, locked := none }) rfl d4' _ hsteps
/-- 'throw new E("text")', the text by a wide index -/
theorem vx_throwSW {cc : ByteArray} {pc : Nat} (hexec : p.tables.exec = Jvm.exec) (hb : c.code = cc) (hl : l.stackTraces = false) {own cls text : String} {names : List String} {ik is ic mc ms sa : Nat} {A : Nat → Prop}
    (hown : s.vm.findClass own = some m.cls) (hcls : Bundle.fit cls = true) (hnames : ∀ n ∈ names, Bundle.fit n = true)
    (hk : (Cond.classLink own ik cls).before args s = true) (hini : (Cond.initialized cls).before args s = true) (hstr : vk_R own is text sa s) (hat : ∀ w ∈ vx_atS own ic cls names, w.before args s = true)
    (hgood : ∀ w ∈ Cond.classLink own ik cls :: Cond.initialized cls :: vx_atS own ic cls names, vx_ot w = true)
    (hU : vx_Zq Bundle.tN "UNASSIGNED_STACK" Bundle.steD A s s.heap) (hN : vx_Zq Bundle.tN "SUPPRESSED_SENTINEL" Bundle.listD A s s.heap) (hS : va_S A s.heap H locs) (hsize : ls.size = c.maxLocals)
    (d0 : decode cc pc = .ok (.new ik, 3)) (d3 : decode cc (pc + 3) = .ok (.dup, 1)) (d4 : decode cc (pc + 4) = .ok (.ldc_w is, 3)) (d7 : decode cc (pc + 7) = .ok (.invokespecial ic, 3)) (d10 : decode cc (pc + 10) = .ok (.athrow, 1))
    (hout : ∀ x ∈ c.exceptionTable.toList, covers x (pc + 10) = false)
    (hRframes : names.length + 3 < R.frames) (hRlocals : (rest.map fun v => v.category).sum + (13 * (names.length + 1) + 43) ≤ R.locals) (hRcells : cells + 1 ≤ R.cells) (hRslots : slots + 6 ≤ R.slots) (hlocks : meth.locks = false)
    (hx : ∀ t : State, s.vm.Alike t.vm → H.size ≤ t.heap.size → (∀ q : Nat, q < H.size → t.heap[q]? = H[q]?) → XC cls s t)
    (hf : ∀ z ∈ locs, free z.base) (hc : cells + 1 ≤ mc) (hs : slots + 6 ≤ ms) :
    W p l e R s m args below meth c H locs cells slots (vx_MQ below Qc XC args s mc ms free) (F0 m pc ls rest) := by
  intro T hT X
  have htr : e.platform.stackTraces = false := (show e.platform.stackTraces = l.stackTraces by rw [X.admits.platform]).trans hl
  have Y := vx_rebase X (R' := { frames := R.frames, locals := R.locals, cells := 1, slots := 6 }) (Nat.le_refl _) (Nat.le_refl _) hRcells hRslots
  obtain ⟨s', hA⟩ : ∃ z, z = (T.setVm s.vm).setFrames (.invoking m args :: below) := ⟨_, rfl⟩
  rw [← hA] at Y
  have hvm : s'.vm = s.vm := by rw [hA]; rfl
  have hhp : s'.heap = H := by rw [hA]; exact hT
  have hW0 : s.WarmedH s'.vm := by rw [hvm]; exact State.WarmedH.refl s
  have hat' : ∀ w ∈ vx_atS own ic cls names, w.before args s' = true := fun w hw => vx_ot_at hW0 hvm.symm (hgood w (List.mem_cons_of_mem _ (List.mem_cons_of_mem _ hw))) (hat w hw)
  have hk' : (Cond.classLink own ik cls).before args s' = true := vx_ot_at hW0 hvm.symm (hgood _ List.mem_cons_self) hk
  have hini' : (Cond.initialized cls).before args s' = true := vx_ot_at hW0 hvm.symm (hgood _ (List.mem_cons_of_mem _ List.mem_cons_self)) hini
  have hU' : vx_Zq Bundle.tN "UNASSIGNED_STACK" Bundle.steD A s' s'.heap := by rw [hhp]; exact vx_Zq.moved hW0.alike (hU.kept hS.2.1)
  have hN' : vx_Zq Bundle.tN "SUPPRESSED_SENTINEL" Bundle.listD A s' s'.heap := by rw [hhp]; exact vx_Zq.moved hW0.alike (hN.kept hS.2.1)
  have h : ∀ w ∈ Bundle.ownAtoms own ic cls names, w.before args s' = true := vx_own hat' (vx_isRefq hU'.1) (vx_isRefq hN'.1) hU'.2.word hN'.2.word
  have hown' : s'.vm.findClass own = some m.cls := by rw [hvm]; exact hown
  have hins : (Cond.instantiable cls 6).before args s' = true := h _ (by simp [Bundle.ownAtoms])
  obtain ⟨vm₁, cX, kX, hfX, hkX, -, -, X₁, st1⟩ := Y.newCold hexec (own := own) (C := cls) (index := ik) (n := 6) hown' hk' hins hini'
    (g := F0 m pc ls rest) rfl (by rw [hb]; exact d0) (Nat.le_refl _) (Nat.le_refl _)
  generalize hT1 : (T.setVm vm₁).pushCell { cls := cX, slots := kX.instanceTypes.map defaultValue, vm := .none } = T1 at X₁ st1
  have hcat : (Value.ref T.heap.size).category = 1 := rfl
  have hcellA : T1.heap[T.heap.size]? = some (freshCell cX kX) := by rw [← hT1]; exact State.heap_pushCell_size _ _
  have d3' : decode c.code (pc + 3) = .ok (.dup, 1) := by rw [hb]; exact d3
  have d4' : decode c.code (pc + 4) = .ok (.ldc_w is, 3) := by rw [hb]; exact d4
  have hstr' : vk_R own is text sa s' := vk_R.warm hW0 hstr
  obtain ⟨U, hsteps, hrun, hend, hW, hsame, ce, hce, hO⟩ := X₁.ctorThrowS hexec htr (own := own) (cls := cls) (names := names) (ic := ic) hown' hcls hnames h (fun x hx => nomatch hx) hfX hkX hcellA (by rw [hhp, hT]; exact Nat.le_refl _) (msg := .ref sa) rfl
    (g := { method := m, pc := pc + 7, locals := ls, stack := .ref sa :: .ref T.heap.size :: .ref T.heap.size :: rest, locked := none }) rfl hsize rfl rfl (rest := rest) rfl
    (by rw [hb]; exact d7) (by rw [hb]; exact d10) hout hRframes (by simp only [List.map_cons, List.sum_cons, hcat]; omega) hlocks
  obtain ⟨f1, f2⟩ := vx_frame hsame
  rw [hhp] at f1 f2
  have hWs : s.WarmedH U.vm := State.WarmedH.trans hW0 hW
  have hcl : s.vm.findClass cls = some ce.cls := by
    have h9 := hO.cls
    rw [hvm] at h9
    exact h9
  have hall : s.sameButNew ({ U with vm := s.vm } : State) locs mc ms := by
    subst hA
    obtain ⟨e1, e2⟩ := hsame
    rw [State.setFrames_setFrames] at e1
    have h2 : (T.setVm s.vm).sameButNew ({ U with vm := s.vm } : State) [] (0 + 1) (0 + 6) := ⟨e1, e2⟩
    have h3 := X.same.trans h2
    rw [List.append_nil] at h3
    exact h3.mono hc hs
  refine ⟨U, ?_, .threw T.heap.size, hrun, hend, Or.inr ⟨T.heap.size, rfl, cls, ce, locs, hx U hWs.alike f1 (fun q hq => f2 q hq (fun z hz => nomatch hz)), hce, hO.vm, hcl, hWs, hall, hf⟩⟩
  refine st1 _ ?_
  show Steps p.tables e below (T1.setTop { method := m, pc := pc + 3, locals := ls, stack := .ref T.heap.size :: rest, locked := none }) _
  jvm_step X₁.here [X₁.here.top, hexec, d3', Value.category]
  exact X₁.ldcStringW hexec (own := own) (text := text) (index := is) (a := sa) hown' hstr'.1 hstr'.2
    (g := { method := m, pc := pc + 4, locals := ls, stack := .ref T.heap.size :: .ref T.heap.size :: rest, locked := none }) rfl d4' _ hsteps
end Ends
section Bodies
variable {l : Launch}
theorem vx_ofW {y : MethodName} {ws ws' : List Cond} {rm : Room} {Pc : Array Value → State → Prop} {Qc : Array Value → State → Outcome → State → Prop} {XC : String → State → State → Prop} {mc ms : Nat} {free : Addr → Prop} {cc : ByteArray} {maxL : Nat} {ret : Option FieldType}
    (hy : plainName y.cls = true) (hw : ws = Cond.code y cc maxL ret :: ws')
    (body : ∀ p e s m args below meth c s₁, BodyLoose p l y (headSpec ws rm) cc maxL ret e s m args below meth c s₁ → c.maxLocals = maxL → (∀ x ∈ c.exceptionTable.toList, False) → Pc args s →
      W p l e (headSpec ws rm).room s m args below meth c s.heap [] 0 0 (vx_MQ below Qc XC args s mc ms free) (entryFrame m args maxL)) : vx_Met l y ws rm Pc Qc XC mc ms free := by
  refine MetFree.of_bodyS (code := cc) (maxLocals := maxL) (ret := ret) hy ?_ ?_
  · intro args s m h hn
    obtain ⟨meth, c, h1, h2, h3, h4, h5, h6, -, -⟩ := Cond.code_spec hn (atoms_spec (ws := ws) h _ (by rw [hw]; exact List.mem_cons_self))
    exact ⟨meth, c, h1, h2, h3, h4, h5, h6⟩
  · intro p e s m args below meth c s₁ B hml hP _
    have hh0 : s₁.heap = s.heap := by rw [B.state]; rfl
    have ht : ∀ x ∈ c.exceptionTable.toList, False := by
      obtain ⟨meth9, c9, h1, h2, -, -, -, -, h7, -⟩ := Cond.code_spec B.named (atoms_spec (ws := ws) B.pre _ (by rw [hw]; exact List.mem_cons_self))
      cases Option.some.inj (h1.symm.trans B.method)
      cases Option.some.inj (h2.symm.trans (Stand.of_body B).code)
      intro x hx
      rw [Array.isEmpty_iff.mp h7] at hx
      cases hx
    obtain ⟨t, a1, o, b1, b2, b3⟩ := body p e s m args below meth c s₁ B hml ht hP s₁ hh0 (Stand.of_body B)
    exact ⟨t, o, a1, b1, b2, b3⟩
/-- the table of a body with handlers -/
theorem vx_table {p : Program} {x y : MethodName} {S : Spec} {cc bytes : ByteArray} {maxL maxL' : Nat} {ret ret' : Option FieldType} {e : Env} {s s₁ : State} {m : MethodId} {args : Array Value} {below : List Frame} {meth : Method} {c : Code} {hh : List (Nat × Nat × Nat × Nat)}
    (B : BodyLoose p l y S cc maxL ret e s m args below meth c s₁) (h : (Cond.codeWith y bytes maxL' ret' hh).before args s = true) : c.exceptionTable.toList = tableOf hh := by
  obtain ⟨m9, meth9, c9, hn9, h1, h2, -, -, h6, -⟩ := Cond.codeWith_spec h
  cases Option.some.inj (hn9.symm.trans B.named)
  cases Option.some.inj (h1.symm.trans B.method)
  cases Option.some.inj (h2.symm.trans (Stand.of_body B).code)
  rw [← h6, table_eq]
end Bodies
end VXA
/-! ===== END ===== -/
/-! ===== BEGIN a static call of a method with an exception table ===== -/
section VXS
variable {p : Program} {l : Launch} {e : Env} {R : Room} {s : State} {m : MethodId} {args : Array Value} {below : List Frame} {meth : Method} {c : Code} {T : State} {H : Heap} {locs : List Loc} {cells slots : Nat}
abbrev vx_CSW (R : Room) (s : State) (args : Array Value) (own : String) (index : Nat) (y : MethodName) (bytes : ByteArray) (maxL : Nat) (ret : Option FieldType) (hh : List (Nat × Nat × Nat × Nat)) (ws : List Cond) (rm : Room) (mc ms n : Nat) : Prop :=
  (rm.cells = mc ∧ rm.slots = ms ∧ rm.frames + 1 ≤ R.frames ∧ 8 + (maxL + 11) + rm.locals ≤ R.locals ∧ (∀ w ∈ ws, ∀ (a' : Array Value) (U : State), s.WarmedH U.vm → w.before a' U = true) ∧ Cond.codeWith y bytes maxL ret hh ∈ ws) ∧
  (Cond.codeWith y bytes maxL ret hh).before args s = true ∧ (Cond.initialized y.cls).before args s = true ∧ (y.cls ≠ "java/lang/invoke/MethodHandle" ∧ y.cls ≠ "java/lang/invoke/VarHandle") ∧
  (∀ sig, parseMethodDescriptor y.desc = some sig → n = sig.parameters.length) ∧ (Cond.methodLink own index y).before args s = true ∧ (Cond.static y).before args s = true
theorem vx_cwSW {own : String} {index maxL mc ms : Nat} {y : MethodName} {bytes : ByteArray} {ret : Option FieldType} {hh : List (Nat × Nat × Nat × Nat)} {Ts ws ws' : List Cond} {rm : Room} (n : Nat) (ht : ∀ w ∈ Ts, w.before args s = true) (hT : GoodIn Ts (va_wsS own index y ws)) (hw : ws = Cond.codeWith y bytes maxL ret hh :: ws') (hrc : rm.cells = mc) (hrs : rm.slots = ms)
    (hd : y.cls ≠ "java/lang/invoke/MethodHandle" ∧ y.cls ≠ "java/lang/invoke/VarHandle" ∧ (parseMethodDescriptor y.desc).map (fun d => d.parameters.length) = some n) (hR : rm.frames + 1 ≤ R.frames ∧ 8 + (maxL + 11) + rm.locals ≤ R.locals) :
    vx_CSW R s args own index y bytes maxL ret hh ws rm mc ms n := by
  have ok : ∀ w ∈ va_wsS own index y ws, w.before args s = true := fun w h => ht w (hT w h).1
  have hG : GoodIn Ts ws := fun w h => hT w (by unfold va_wsS; exact List.mem_append_right _ h)
  have hc : Cond.codeWith y bytes maxL ret hh ∈ ws := by rw [hw]; exact List.mem_cons_self
  refine ⟨⟨hrc, hrs, hR.1, hR.2, pay_in ht hG, hc⟩, ht _ (hG _ hc).1, ok _ (by simp [va_wsS]), ⟨hd.1, hd.2.1⟩, fun sig h => ?_, ok _ (by simp [va_wsS]), ok _ (by simp [va_wsS])⟩
  have h2 := hd.2.2
  rw [h] at h2
  exact (Option.some.inj h2).symm
theorem vx_callSW (X : Stand p l e R s m args below meth c T locs cells slots) (hexec : p.tables.exec = Jvm.exec) {own : String} {index : Nat} {y : MethodName} {bytes : ByteArray} {maxL : Nat} {ret : Option FieldType} {hh : List (Nat × Nat × Nat × Nat)}
    (hown : s.vm.findClass own = some m.cls) (hlink : (Cond.methodLink own index y).before args s = true) (hstat : (Cond.static y).before args s = true) (hinit : (Cond.initialized y.cls).before args s = true)
    (hcode : (Cond.codeWith y bytes maxL ret hh).before args s = true) (hy : y.cls ≠ "java/lang/invoke/MethodHandle" ∧ y.cls ≠ "java/lang/invoke/VarHandle")
    {W9 : Nat} {Pre : Pt → Array Value → Prop} {Post : Pt → Array Value → Option Value → Pt → Prop} (hK : Back l R p e below s args y 3 W9 Pre Post)
    {g : JFrame} (hg : g.method = m) (hsize : g.locals.size = c.maxLocals) {argsL rest : List Value} (hlen : ∀ sig, parseMethodDescriptor y.desc = some sig → argsL.length = sig.parameters.length)
    (hstack : g.stack = argsL.reverse ++ rest) (hW : 2 * g.monitorRoom + (rest.map fun v => v.category).sum ≤ W9) (hdg : decode c.code g.pc = .ok (.invokestatic index, 3))
    (hpre : ∀ vm₁, s.WarmedH vm₁ → Pre ⟨T.setVm vm₁, locs, cells, slots⟩ argsL.toArray) :
    ∃ (v : Option Value) (vm₁ : Vm) (B : Pt), s.WarmedH vm₁ ∧ Stand p l e R s m args below meth c B.U B.locs B.cells B.slots ∧ Post ⟨T.setVm vm₁, locs, cells, slots⟩ argsL.toArray v B ∧
      ∀ target, Steps p.tables e below (B.U.setTop { g with pc := g.pc + 3, stack := v.toList ++ rest }) target → Steps p.tables e below (T.setTop g) target := by
  obtain ⟨mk, methM, cM, hnamed, hmethM, -, -, -, -, -, -, hsigM⟩ := Cond.codeWith_spec hcode
  have hstatic : methM.isStatic = true := Cond.static_spec hnamed hmethM hstat
  obtain ⟨kP, hkP, -⟩ := className_of_methodNamed hnamed
  have hinitP : kP.init = .initialized := Cond.initialized_spec (findClass_of_methodNamed hnamed) hkP hinit
  obtain ⟨vm₁, X₁, hstep₁⟩ := X.invokestatic hexec hown hlink hnamed hmethM hstatic hkP hinitP hy (g := g) hg (argsL := argsL) (rest := rest) (hlen _ hsigM) hstack hdg
  obtain ⟨v, B, X', hpost, hsteps⟩ := hK m meth c ⟨T.setVm vm₁, locs, cells, slots⟩ { g with stack := rest } (.invokestatic index) mk argsL.toArray X₁ hg hsize hdg hW (X₁.named hnamed) (hpre vm₁ X₁.warmed)
  exact ⟨v, vm₁, B, X₁.warmed, X', hpost, fun target h => hstep₁ _ fun acts => by rw [doInvoke_state]; exact hsteps.trans h⟩
theorem vx_runSW {y : MethodName} {bytes cc : ByteArray} {maxL nL mc ms n index : Nat} {ret : Option FieldType} {hh : List (Nat × Nat × Nat × Nat)} {ws : List Cond} {rm : Room} {Pc : Array Value → State → Prop} {Qc : Array Value → State → Outcome → State → Prop} {free : Addr → Prop} {Ts : List Cond} {own : String} {As rest : List Value} {g : JFrame}
    (S : CallFix p m c cc nL s args Ts own) (hM : Met l y ws rm Pc Qc mc ms free) (cw : vx_CSW R s args own index y bytes maxL ret hh ws rm mc ms n) (hp : PreS s H Pc As)
    (hg : g.method = m) (hn : As.length = n) (hsize : g.locals.size = nL) (hstack : g.stack = As.reverse ++ rest) (hW : 2 * g.monitorRoom + (rest.map fun v => v.category).sum ≤ 8) (hdg : decode cc g.pc = .ok (.invokestatic index, 3)) (hf : cells + mc ≤ R.cells ∧ slots + ms ≤ R.slots) :
    va_Run p l e R s m args below meth c H locs cells slots mc ms g rest (Qc As.toArray) (free) := by
  obtain ⟨⟨hrc, hrs, hfr, hlo, hws, hcw⟩, hcode, hini, hy, hlen, hl, hstt⟩ := cw
  have hK : Back l R p e below s args y 3 8 (PreOf R mc ms Pc) (PostOf Qc mc ms free) := va_backW (hh := hh) (bytes := bytes) (maxL := maxL) (ret := ret) hM hp.1 hrc hrs hfr hlo hws hcw (fun a' U hW => word_at hW (Or.inl (by first | rfl | simp [Cond.onTables, Cond.keeps, Cond.steady])) hini)
  obtain ⟨hx, hb, hml, ho, -⟩ := S
  intro T hT X
  obtain ⟨v, vm₁, ⟨U', l2, c2, s2⟩, hW₁, X', ⟨g', mk, t, L, e1, e2, hq, h1, hL, h2, h3⟩, st⟩ := vx_callSW X hx (hh := hh) (bytes := bytes) (maxL := maxL) (ret := ret) ho hl hstt hini hcode hy hK hg (hsize.trans hml.symm) (argsL := As) (rest := rest) (fun sig h => hn.trans (hlen sig h)) hstack hW (by rw [hb]; exact hdg)
    (fun vm₁ hW₁ => ⟨hf.1, hf.2, hp.2 (T.setVm vm₁) hT hW₁⟩)
  dsimp only [Pt.U, Pt.locs, Pt.cells, Pt.slots] at X' e1 e2 h1 h2 h3 st
  subst h1; subst h2; subst h3
  exact ⟨v, (T.setVm vm₁).calling g' mk As.toArray, t, U', L, hT, X', hL, e1, e2, hq, st⟩
/-- not caught here, past rows that name other classes: it goes on to the caller -/
theorem vx_outP {p : Program} {l : Launch} {e : Env} {R : Room} {s : State} {m : MethodId} {args : Array Value} {below : List Frame} {meth : Method} {c : Code} {H : Heap} {locs : List Loc} {cells slots : Nat} {free : Addr → Prop} {ls : Array Slot} {rest : List Value} {Qc : Array Value → State → Outcome → State → Prop} {XC : String → State → State → Prop}
    {pc : Nat} {own E : String} {ce : Cell} {q : Addr} {mc ms : Nat} (hown : s.vm.findClass own = some m.cls) (hlocks : meth.locks = false)
    (hpass : ∀ z ∈ c.exceptionTable.toList, covers z pc = false ∨ (z.catchType ≠ 0 ∧ ∃ nm : String, (Cond.classLink own z.catchType nm).before args s = true ∧ va_Nc E nm s)) (hcell : H[q]? = some ce) (hv : ce.vm = .none) (hcl : s.vm.findClass E = some ce.cls)
    (hx : ∀ t : State, t.heap = H → s.vm.Alike t.vm → XC E s t) (hf : ∀ z ∈ locs, free z.base) (hc : cells ≤ mc) (hs : slots ≤ ms) :
    vx_W p l e R s m args below meth c H locs cells slots (vx_MQ below Qc XC args s mc ms free) (F0 m pc ls rest) q := by
  intro T hT X
  have hpl : e.platform.magicAccessors = ({} : Platform).magicAccessors := by rw [X.admits.platform]
  obtain ⟨vm', hW', X', st⟩ := X.outThrough hlocks q (g := F0 m pc ls rest) rfl rfl rfl (cell := ce) (by rw [hT]; exact hcell) (by rw [hv]; rfl)
    (by obtain ⟨k9, h9, -⟩ := Vm.findClass_spec hcl; exact ⟨k9, h9⟩) (fun z hz => by
      rcases hpass z hz with h | ⟨hz0, nm, hl1, hn1⟩
      · exact Or.inl h
      · obtain ⟨c6, hc6, hcl6⟩ := Cond.classLink_spec hown hl1 e.platform hpl
        obtain ⟨a8, b8, h1, h2, h3⟩ := hn1
        cases Option.some.inj (h1.symm.trans hcl)
        cases Option.some.inj (h2.symm.trans hc6)
        exact Or.inr ⟨hz0, _, hcl6, h3⟩)
  obtain ⟨g₀, hfr⟩ := X'.frames_eq
  have hcell9 : ((T.setVm vm').setFrames (.throwing q :: below)).heap[q]? = some ce := by
    show T.heap[q]? = some ce
    rw [hT]; exact hcell
  have hend : Ended ((T.setVm vm').setFrames (.throwing q :: below)) below (.threw q) := State.frames_setFrames _ (State.cur_lt_of_frames hfr)
  refine ⟨(T.setVm vm').setFrames (.throwing q :: below), ?_, .threw q, X'.here.running, hend, Or.inr ⟨q, rfl, E, ce, locs, hx _ hT (X'.ends _).1.alike, hcell9, hv, hcl, (X'.ends _).1, (X'.ends _).2.mono hc hs, hf⟩⟩
  rw [X.pushThrowing_eq]
  exact st
/-- a thing of a world lies in the heap -/
theorem vx_lt {D : va_G} {cl : List vw_C} {ws : va_W} {H1 : Heap} (h : va_P D cl ws H1) {k : Nat} {q : Nat × va_E} (hk : ws[k]? = some q) : q.1 < H1.size := (h k q hk).lt
end VXS
/-! ===== END ===== -/
/-! ===== BEGIN methods with a table of their own: called by a name, returning or throwing ===== -/
section VXH
/-! vx_backW, vx_callVX, vx_callSX, vx_callVW, vx_runVW, vx_runVX, vx_runSX, vx_ofWH follow the same proofs as their sisters above (Free/Laws.lean, Shelf42/LK1.lean); vx_outP calls Shelf42/NT130.lean (outThrough). -/
section
variable {l : Launch} {R : Room} {p : Program} {e : Env} {below : List Frame} {s : State} {sargs : Array Value} {y : MethodName} {len W9 : Nat}
theorem vx_backW {ws : List Cond} {rm : Room} {Pc : Array Value → State → Prop} {Qc : Array Value → State → Outcome → State → Prop} {XC : String → State → State → Prop} {mc ms : Nat} {free : Addr → Prop} {bytes : ByteArray} {maxL : Nat} {ret : Option FieldType} {hh : List (Nat × Nat × Nat × Nat)}
    (hM : vx_Met l y ws rm Pc Qc XC mc ms free) (hblind : FrameBlind Pc) (hrc : rm.cells = mc) (hrs : rm.slots = ms)
    (hframes : rm.frames + 1 ≤ R.frames) (hlocals : W9 + (maxL + 11) + rm.locals ≤ R.locals)
    (hws : ∀ w ∈ ws, ∀ a' U, s.WarmedH U.vm → w.before a' U = true) (hcode : Cond.codeWith y bytes maxL ret hh ∈ ws) (hinit : ∀ a' U, s.WarmedH U.vm → (Cond.initialized y.cls).before a' U = true) :
    vx_Back l R p e below s sargs y len W9 (PreOf R mc ms Pc) (PostOf Qc mc ms free) (vx_Post XC mc ms free) := by
  intro m meth c A g ig mk a X hg hsize hdg hW hn hp
  have h1 : (headSpec ws rm).pre.before a A.U = true := atoms_intro fun w hw => hws w hw _ _ X.warmed
  have h2 : (Cond.codeWith y bytes maxL ret hh).before a A.U = true := hws _ hcode _ _ X.warmed
  have h3 : (Cond.initialized y.cls).before a A.U = true := hinit _ _ X.warmed
  have h4 : A.cells + (headSpec ws rm).room.cells ≤ R.cells := by rw [show (headSpec ws rm).room.cells = mc from hrc]; exact hp.1
  have h5 : A.slots + (headSpec ws rm).room.slots ≤ R.slots := by rw [show (headSpec ws rm).room.slots = ms from hrs]; exact hp.2.1
  have hPc : Pc a (A.U.calling g mk a) := hblind _ _ _ _ hp.2.2
  obtain ⟨U, Ls, c0, s0⟩ := A
  dsimp only [Pt.U, Pt.locs, Pt.cells, Pt.slots] at h1 h2 h3 h4 h5 X hn hPc ⊢
  obtain ⟨m9, methY, cY, hn9, hmY, hcY, -, hlY, -⟩ := Cond.codeWith_spec h2
  cases Option.some.inj (hn9.symm.trans hn)
  obtain ⟨kY, hkY, -⟩ := className_of_methodNamed hn
  have hinitY : kY.init = .initialized := Cond.initialized_spec (findClass_of_methodNamed hn) hkY h3
  have h : At U g.method c below := by rw [hg]; exact X.here
  have hlocals9 : W9 + (maxL + 11) + (headSpec ws rm).room.locals ≤ R.locals := hlocals
  have happ : (headSpec ws rm).appliesLoose y e.platform (U.calling g mk a) = true :=
    Spec.appliesLoose_calling (g := g) h hdg hn hkY hinitY
      (X.room_calling (g := g) (R' := (headSpec ws rm).room) hsize hmY hcY hframes (by rw [hlY]; omega) h4 h5) h1
  obtain ⟨mid, hmid⟩ := h.above
  have hfr : (U.setTop g).frames = (.java g :: mid) ++ below := by rw [State.frames_setTop' g h.top, hmid]; rfl
  obtain ⟨o, s₂, hsteps, -, hend, hq⟩ := Steps.callFree hM p X.admits X.cas X.clock (acts := []) hfr happ hPc trivial
  have hq' : vx_Q Qc XC mc ms free a (U.calling g mk a) o s₂ := hq
  rw [State.frames_setTop' g h.top] at hend
  obtain ⟨g₀, hg0⟩ := Option.isSome_iff_exists.mp h.top
  obtain ⟨r, hr⟩ := State.topJava?_eq_some.mp hg0
  have hr' : (({ U with heap := s₂.heap, slotsUsed := s₂.slotsUsed } : State).setVm s₂.vm).frames = .java g₀ :: r := hr
  rcases hq' with ⟨hqc, L, hfe, hL⟩ | ⟨q, rfl, E, ce, L, hx, hce, hcv, hcl, hW₂, hsm, hL⟩
  · obtain ⟨⟨v, rfl⟩, hW₂, e2, q2, q3, q4, q5, q6⟩ := id hfe
    have e3 : s₂ = ({ (U.calling g mk a).setFrames s₂.frames with heap := s₂.heap, slotsUsed := s₂.slotsUsed } : State).setVm s₂.vm := by
      have : s₂ = ({ s₂ with vm := (U.calling g mk a).vm } : State).setVm s₂.vm := rfl
      rw [e2] at this
      exact this
    obtain ⟨c₂, i₂, len₂, hc₂, hd₂, hf₂⟩ := hend
    have hW' : U.WarmedH s₂.vm := hW₂
    have hcc : c₂ = c := by
      have h1 : s₂.code? g.method = U.code? g.method := by
        rw [State.code?_eq, State.code?_eq, hW'.alike.method?]
      exact Option.some.inj (hc₂.symm.trans (h1.trans h.code))
    subst hcc
    have hlen : len₂ = len := by rw [hdg] at hd₂; cases hd₂; rfl
    subst hlen
    have hs₂ : s₂ = (({ U with heap := s₂.heap, slotsUsed := s₂.slotsUsed } : State).setVm s₂.vm).setTop { g with pc := g.pc + len₂, stack := v.toList ++ g.stack } := by
      refine e3.trans ?_
      rw [hf₂, State.calling_eq h.top, State.setFrames_setFrames, State.setTop_of_frames _ hr', hr]
      rfl
    have hsame : U.sameButNew ({ U with heap := s₂.heap, slotsUsed := s₂.slotsUsed } : State) L mc ms := by
      refine ⟨?_, q2, q3, q4, q5, q6⟩
      obtain ⟨t, ht, -⟩ := State.frames_cons hr
      show ({ U with heap := s₂.heap, slotsUsed := s₂.slotsUsed } : State) = { U.setFrames U.frames with heap := s₂.heap, slotsUsed := s₂.slotsUsed }
      rw [State.setFrames_self ht]
    subst hg
    refine Or.inl ⟨v, ⟨(({ U with heap := s₂.heap, slotsUsed := s₂.slotsUsed } : State).setVm s₂.vm), Ls ++ L, c0 + mc, s0 + ms⟩,
      ⟨X.admits, X.cas, X.clock, X.frames, X.room, X.hears, X.method, X.code, (X.here.setHeapUsed s₂.heap s₂.slotsUsed).setVm hW'.alike, X.tail, State.WarmedH.trans X.warmed hW', X.limits, X.bytes, X.same.trans (hsame.setVm s.vm)⟩,
      ⟨g, mk, s₂, L, rfl, rfl, hqc, rfl, hL, rfl, rfl⟩, ?_⟩
    show Steps p.tables e below _ ((({ U with heap := s₂.heap, slotsUsed := s₂.slotsUsed } : State).setVm s₂.vm).setTop { g with pc := g.pc + len₂, stack := v.toList ++ g.stack })
    rw [← hs₂]
    exact hsteps
  · obtain ⟨e2, q2, q3, q4, q5, q6⟩ := id hsm
    have e3 : s₂ = ({ (U.calling g mk a).setFrames s₂.frames with heap := s₂.heap, slotsUsed := s₂.slotsUsed } : State).setVm s₂.vm := by
      have : s₂ = ({ s₂ with vm := (U.calling g mk a).vm } : State).setVm s₂.vm := rfl
      rw [e2] at this
      exact this
    have hf₂ : s₂.frames = .throwing q :: .java g :: U.frames.tail := hend
    have hW' : U.WarmedH s₂.vm := hW₂
    have hs₂ : s₂ = ((({ U with heap := s₂.heap, slotsUsed := s₂.slotsUsed } : State).setVm s₂.vm).setTop g).pushFrame (.throwing q) := by
      refine e3.trans ?_
      rw [hf₂, State.calling_eq h.top, State.setFrames_setFrames, State.pushFrame, State.frames_setTop _ hr', State.setTop_of_frames _ hr', State.setFrames_setFrames, hr]
      rfl
    have hsame : U.sameButNew ({ U with heap := s₂.heap, slotsUsed := s₂.slotsUsed } : State) L mc ms := by
      refine ⟨?_, q2, q3, q4, q5, q6⟩
      obtain ⟨t, ht, -⟩ := State.frames_cons hr
      show ({ U with heap := s₂.heap, slotsUsed := s₂.slotsUsed } : State) = { U.setFrames U.frames with heap := s₂.heap, slotsUsed := s₂.slotsUsed }
      rw [State.setFrames_self ht]
    subst hg
    refine Or.inr ⟨q, ⟨(({ U with heap := s₂.heap, slotsUsed := s₂.slotsUsed } : State).setVm s₂.vm), Ls ++ L, c0 + mc, s0 + ms⟩,
      ⟨X.admits, X.cas, X.clock, X.frames, X.room, X.hears, X.method, X.code, (X.here.setHeapUsed s₂.heap s₂.slotsUsed).setVm hW'.alike, X.tail, State.WarmedH.trans X.warmed hW', X.limits, X.bytes, X.same.trans (hsame.setVm s.vm)⟩,
      ⟨g, mk, s₂, L, E, ce, rfl, rfl, hx, hce, hcv, hcl, rfl, hL, rfl, rfl⟩, ?_⟩
    show Steps p.tables e below _ (((({ U with heap := s₂.heap, slotsUsed := s₂.slotsUsed } : State).setVm s₂.vm).setTop g).pushFrame (.throwing q))
    rw [← hs₂]
    exact hsteps
end
variable {p : Program} {l : Launch} {e : Env} {R : Room} {s : State} {m : MethodId} {args : Array Value} {below : List Frame} {meth : Method} {c : Code} {T : State} {H : Heap} {locs : List Loc} {cells slots : Nat}
theorem vx_callVX (X : Stand p l e R s m args below meth c T locs cells slots) (hexec : p.tables.exec = Jvm.exec) {own C : String} {index : Nat} {y : MethodName} {bytes : ByteArray} {maxL : Nat} {ret : Option FieldType} {hh : List (Nat × Nat × Nat × Nat)}
    (hown : s.vm.findClass own = some m.cls) (hlink : (Cond.methodLink own index y).before args s = true) (hinst : (Cond.instanceMethod y).before args s = true) (hsel : (Cond.selects C y y).before args s = true)
    (hcode : (Cond.codeWith y bytes maxL ret hh).before args s = true) (hy : y.cls ≠ "java/lang/invoke/MethodHandle" ∧ y.cls ≠ "java/lang/invoke/VarHandle")
    {W9 : Nat} {Pre : Pt → Array Value → Prop} {Post : Pt → Array Value → Option Value → Pt → Prop} {PostX : Pt → Array Value → Addr → Pt → Prop} (hK : vx_Back l R p e below s args y 3 W9 Pre Post PostX)
    {b : Addr} {cellB : Cell} (hcell : T.heap[b]? = some cellB) (hobj : cellB.vm.isStatics = false) (hcls : s.vm.findClass C = some cellB.cls)
    {g : JFrame} (hg : g.method = m) (hsize : g.locals.size = c.maxLocals) {argsL rest : List Value} (hlen : ∀ sig, parseMethodDescriptor y.desc = some sig → argsL.length = sig.parameters.length)
    (hstack : g.stack = argsL.reverse ++ .ref b :: rest) (hW : 2 * g.monitorRoom + (rest.map fun v => v.category).sum ≤ W9) (hdg : decode c.code g.pc = .ok (.invokevirtual index, 3))
    (hpre : ∀ vm₁, s.WarmedH vm₁ → Pre ⟨T.setVm vm₁, locs, cells, slots⟩ (Value.ref b :: argsL).toArray) :
    (∃ (v : Option Value) (vm₁ : Vm) (B : Pt), s.WarmedH vm₁ ∧ Stand p l e R s m args below meth c B.U B.locs B.cells B.slots ∧ Post ⟨T.setVm vm₁, locs, cells, slots⟩ (Value.ref b :: argsL).toArray v B ∧
      ∀ target, Steps p.tables e below (B.U.setTop { g with pc := g.pc + 3, stack := v.toList ++ rest }) target → Steps p.tables e below (T.setTop g) target) ∨
    (∃ (q : Addr) (vm₁ : Vm) (B : Pt), s.WarmedH vm₁ ∧ Stand p l e R s m args below meth c B.U B.locs B.cells B.slots ∧ PostX ⟨T.setVm vm₁, locs, cells, slots⟩ (Value.ref b :: argsL).toArray q B ∧
      Steps p.tables e below (T.setTop g) ((B.U.setTop { g with stack := rest }).pushFrame (.throwing q))) := by
  obtain ⟨mk, methM, hnamed, hmethM, hstM, habM⟩ := Cond.instanceMethod_spec hinst
  obtain ⟨m8, methM', cM, hn8, hmethM', -, -, -, -, -, -, hsigM⟩ := Cond.codeWith_spec hcode
  cases Option.some.inj (hn8.symm.trans hnamed)
  cases hmethM.symm.trans hmethM'
  obtain ⟨c2, r2, m2, q1, q2, q3, q4, kP, hkP, hkPi⟩ := Cond.selects_spec hsel
  cases hcls.symm.trans q1
  cases (State.methodFound?_of_named hnamed hy).symm.trans q2
  cases hnamed.symm.trans q3
  have hselP : selectMethod e.platform s.vm cellB.cls mk = .method mk := by rw [Launch.admits_selectMethod X.admits]; exact q4
  obtain ⟨vm₁, X₁, hstep₁⟩ := X.invokevirtual hexec hown hlink hnamed hmethM hstM hkP hkPi hy (a := b) (cell := cellB) hcell
    (fun z h => by rw [h] at hobj; cases hobj) hselP hmethM habM hkP hkPi (g := g) hg (argsL := argsL) (rest := rest) (hlen _ hsigM) hstack hdg
  rcases hK m meth c ⟨T.setVm vm₁, locs, cells, slots⟩ { g with stack := rest } (.invokevirtual index) mk (Value.ref b :: argsL).toArray X₁ hg hsize hdg hW (X₁.named hnamed) (hpre vm₁ X₁.warmed) with ⟨v, B, X', hpost, hsteps⟩ | ⟨q, B, X', hpost, hsteps⟩
  · exact Or.inl ⟨v, vm₁, B, X₁.warmed, X', hpost, fun target h => hstep₁ _ fun acts => by rw [doInvoke_state]; exact hsteps.trans h⟩
  · exact Or.inr ⟨q, vm₁, B, X₁.warmed, X', hpost, hstep₁ _ fun acts => by rw [doInvoke_state]; exact hsteps⟩
theorem vx_callSX (X : Stand p l e R s m args below meth c T locs cells slots) (hexec : p.tables.exec = Jvm.exec) {own : String} {index : Nat} {y : MethodName} {bytes : ByteArray} {maxL : Nat} {ret : Option FieldType} {hh : List (Nat × Nat × Nat × Nat)}
    (hown : s.vm.findClass own = some m.cls) (hlink : (Cond.methodLink own index y).before args s = true) (hstat : (Cond.static y).before args s = true) (hinit : (Cond.initialized y.cls).before args s = true)
    (hcode : (Cond.codeWith y bytes maxL ret hh).before args s = true) (hy : y.cls ≠ "java/lang/invoke/MethodHandle" ∧ y.cls ≠ "java/lang/invoke/VarHandle")
    {W9 : Nat} {Pre : Pt → Array Value → Prop} {Post : Pt → Array Value → Option Value → Pt → Prop} {PostX : Pt → Array Value → Addr → Pt → Prop} (hK : vx_Back l R p e below s args y 3 W9 Pre Post PostX)
    {g : JFrame} (hg : g.method = m) (hsize : g.locals.size = c.maxLocals) {argsL rest : List Value} (hlen : ∀ sig, parseMethodDescriptor y.desc = some sig → argsL.length = sig.parameters.length)
    (hstack : g.stack = argsL.reverse ++ rest) (hW : 2 * g.monitorRoom + (rest.map fun v => v.category).sum ≤ W9) (hdg : decode c.code g.pc = .ok (.invokestatic index, 3))
    (hpre : ∀ vm₁, s.WarmedH vm₁ → Pre ⟨T.setVm vm₁, locs, cells, slots⟩ argsL.toArray) :
    (∃ (v : Option Value) (vm₁ : Vm) (B : Pt), s.WarmedH vm₁ ∧ Stand p l e R s m args below meth c B.U B.locs B.cells B.slots ∧ Post ⟨T.setVm vm₁, locs, cells, slots⟩ argsL.toArray v B ∧
      ∀ target, Steps p.tables e below (B.U.setTop { g with pc := g.pc + 3, stack := v.toList ++ rest }) target → Steps p.tables e below (T.setTop g) target) ∨
    (∃ (q : Addr) (vm₁ : Vm) (B : Pt), s.WarmedH vm₁ ∧ Stand p l e R s m args below meth c B.U B.locs B.cells B.slots ∧ PostX ⟨T.setVm vm₁, locs, cells, slots⟩ argsL.toArray q B ∧
      Steps p.tables e below (T.setTop g) ((B.U.setTop { g with stack := rest }).pushFrame (.throwing q))) := by
  obtain ⟨mk, methM, cM, hnamed, hmethM, -, -, -, -, -, -, hsigM⟩ := Cond.codeWith_spec hcode
  have hstatic : methM.isStatic = true := Cond.static_spec hnamed hmethM hstat
  obtain ⟨kP, hkP, -⟩ := className_of_methodNamed hnamed
  have hinitP : kP.init = .initialized := Cond.initialized_spec (findClass_of_methodNamed hnamed) hkP hinit
  obtain ⟨vm₁, X₁, hstep₁⟩ := X.invokestatic hexec hown hlink hnamed hmethM hstatic hkP hinitP hy (g := g) hg (argsL := argsL) (rest := rest) (hlen _ hsigM) hstack hdg
  rcases hK m meth c ⟨T.setVm vm₁, locs, cells, slots⟩ { g with stack := rest } (.invokestatic index) mk argsL.toArray X₁ hg hsize hdg hW (X₁.named hnamed) (hpre vm₁ X₁.warmed) with ⟨v, B, X', hpost, hsteps⟩ | ⟨q, B, X', hpost, hsteps⟩
  · exact Or.inl ⟨v, vm₁, B, X₁.warmed, X', hpost, fun target h => hstep₁ _ fun acts => by rw [doInvoke_state]; exact hsteps.trans h⟩
  · exact Or.inr ⟨q, vm₁, B, X₁.warmed, X', hpost, hstep₁ _ fun acts => by rw [doInvoke_state]; exact hsteps⟩
theorem vx_callVW (X : Stand p l e R s m args below meth c T locs cells slots) (hexec : p.tables.exec = Jvm.exec) {own C : String} {index : Nat} {y : MethodName} {bytes : ByteArray} {maxL : Nat} {ret : Option FieldType} {hh : List (Nat × Nat × Nat × Nat)}
    (hown : s.vm.findClass own = some m.cls) (hlink : (Cond.methodLink own index y).before args s = true) (hinst : (Cond.instanceMethod y).before args s = true) (hsel : (Cond.selects C y y).before args s = true)
    (hcode : (Cond.codeWith y bytes maxL ret hh).before args s = true) (hy : y.cls ≠ "java/lang/invoke/MethodHandle" ∧ y.cls ≠ "java/lang/invoke/VarHandle")
    {W9 : Nat} {Pre : Pt → Array Value → Prop} {Post : Pt → Array Value → Option Value → Pt → Prop} (hK : Back l R p e below s args y 3 W9 Pre Post)
    {b : Addr} {cellB : Cell} (hcell : T.heap[b]? = some cellB) (hobj : cellB.vm.isStatics = false) (hcls : s.vm.findClass C = some cellB.cls)
    {g : JFrame} (hg : g.method = m) (hsize : g.locals.size = c.maxLocals) {argsL rest : List Value} (hlen : ∀ sig, parseMethodDescriptor y.desc = some sig → argsL.length = sig.parameters.length)
    (hstack : g.stack = argsL.reverse ++ .ref b :: rest) (hW : 2 * g.monitorRoom + (rest.map fun v => v.category).sum ≤ W9) (hdg : decode c.code g.pc = .ok (.invokevirtual index, 3))
    (hpre : ∀ vm₁, s.WarmedH vm₁ → Pre ⟨T.setVm vm₁, locs, cells, slots⟩ (Value.ref b :: argsL).toArray) :
    ∃ (v : Option Value) (vm₁ : Vm) (B : Pt), s.WarmedH vm₁ ∧ Stand p l e R s m args below meth c B.U B.locs B.cells B.slots ∧ Post ⟨T.setVm vm₁, locs, cells, slots⟩ (Value.ref b :: argsL).toArray v B ∧
      ∀ target, Steps p.tables e below (B.U.setTop { g with pc := g.pc + 3, stack := v.toList ++ rest }) target → Steps p.tables e below (T.setTop g) target := by
  obtain ⟨mk, methM, hnamed, hmethM, hstM, habM⟩ := Cond.instanceMethod_spec hinst
  obtain ⟨m8, methM', cM, hn8, hmethM', -, -, -, -, -, -, hsigM⟩ := Cond.codeWith_spec hcode
  cases Option.some.inj (hn8.symm.trans hnamed)
  cases hmethM.symm.trans hmethM'
  obtain ⟨c2, r2, m2, q1, q2, q3, q4, kP, hkP, hkPi⟩ := Cond.selects_spec hsel
  cases hcls.symm.trans q1
  cases (State.methodFound?_of_named hnamed hy).symm.trans q2
  cases hnamed.symm.trans q3
  have hselP : selectMethod e.platform s.vm cellB.cls mk = .method mk := by rw [Launch.admits_selectMethod X.admits]; exact q4
  obtain ⟨vm₁, X₁, hstep₁⟩ := X.invokevirtual hexec hown hlink hnamed hmethM hstM hkP hkPi hy (a := b) (cell := cellB) hcell
    (fun z h => by rw [h] at hobj; cases hobj) hselP hmethM habM hkP hkPi (g := g) hg (argsL := argsL) (rest := rest) (hlen _ hsigM) hstack hdg
  obtain ⟨v, B, X', hpost, hsteps⟩ := hK m meth c ⟨T.setVm vm₁, locs, cells, slots⟩ { g with stack := rest } (.invokevirtual index) mk (Value.ref b :: argsL).toArray X₁ hg hsize hdg hW (X₁.named hnamed) (hpre vm₁ X₁.warmed)
  exact ⟨v, vm₁, B, X₁.warmed, X', hpost, fun target h => hstep₁ _ fun acts => by rw [doInvoke_state]; exact hsteps.trans h⟩
abbrev vx_CVW (R : Room) (s : State) (args : Array Value) (own C : String) (index : Nat) (y : MethodName) (bytes : ByteArray) (maxL : Nat) (ret : Option FieldType) (hh : List (Nat × Nat × Nat × Nat)) (ws : List Cond) (rm : Room) (mc ms n : Nat) : Prop :=
  (rm.cells = mc ∧ rm.slots = ms ∧ rm.frames + 1 ≤ R.frames ∧ 8 + (maxL + 11) + rm.locals ≤ R.locals ∧ (∀ w ∈ ws, ∀ (a' : Array Value) (U : State), s.WarmedH U.vm → w.before a' U = true) ∧ Cond.codeWith y bytes maxL ret hh ∈ ws) ∧
  (Cond.codeWith y bytes maxL ret hh).before args s = true ∧ (Cond.initialized y.cls).before args s = true ∧ (y.cls ≠ "java/lang/invoke/MethodHandle" ∧ y.cls ≠ "java/lang/invoke/VarHandle") ∧
  (∀ sig, parseMethodDescriptor y.desc = some sig → n = sig.parameters.length) ∧ (Cond.methodLink own index y).before args s = true ∧ (Cond.instanceMethod y).before args s = true ∧ (Cond.selects C y y).before args s = true
theorem vx_cwVW {own C : String} {index maxL mc ms : Nat} {y : MethodName} {bytes : ByteArray} {ret : Option FieldType} {hh : List (Nat × Nat × Nat × Nat)} {Ts ws ws' : List Cond} {rm : Room} (n : Nat) (ht : ∀ w ∈ Ts, w.before args s = true) (hT : GoodIn Ts (wsV own index C y ws)) (hw : ws = Cond.codeWith y bytes maxL ret hh :: ws') (hrc : rm.cells = mc) (hrs : rm.slots = ms)
    (hd : y.cls = C ∧ y.cls ≠ "java/lang/invoke/MethodHandle" ∧ y.cls ≠ "java/lang/invoke/VarHandle" ∧ (parseMethodDescriptor y.desc).map (fun d => d.parameters.length) = some n) (hR : rm.frames + 1 ≤ R.frames ∧ 8 + (maxL + 11) + rm.locals ≤ R.locals) :
    vx_CVW R s args own C index y bytes maxL ret hh ws rm mc ms n := by
  obtain ⟨hC, hd⟩ := hd
  subst hC
  have ok : ∀ w ∈ wsV own index y.cls y ws, w.before args s = true := fun w h => ht w (hT w h).1
  have hG : GoodIn Ts ws := fun w h => hT w (by unfold wsV; exact List.mem_append_right _ h)
  have hc : Cond.codeWith y bytes maxL ret hh ∈ ws := by rw [hw]; exact List.mem_cons_self
  refine ⟨⟨hrc, hrs, hR.1, hR.2, pay_in ht hG, hc⟩, ht _ (hG _ hc).1, ok _ (by simp [wsV]), ⟨hd.1, hd.2.1⟩, fun sig h => ?_, ok _ (by simp [wsV]), ok _ (by simp [wsV]), ok _ (by simp [wsV])⟩
  have h2 := hd.2.2
  rw [h] at h2
  exact (Option.some.inj h2).symm
theorem vx_runVW {y : MethodName} {bytes cc : ByteArray} {maxL nL mc ms n index : Nat} {ret : Option FieldType} {hh : List (Nat × Nat × Nat × Nat)} {ws : List Cond} {rm : Room} {Pc : Array Value → State → Prop} {Qc : Array Value → State → Outcome → State → Prop} {free : Addr → Prop} {Ts : List Cond} {own C : String} {b : Addr} {As rest : List Value} {g : JFrame}
    (S : CallFix p m c cc nL s args Ts own) (hM : Met l y ws rm Pc Qc mc ms free) (cw : vx_CVW R s args own C index y bytes maxL ret hh ws rm mc ms n) (hp : PreV s H C b Pc As)
    (hg : g.method = m) (hn : As.length = n) (hsize : g.locals.size = nL) (hstack : g.stack = As.reverse ++ .ref b :: rest) (hW : 2 * g.monitorRoom + (rest.map fun v => v.category).sum ≤ 8) (hdg : decode cc g.pc = .ok (.invokevirtual index, 3)) (hf : cells + mc ≤ R.cells ∧ slots + ms ≤ R.slots) :
    va_Run p l e R s m args below meth c H locs cells slots mc ms g rest (Qc (Value.ref b :: As).toArray) free := by
  obtain ⟨⟨hrc, hrs, hfr, hlo, hws, hcw⟩, hcode, hini, hy, hlen, hl, hin, hse⟩ := cw
  have hK : Back l R p e below s args y 3 8 (PreOf R mc ms Pc) (PostOf Qc mc ms free) := va_backW (hh := hh) (bytes := bytes) (maxL := maxL) (ret := ret) hM hp.1 hrc hrs hfr hlo hws hcw (fun a' U hW => word_at hW (Or.inl (by first | rfl | simp [Cond.onTables, Cond.keeps, Cond.steady])) hini)
  obtain ⟨hx, hb, hml, ho, -⟩ := S
  obtain ⟨-, ⟨cellB, hcB, hoB, hclB⟩, hPc⟩ := hp
  intro T hT X
  obtain ⟨v, vm₁, ⟨U', l2, c2, s2⟩, hW₁, X', ⟨g', mk, t, L, e1, e2, hq, h1, hL, h2, h3⟩, st⟩ := vx_callVW X hx (C := C) (hh := hh) (bytes := bytes) (maxL := maxL) (ret := ret) ho hl hin hse hcode hy hK (by rw [hT]; exact hcB) hoB hclB hg (hsize.trans hml.symm) (argsL := As) (rest := rest) (fun sig h => hn.trans (hlen sig h)) hstack hW (by rw [hb]; exact hdg)
    (fun vm₁ hW₁ => ⟨hf.1, hf.2, hPc (T.setVm vm₁) hT hW₁⟩)
  dsimp only [Pt.U, Pt.locs, Pt.cells, Pt.slots] at X' e1 e2 h1 h2 h3 st
  subst h1; subst h2; subst h3
  exact ⟨v, (T.setVm vm₁).calling g' mk (Value.ref b :: As).toArray, t, U', L, hT, X', hL, e1, e2, hq, st⟩
section
variable {y : MethodName} {bytes cc : ByteArray} {maxL nL mc ms n index : Nat} {ret : Option FieldType} {ws : List Cond} {rm : Room} {Pc : Array Value → State → Prop} {Qc : Array Value → State → Outcome → State → Prop} {XC : String → State → State → Prop} {free : Addr → Prop} {Ts : List Cond} {own C : String} {b : Addr} {As rest : List Value} {g : JFrame}
theorem vx_runVX {hh : List (Nat × Nat × Nat × Nat)} (S : CallFix p m c cc nL s args Ts own) (hM : vx_Met l y ws rm Pc Qc XC mc ms free) (cw : vx_CVW R s args own C index y bytes maxL ret hh ws rm mc ms n) (hp : PreV s H C b Pc As)
    (hg : g.method = m) (hn : As.length = n) (hsize : g.locals.size = nL) (hstack : g.stack = As.reverse ++ .ref b :: rest) (hW : 2 * g.monitorRoom + (rest.map fun v => v.category).sum ≤ 8) (hdg : decode cc g.pc = .ok (.invokevirtual index, 3)) (hf : cells + mc ≤ R.cells ∧ slots + ms ≤ R.slots) :
    vx_Run p l e R s m args below meth c H locs cells slots mc ms g rest (Qc (Value.ref b :: As).toArray) XC free := by
  obtain ⟨⟨hrc, hrs, hfr, hlo, hws, hcw⟩, hcode, hini, hy, hlen, hl, hin, hse⟩ := cw
  have hK : vx_Back l R p e below s args y 3 8 (PreOf R mc ms Pc) (PostOf Qc mc ms free) (vx_Post XC mc ms free) := vx_backW (hh := hh) (bytes := bytes) (maxL := maxL) (ret := ret) hM hp.1 hrc hrs hfr hlo hws hcw (fun a' U hW => word_at hW (Or.inl (by first | rfl | simp [Cond.onTables, Cond.keeps, Cond.steady])) hini)
  obtain ⟨hx, hb, hml, ho, -⟩ := S
  obtain ⟨-, ⟨cellB, hcB, hoB, hclB⟩, hPc⟩ := hp
  intro T hT X
  rcases vx_callVX X hx (C := C) (hh := hh) (bytes := bytes) (maxL := maxL) (ret := ret) ho hl hin hse hcode hy hK (by rw [hT]; exact hcB) hoB hclB hg (hsize.trans hml.symm) (argsL := As) (rest := rest) (fun sig h => hn.trans (hlen sig h)) hstack hW (by rw [hb]; exact hdg)
    (fun vm₁ hW₁ => ⟨hf.1, hf.2, hPc (T.setVm vm₁) hT hW₁⟩) with ⟨v, vm₁, ⟨U', l2, c2, s2⟩, hW₁, X', ⟨g', mk, t, L, e1, e2, hq, h1, hL, h2, h3⟩, st⟩ | ⟨q, vm₁, ⟨U', l2, c2, s2⟩, hW₁, X', ⟨g', mk, t, L, E, ce, e1, e2, hq, hce, hcv, hcl, h1, hL, h2, h3⟩, st⟩
  · dsimp only [Pt.U, Pt.locs, Pt.cells, Pt.slots] at X' e1 e2 h1 h2 h3 st
    subst h1; subst h2; subst h3
    exact Or.inl ⟨v, (T.setVm vm₁).calling g' mk (Value.ref b :: As).toArray, t, U', L, hT, X', hL, e1, e2, hq, st⟩
  · dsimp only [Pt.U, Pt.locs, Pt.cells, Pt.slots] at X' e1 e2 h1 h2 h3 st hcl
    subst h1; subst h2; subst h3
    exact Or.inr ⟨q, (T.setVm vm₁).calling g' mk (Value.ref b :: As).toArray, t, U', L, E, ce, hT, X', hL, e1, e2, hq, hce, hcv, vx_cls hW₁ hcl, st⟩
theorem vx_runSX {hh : List (Nat × Nat × Nat × Nat)} (S : CallFix p m c cc nL s args Ts own) (hM : vx_Met l y ws rm Pc Qc XC mc ms free) (cw : vx_CSW R s args own index y bytes maxL ret hh ws rm mc ms n) (hp : PreS s H Pc As)
    (hg : g.method = m) (hn : As.length = n) (hsize : g.locals.size = nL) (hstack : g.stack = As.reverse ++ rest) (hW : 2 * g.monitorRoom + (rest.map fun v => v.category).sum ≤ 8) (hdg : decode cc g.pc = .ok (.invokestatic index, 3)) (hf : cells + mc ≤ R.cells ∧ slots + ms ≤ R.slots) :
    vx_Run p l e R s m args below meth c H locs cells slots mc ms g rest (Qc As.toArray) XC free := by
  obtain ⟨⟨hrc, hrs, hfr, hlo, hws, hcw⟩, hcode, hini, hy, hlen, hl, hstt⟩ := cw
  have hK : vx_Back l R p e below s args y 3 8 (PreOf R mc ms Pc) (PostOf Qc mc ms free) (vx_Post XC mc ms free) := vx_backW (hh := hh) (bytes := bytes) (maxL := maxL) (ret := ret) hM hp.1 hrc hrs hfr hlo hws hcw (fun a' U hW => word_at hW (Or.inl (by first | rfl | simp [Cond.onTables, Cond.keeps, Cond.steady])) hini)
  obtain ⟨hx, hb, hml, ho, -⟩ := S
  intro T hT X
  rcases vx_callSX X hx (hh := hh) (bytes := bytes) (maxL := maxL) (ret := ret) ho hl hstt hini hcode hy hK hg (hsize.trans hml.symm) (argsL := As) (rest := rest) (fun sig h => hn.trans (hlen sig h)) hstack hW (by rw [hb]; exact hdg)
    (fun vm₁ hW₁ => ⟨hf.1, hf.2, hp.2 (T.setVm vm₁) hT hW₁⟩) with ⟨v, vm₁, ⟨U', l2, c2, s2⟩, hW₁, X', ⟨g', mk, t, L, e1, e2, hq, h1, hL, h2, h3⟩, st⟩ | ⟨q, vm₁, ⟨U', l2, c2, s2⟩, hW₁, X', ⟨g', mk, t, L, E, ce, e1, e2, hq, hce, hcv, hcl, h1, hL, h2, h3⟩, st⟩
  · dsimp only [Pt.U, Pt.locs, Pt.cells, Pt.slots] at X' e1 e2 h1 h2 h3 st
    subst h1; subst h2; subst h3
    exact Or.inl ⟨v, (T.setVm vm₁).calling g' mk As.toArray, t, U', L, hT, X', hL, e1, e2, hq, st⟩
  · dsimp only [Pt.U, Pt.locs, Pt.cells, Pt.slots] at X' e1 e2 h1 h2 h3 st hcl
    subst h1; subst h2; subst h3
    exact Or.inr ⟨q, (T.setVm vm₁).calling g' mk As.toArray, t, U', L, E, ce, hT, X', hL, e1, e2, hq, hce, hcv, vx_cls hW₁ hcl, st⟩
end
end VXH
theorem vx_ofWH {l : Launch} {y : MethodName} {ws ws' : List Cond} {rm : Room} {Pc : Array Value → State → Prop} {Qc : Array Value → State → Outcome → State → Prop} {XC : String → State → State → Prop} {mc ms : Nat} {free : Addr → Prop} {cc : ByteArray} {maxL : Nat} {ret : Option FieldType} {hh : List (Nat × Nat × Nat × Nat)}
    (hy : plainName y.cls = true) (hw : ws = Cond.codeWith y cc maxL ret hh :: ws')
    (body : ∀ p e s m args below meth c s₁, BodyLoose p l y (headSpec ws rm) cc maxL ret e s m args below meth c s₁ → c.maxLocals = maxL → Pc args s →
      W p l e (headSpec ws rm).room s m args below meth c s.heap [] 0 0 (vx_MQ below Qc XC args s mc ms free) (entryFrame m args maxL)) : vx_Met l y ws rm Pc Qc XC mc ms free := by
  refine MetFree.of_bodyS (code := cc) (maxLocals := maxL) (ret := ret) hy ?_ ?_
  · intro args s m h hn
    obtain ⟨m9, meth, c, hn9, h1, h2, h3, h4, -, h5, h6, -⟩ := Cond.codeWith_spec (atoms_spec (ws := ws) h _ (by rw [hw]; exact List.mem_cons_self))
    cases hn.symm.trans hn9
    exact ⟨meth, c, h1, h2, h3, h4, h5, h6⟩
  · intro p e s m args below meth c s₁ B hml hP _
    have hh0 : s₁.heap = s.heap := by rw [B.state]; rfl
    obtain ⟨t, a1, o, b1, b2, b3⟩ := body p e s m args below meth c s₁ B hml hP s₁ hh0 (Stand.of_body B)
    exact ⟨t, o, a1, b1, b2, b3⟩
/-! ===== END ===== -/

/-! ===== BEGIN what the machine throws by itself, no traces kept ===== -/
section VXM
set_option maxHeartbeats 1000000 in
/-- the machine throws cls with the message text, no traces kept: from its note over the frame g to 'throwing' over the same frame (follows the proofs of Stand.vmThrowsMessage, Shelf/KitTracedVmS.lean, and Stand.throwsMessageColdBareV, StandMessageColdV.lean, without the step out of the frame) -/
theorem vx_vmAt {p : Program} {l : Launch} {e : Env} {R : Room} {s : State} {m₀ : MethodId} {args : Array Value} {below : List Frame} {meth : Method} {c : Code} {W : State} {locs : List Loc} {cells slots : Nat}
    (X : Stand p l e R s m₀ args below meth c W locs cells slots) (hexec : p.tables.exec = Jvm.exec) (htr : e.platform.stackTraces = false) {cls : String} {names : List String} {text : String}
    (hcls : Bundle.fit cls = true) (hnames : ∀ n ∈ names, Bundle.fit n = true) (hsoe : (cls == "java/lang/StackOverflowError") = false) (hoom : (cls == "java/lang/OutOfMemoryError") = false)
    (h : ∀ a ∈ Bundle.messageArmAtoms cls names, a.before args s = true)
    (hlocs : ∀ x ∈ locs, ∀ cell, s.heap[x.base]? = some cell → cell.vm.isStatics = false)
    (htext : (text == notModelled) = false) (hlimit : ¬ (stringBytes (stringToUtf16 text)).size > e.platform.arrayLengthLimit) (hheap : ¬ (stringBytes (stringToUtf16 text)).size * componentBytes .byte > e.platform.maxHeapBytes)
    {g : JFrame} (hg : g.method = m₀) (hsize : g.locals.size = c.maxLocals)
    (hRframes : names.length + 4 < R.frames) (hRlocals : 2 * g.monitorRoom + (g.stack.map fun v => v.category).sum + 10240 ≤ R.locals) (hshort : 13 * names.length + 55 ≤ 10240)
    (hRcells : cells + 3 ≤ R.cells) (hRslots : slots + ((stringBytes (stringToUtf16 text)).size + 4 + 6) ≤ R.slots) (hlocks : meth.locks = false) :
    ∃ (S : State) (q : Addr) (ce : Cell), (∀ target, Steps p.tables e below ((S.setTop g).pushFrame (.throwing q)) target → Steps p.tables e below ((W.setTop g).pushFrame (.throwNew cls (some text) none)) target) ∧
      Stand p l e R s m₀ args below meth c S locs (cells + 3) (slots + ((stringBytes (stringToUtf16 text)).size + 4 + 6)) ∧ S.heap[q]? = some ce ∧ s.vm.findClass cls = some ce.cls ∧ ce.vm = .none := by
  have howns : e.platform.frameOwnsMonitors = true := by rw [X.admits.platform]
  have hfin : e.platform.finalization = false := by rw [X.admits.platform]
  have hpl : e.platform.magicAccessors = ({} : Platform).magicAccessors := by rw [X.admits.platform]
  have a : ∀ x, x ∈ Bundle.messageArmAtoms cls names → x.holds args s none s [] = true := fun x hx => h x hx
  obtain ⟨T, Z0, L, -, Y⟩ := ThrowableC.of_atoms (args := args) howns hfin hpl (fun x hx => h x (by simp [Bundle.messageArmAtoms, hx]))
  obtain ⟨Z, M, LZ, LM, hnZ⟩ := Init0T.ofS_atoms (args := args) hpl L Y (fun x hx => h x (by simp [Bundle.messageArmAtoms, hx]))
  obtain ⟨P1, Ps, hlen, L1, hL, hP1m, hlink1, hlink⟩ := Bundle.chainS (args := args) hpl hnZ names cls hcls hnames (fun x hx => h x (by simp [Bundle.messageArmAtoms, hx]))
  obtain ⟨Zs, LZs, hn4, hfitv, hfitc⟩ := StringT.of_atoms (args := args) (fun x hx => h x (by simp [Bundle.messageArmAtoms, hx]))
  have hfound : s.vm.findClass cls = some P1.m.cls := findClass_of_methodNamed hP1m
  obtain ⟨c1, kX, hc1, hk, hord, -, -, hn6⟩ := Cond.instantiable_spec (a (.instantiable cls 6) (by simp [Bundle.messageArmAtoms]))
  cases Option.some.inj (hc1.symm.trans hfound)
  have hinit := Cond.initialized_spec hfound hk (a (.initialized cls) (by simp [Bundle.messageArmAtoms]))
  have hctor : kX.findMethod "<init>" "(Ljava/lang/String;)V" = some P1.m.idx := findMethod_of_methodNamed hP1m hk
  have hsel0 : selectMethod e.platform s.vm P1.m.cls T.fill0 = .method T.fill0 := by
    obtain ⟨c2, r2, m2, q1, q2, q3, q4, -⟩ := Cond.selects_spec (a (.selects cls Bundle.tFill0 Bundle.tFill0) (by simp [Bundle.messageArmAtoms]))
    cases Option.some.inj (q1.symm.trans hfound)
    cases Option.some.inj (q2.symm.trans (State.methodFound?_of_named Y.fill0 (by decide)))
    cases Option.some.inj (q3.symm.trans Y.fill0)
    rw [Launch.admits_selectMethod X.admits]; exact q4
  have hselF : selectMethod e.platform s.vm P1.m.cls T.fill = .method T.fill := by
    obtain ⟨c2, r2, m2, q1, q2, q3, q4, -⟩ := Cond.selects_spec (a (.selects cls Bundle.tFill Bundle.tFill) (by simp [Bundle.messageArmAtoms]))
    cases Option.some.inj (q1.symm.trans hfound)
    cases Option.some.inj (q2.symm.trans (State.methodFound?_of_named Y.fill (by decide)))
    cases Option.some.inj (q3.symm.trans Y.fill)
    rw [Launch.admits_selectMethod X.admits]; exact q4
  obtain ⟨cellS0, hcS0, hiss⟩ := Y.statics
  obtain ⟨u0, hu0⟩ := Cond.staticRefV Y.unassigned L.unassignedStatic L.statics hcS0 hiss (a (.isRef (.static Bundle.tN "UNASSIGNED_STACK" Bundle.steD)) (by simp [Bundle.messageArmAtoms]))
  obtain ⟨sen, hsen⟩ := Cond.staticRefV Y.sentinel L.sentinelStatic L.statics hcS0 hiss (a (.isRef (.static Bundle.tN "SUPPRESSED_SENTINEL" Bundle.listD)) (by simp [Bundle.messageArmAtoms]))
  obtain ⟨ci198, i198, fB, hk198, hg198, ha198, hsB, -, hnB, htB, hffB⟩ := Cond.ownField (t := .object "java/lang/Object") Y.found L.cls (by decide +kernel) (a (.fieldLink Bundle.tN 198 Bundle.tN "backtrace" "Ljava/lang/Object;") (by simp [Bundle.messageArmAtoms])) (a (.lays Bundle.tN Bundle.tN "backtrace" "Ljava/lang/Object;") (by simp [Bundle.messageArmAtoms])) e.platform hpl
  obtain ⟨cellS, hcS', heS, -, hkeep⟩ := X.same.2.2.2.2.2 T.aS cellS0 hcS0
  have hcellS : W.heap[T.aS]? = some cellS := hcS'
  have hout' : ∀ i, (⟨T.aS, i⟩ : Loc) ∉ locs := fun i hmem => by
    have := hlocs _ hmem cellS0 hcS0
    rw [hiss] at this; cases this
  have hknownS : cellS.vm ≠ .unknown := by
    rw [heS]; intro hu
    rw [show cellS0.vm = .unknown from hu] at hiss
    cases hiss
  have hvU : cellS.slots[T.fUnassigned.slot]? = some u0.v := by rw [hkeep _ (hout' _)]; exact hu0
  have hvSen : cellS.slots[T.fSentinel.slot]? = some sen.v := by rw [hkeep _ (hout' _)]; exact hsen
  obtain ⟨iM, hffM⟩ := Y.msg
  obtain ⟨tyC, dC, hdC, hdnC⟩ := Cond.laysAt hfound hk Y.cause (a (.lays cls Bundle.tN "cause" "Ljava/lang/Throwable;") (by simp [Bundle.messageArmAtoms]))
  obtain ⟨tyS, dS, hdS, hdnS⟩ := Cond.laysAt hfound hk Y.stack (a (.lays cls Bundle.tN "stackTrace" Bundle.steD) (by simp [Bundle.messageArmAtoms]))
  obtain ⟨tyP, dP, hdP, hdnP⟩ := Cond.laysAt hfound hk Y.supp (a (.lays cls Bundle.tN "suppressedExceptions" Bundle.listD) (by simp [Bundle.messageArmAtoms]))
  obtain ⟨tyM, dM, hdM, hdnM⟩ := Cond.laysAt hfound hk hffM (a (.lays cls Bundle.tN "detailMessage" "Ljava/lang/String;") (by simp [Bundle.messageArmAtoms]))
  obtain ⟨tyB, dB, hdB, hdnB⟩ := Cond.laysAt hfound hk hffB (a (.lays cls Bundle.tN "backtrace" "Ljava/lang/Object;") (by simp [Bundle.messageArmAtoms]))
  have bC := Cond.laysApart hdB hdC hdnB hdnC (by rw [hnB, Y.causeName]; decide)
  have bS := Cond.laysApart hdB hdS hdnB hdnS (by rw [hnB, Y.stackName]; decide)
  have bP := Cond.laysApart hdB hdP hdnB hdnP (by rw [hnB, Y.suppName]; decide)
  have hbk : ((preparedCellV T.toThrowableT (freshCell P1.m.cls kX) (W.heap.size + 2) u0 sen).withEntry W.cur).slots[fB.slot]? = some .null := by
    have := fresh_default (c := P1.m.cls) tyB
    rw [htB] at this
    simpa [preparedCellV, Cell.setSlot, Cell.withEntry, Array.getElem?_setIfInBounds, bC, bS, bP, bC.symm, bS.symm, bP.symm, defaultValue] using this
  have tkC := Takes.of_laid (v := .ref (W.heap.size + 2)) hk hord tyC (by rw [Y.causeType]; rfl)
  have tkS := Takes.of_laid (v := u0.v) hk hord tyS (by rw [Y.stackType]; exact fits_refV_array _ u0)
  have tkP := Takes.of_laid (v := sen.v) hk hord tyP (by rw [Y.suppType]; exact fits_refV_object _ sen)
  have tkM := Takes.of_laid (v := .ref (W.heap.size + 1)) hk hord tyM (by rw [Y.msgType]; rfl)
  have hskip : SkipFacts T e.platform s (fun u => u) u0 ((preparedCellV T.toThrowableT (freshCell P1.m.cls kX) (W.heap.size + 2) u0 sen).withEntry W.cur) := ⟨{ ci198 := ci198, i198 := i198, fBack := fB }, ⟨hk198, hg198, ha198, hsB⟩, hbk, fun _ _ => rfl⟩
  have h0 : At W g.method c below := by rw [hg]; exact X.here
  obtain ⟨hbeyond, hfreeW⟩ := X.vmMayThrow hsize (.throwNew cls (some text) none) (fun f hf => by cases hf) rfl hRlocals
  have hfr' : W.frames.length + Ps.length + 4 < (e.platform.stackLimits W.me).1 := by have := X.framesAbove hRframes; omega
  have hwd' : (stackUse (.java g :: W.frames.tail)).2 + 13 * Ps.length + 55 ≤ (e.platform.stackLimits W.me).2 := by have := X.stackAbove hsize (K := 13 * Ps.length + 55) (by omega); omega
  have hslots : W.slotsUsed + (stringBytes (stringToUtf16 text)).size + Zs.kS.instanceTypes.size + kX.instanceTypes.size ≤ e.platform.maxSlots := by
    have := X.slotsAbove hRslots
    rw [hn4, hn6]
    omega
  obtain ⟨vm', hW', st⟩ := Steps.vmThrowsMessageColdByV p (s₀ := s) (S := W) (g := g) h0 hexec T L Z LZ M LM X.warmed (t := W.cur) rfl Zs LZs P1 L1 Ps hL hlink1 hlink hsoe hoom hfound hk hinit hord hctor
    (Launch.admits_hotImplicitExceptions X.admits) hbeyond hfreeW htext hlimit hheap (X.cellsAbove hRcells) hslots (hfitv _) (hfitc _)
    (Nn := fun u => u) heapOnly_id (fun _ _ => rfl) (fun _ => rfl) (fun u x y => setCell_twice _ _ _ _) (fun _ => Nat.le_refl _) (cN := ((preparedCellV T.toThrowableT (freshCell P1.m.cls kX) (W.heap.size + 2) u0 sen).withEntry W.cur))
    hsel0 hcellS hknownS hvU tkS (fun _ hu => hu) (fun _ hu => hu) rfl rfl rfl (by simp [preparedCellV, Cell.setSlot, Cell.withEntry]) hskip (fun _ _ hA hW _ hroom _ hrest => L.nativeOff p htr hA hW hroom hrest) hselF hvSen tkC tkP tkM Y.objLocals rfl hfr' hwd'
  rw [plainBareV_eq T.toThrowableT (W.heap.size + 2) u0 sen (.ref (W.heap.size + 1)) W.cur rfl rfl] at st
  obtain ⟨-, -, w3, w4, -, -, -⟩ := withThrown_facts e.platform W Zs text P1.m.cls kX
  have X3 := ((X.pushed (bytesOf Zs.cB (stringToUtf16 text))).pushed (stringAt Zs.cS Zs.kS Zs.fv Zs.fc (stringToUtf16 text) W.heap.size)).pushed (freshCell P1.m.cls kX)
  rw [← withString_eq] at X3
  have X4 := X3.noted hW'
  have ha : (W.heap.size + 2) < ((withThrown W Zs text P1.m.cls kX).setVm vm').heap.size := by show _ < (withThrown W Zs text P1.m.cls kX).heap.size; rw [w3]; omega
  have hcell : ((withThrown W Zs text P1.m.cls kX).setVm vm').heap[(W.heap.size + 2)]? = some (freshCell P1.m.cls kX) := w4
  have X5 := ((((X4.stored hcell T.fCause.slot (.ref (W.heap.size + 2))).storedAgain ha T.fStack.slot u0.v).storedAgain ha T.fSupp.slot sen.v).storedAgain ha T.fStack.slot u0.v).storedAgain ha T.fMsg.slot (.ref (W.heap.size + 1))
  obtain ⟨g₁, hfrM⟩ := X5.frames_eq
  have hU : ((((withThrown W Zs text P1.m.cls kX).setVm vm').setCell (W.heap.size + 2) (plainBareV T.toThrowableT (freshCell P1.m.cls kX) (W.heap.size + 2) u0 sen (.ref (W.heap.size + 1)))).setTop g).pushFrame (.throwing (W.heap.size + 2)) = (((withThrown W Zs text P1.m.cls kX).setVm vm').setCell (W.heap.size + 2) (plainBareV T.toThrowableT (freshCell P1.m.cls kX) (W.heap.size + 2) u0 sen (.ref (W.heap.size + 1)))).setFrames (.throwing (W.heap.size + 2) :: .java g :: below) := by
    rw [State.pushFrame, State.frames_setTop _ hfrM, State.setTop_of_frames _ hfrM, State.setFrames_setFrames]
  have b1 : (bytesOf Zs.cB (stringToUtf16 text)).slots.size = (stringBytes (stringToUtf16 text)).size := by
    rw [(Cell.writeAll_facts _ _).2.2]; simp [bytes0]
  have b2 : (stringAt Zs.cS Zs.kS Zs.fv Zs.fc (stringToUtf16 text) W.heap.size).slots.size = 4 := by simp [string0, Cell.setSlot, hn4]
  have b3 : (freshCell P1.m.cls kX).slots.size = 6 := by simp [hn6]
  rw [b1, b2, b3] at X5
  have e9 : slots + (stringBytes (stringToUtf16 text)).size + 4 + 6 = slots + ((stringBytes (stringToUtf16 text)).size + 4 + 6) := by omega
  rw [e9] at X5
  simp only [List.append_assoc, List.cons_append, List.nil_append] at X5
  refine ⟨((withThrown W Zs text P1.m.cls kX).setVm vm').setCell (W.heap.size + 2) (plainBareV T.toThrowableT (freshCell P1.m.cls kX) (W.heap.size + 2) u0 sen (.ref (W.heap.size + 1))), W.heap.size + 2, _, fun target ht => st _ (by rw [X.tail, ← hU]; exact ht),
    X5.forget (fun y hy => ?_), heapAt_setCell_self _ ha, hfound, rfl⟩
  simp only [List.mem_cons, List.not_mem_nil, or_false] at hy
  have hge : s.heap.size ≤ W.heap.size := X.same.2.1
  rcases hy with rfl | rfl | rfl | rfl | rfl <;> exact Nat.le_trans hge (Nat.le_add_right _ 2)
set_option maxHeartbeats 1000000 in
/-- the machine throws NullPointerException, no traces kept: from its note over the frame g to 'throwing' over the same frame (follows the proof of Stand.vmThrowsNpe, Shelf42/KT2.lean; throwsNpeColdBareVAt, Shelf42/NT91.lean, called) -/
theorem vx_npeAt {p : Program} {l : Launch} {e : Env} {R : Room} {s : State} {m₀ : MethodId} {args : Array Value} {below : List Frame} {meth : Method} {c : Code} {W : State} {locs : List Loc} {cells slots : Nat}
    (X : Stand p l e R s m₀ args below meth c W locs cells slots) (hexec : p.tables.exec = Jvm.exec) (htr : e.platform.stackTraces = false) {n : Nat}
    (h : ∀ a ∈ Bundle.npeArmAtoms n, a.before args s = true)
    (hlocs : ∀ x ∈ locs, ∀ cell, s.heap[x.base]? = some cell → cell.vm.isStatics = false)
    {g : JFrame} (hg : g.method = m₀) (hsize : g.locals.size = c.maxLocals)
    (hRframes : 7 < R.frames) (hRlocals : 2 * g.monitorRoom + (g.stack.map fun v => v.category).sum + 10240 ≤ R.locals)
    (hRcells : cells + 1 ≤ R.cells) (hRslots : slots + n ≤ R.slots) (hlocks : meth.locks = false) :
    ∃ (S : State) (q : Addr) (ce : Cell), (∀ target, Steps p.tables e below ((S.setTop g).pushFrame (.throwing q)) target → Steps p.tables e below ((W.setTop g).pushFrame (.throwNew "java/lang/NullPointerException" none none)) target) ∧
      Stand p l e R s m₀ args below meth c S locs (cells + 1) (slots + n) ∧ S.heap[q]? = some ce ∧ s.vm.findClass "java/lang/NullPointerException" = some ce.cls ∧ ce.vm = .none := by
  have howns : e.platform.frameOwnsMonitors = true := by rw [X.admits.platform]
  have hfin : e.platform.finalization = false := by rw [X.admits.platform]
  have hpl : e.platform.magicAccessors = ({} : Platform).magicAccessors := by rw [X.admits.platform]
  have hpl2 : e.platform.arrayCloneIsPublic = true := by rw [X.admits.platform]
  have a' : ∀ x, x ∈ Bundle.npeArmAtoms n → x.holds args s none s [] = true := fun x hx => h x hx
  obtain ⟨T, Z, L, LZ, Y⟩ := ThrowableC.of_atoms (args := args) howns hfin hpl (fun x hx => h x (by simp [Bundle.npeArmAtoms, hx]))
  obtain ⟨N, LN, hcN, hnNF, hordN, hffS⟩ := NpeC.of_atoms (args := args) hpl hpl2 L Y (fun x hx => h x (by simp [Bundle.npeArmAtoms, hx]))
  obtain ⟨P1, L1, hP1m, hP1s⟩ := PassC.of_atoms (args := args) (s := s) hpl (X := Bundle.nN) (Y := Bundle.rN) (by decide) (by decide) LibCode.NullPointerException.Init0.at_0 LibCode.NullPointerException.Init0.at_1 LibCode.NullPointerException.Init0.at_4 (fun x hx => h x (by simp [Bundle.npeArmAtoms, hx]))
  obtain ⟨PR, LR, hPRm, hPRs⟩ := PassC.of_atoms (args := args) (s := s) hpl (X := Bundle.rN) (Y := Bundle.eN) (by decide) (by decide) LibCode.RuntimeException.Init0.at_0 LibCode.RuntimeException.Init0.at_1 LibCode.RuntimeException.Init0.at_4 (fun x hx => h x (by simp [Bundle.npeArmAtoms, hx]))
  obtain ⟨PE, LEx, hPEm, hPEs⟩ := PassC.of_atoms (args := args) (s := s) hpl (X := Bundle.eN) (Y := Bundle.tN) (by decide) (by decide) LibCode.Exception.Init0.at_0 LibCode.Exception.Init0.at_1 LibCode.Exception.Init0.at_4 (fun x hx => h x (by simp [Bundle.npeArmAtoms, hx]))
  have hfound : s.vm.findClass Bundle.nN = some P1.m.cls := findClass_of_methodNamed hP1m
  have ecls : N.cN = P1.m.cls := Option.some.inj (hcN.symm.trans hfound)
  have hk : s.vm.classes[P1.m.cls]? = some N.kN := by rw [← ecls]; exact LN.cls
  have hinit := Cond.initialized_spec hfound hk (a' (.initialized Bundle.nN) (by simp [Bundle.npeArmAtoms]))
  have hctor : N.kN.findMethod "<init>" "()V" = some P1.m.idx := findMethod_of_methodNamed hP1m hk
  obtain ⟨c1, k1, hc1, hk1, -, -, -, hn⟩ := Cond.instantiable_spec (a' (.instantiable Bundle.nN n) (by simp [Bundle.npeArmAtoms]))
  cases Option.some.inj (hc1.symm.trans hfound)
  cases Option.some.inj (hk1.symm.trans hk)
  have hfsz : (freshCell P1.m.cls N.kN).slots.size = n := by simp [hn]
  have hlink1 : P1.sup = PR.m := Option.some.inj (hP1s.symm.trans hPRm)
  have hlinkR : PR.sup = PE.m := Option.some.inj (hPRs.symm.trans hPEm)
  have hlinkE : PE.sup = Z.m T.toThrowableT := Option.some.inj (hPEs.symm.trans Y.init0)
  have hLs : ∀ P, P ∈ [PR, PE] → P.Links0 e.platform s := fun P hP => by
    simp only [List.mem_cons, List.not_mem_nil, or_false] at hP
    rcases hP with rfl | rfl
    · exact LR
    · exact LEx
  have hsel0 : selectMethod e.platform s.vm P1.m.cls T.fill0 = .method T.fill0 := by
    obtain ⟨c2, r2, m2, q1, q2, q3, q4, -⟩ := Cond.selects_spec (a' (.selects Bundle.nN Bundle.tFill0 Bundle.tFill0) (by simp [Bundle.npeArmAtoms]))
    cases Option.some.inj (q1.symm.trans hfound)
    cases Option.some.inj (q2.symm.trans (State.methodFound?_of_named Y.fill0 (by decide)))
    cases Option.some.inj (q3.symm.trans Y.fill0)
    rw [Launch.admits_selectMethod X.admits]; exact q4
  have hselF : selectMethod e.platform s.vm P1.m.cls T.fill = .method N.fill := by
    obtain ⟨c2, r2, m2, q1, q2, q3, q4, -⟩ := Cond.selects_spec (a' (.selects Bundle.nN Bundle.tFill Bundle.nFill) (by simp [Bundle.npeArmAtoms]))
    cases Option.some.inj (q1.symm.trans hfound)
    cases Option.some.inj (q2.symm.trans (State.methodFound?_of_named Y.fill (by decide)))
    cases Option.some.inj (q3.symm.trans hnNF)
    rw [Launch.admits_selectMethod X.admits]; exact q4
  obtain ⟨cellS0, hcS0, hiss⟩ := Y.statics
  obtain ⟨u0, hu0⟩ := Cond.staticRefV Y.unassigned L.unassignedStatic L.statics hcS0 hiss (a' (.isRef (.static Bundle.tN "UNASSIGNED_STACK" Bundle.steD)) (by simp [Bundle.npeArmAtoms]))
  obtain ⟨sen, hsen⟩ := Cond.staticRefV Y.sentinel L.sentinelStatic L.statics hcS0 hiss (a' (.isRef (.static Bundle.tN "SUPPRESSED_SENTINEL" Bundle.listD)) (by simp [Bundle.npeArmAtoms]))
  obtain ⟨ci198, i198, fB, hk198, hg198, ha198, hsB, -, hnB, htB, hffB⟩ := Cond.ownField (t := .object "java/lang/Object") Y.found L.cls (by decide +kernel) (a' (.fieldLink Bundle.tN 198 Bundle.tN "backtrace" Bundle.objD) (by simp [Bundle.npeArmAtoms])) (a' (.lays Bundle.tN Bundle.tN "backtrace" Bundle.objD) (by simp [Bundle.npeArmAtoms])) e.platform hpl
  obtain ⟨cellS, hcS', heS, -, hkeep⟩ := X.same.2.2.2.2.2 T.aS cellS0 hcS0
  have hcellS : W.heap[T.aS]? = some cellS := hcS'
  have hout' : ∀ i, (⟨T.aS, i⟩ : Loc) ∉ locs := fun i hmem => by
    have := hlocs _ hmem cellS0 hcS0
    rw [hiss] at this; cases this
  have hknownS : cellS.vm ≠ .unknown := by
    rw [heS]; intro hu
    rw [show cellS0.vm = .unknown from hu] at hiss
    cases hiss
  have hvU : cellS.slots[T.fUnassigned.slot]? = some u0.v := by rw [hkeep _ (hout' _)]; exact hu0
  have hvSen : cellS.slots[T.fSentinel.slot]? = some sen.v := by rw [hkeep _ (hout' _)]; exact hsen
  obtain ⟨tyC, dC, hdC, hdnC⟩ := Cond.laysAt hfound hk Y.cause (a' (.lays Bundle.nN Bundle.tN "cause" "Ljava/lang/Throwable;") (by simp [Bundle.npeArmAtoms]))
  obtain ⟨tyS, dS, hdS, hdnS⟩ := Cond.laysAt hfound hk Y.stack (a' (.lays Bundle.nN Bundle.tN "stackTrace" Bundle.steD) (by simp [Bundle.npeArmAtoms]))
  obtain ⟨tyP, dP, hdP, hdnP⟩ := Cond.laysAt hfound hk Y.supp (a' (.lays Bundle.nN Bundle.tN "suppressedExceptions" Bundle.listD) (by simp [Bundle.npeArmAtoms]))
  obtain ⟨tyX, dX, hdX, hdnX⟩ := Cond.laysAt hfound hk hffS (a' (.lays Bundle.nN Bundle.nN "extendedMessageState" "I") (by simp [Bundle.npeArmAtoms, Bundle.npeAtoms]))
  obtain ⟨hnX, htX⟩ := State.fieldFound?_type hffS (t := .int) (by decide +kernel)
  have xC := Cond.laysApart hdC hdX hdnC hdnX (by rw [hnX, Y.causeName]; decide)
  have xS := Cond.laysApart hdS hdX hdnS hdnX (by rw [hnX, Y.stackName]; decide)
  have xP := Cond.laysApart hdP hdX hdnP hdnX (by rw [hnX, Y.suppName]; decide)
  have hv0 : (freshCell P1.m.cls N.kN).slots[N.fState.slot]? = some (.int 0) := by
    have := fresh_default (c := P1.m.cls) tyX
    rw [htX] at this; exact this
  obtain ⟨tyB, dB, hdB, hdnB⟩ := Cond.laysAt hfound hk hffB (a' (.lays Bundle.nN Bundle.tN "backtrace" Bundle.objD) (by simp [Bundle.npeArmAtoms]))
  have bC := Cond.laysApart hdB hdC hdnB hdnC (by rw [hnB, Y.causeName]; decide)
  have bS := Cond.laysApart hdB hdS hdnB hdnS (by rw [hnB, Y.stackName]; decide)
  have bP := Cond.laysApart hdB hdP hdnB hdnP (by rw [hnB, Y.suppName]; decide)
  have bX := Cond.laysApart hdB hdX hdnB hdnX (by rw [hnB, hnX]; decide)
  have hbk : ((npeCell N.toNpeT (preparedCellV T.toThrowableT (freshCell P1.m.cls N.kN) W.heap.size u0 sen) W.cur).withEntry W.cur).slots[fB.slot]? = some .null := by
    have := fresh_default (c := P1.m.cls) tyB
    rw [htB] at this
    simpa [npeCell, preparedCellV, Cell.setSlot, Cell.withEntry, Array.getElem?_setIfInBounds, bC, bS, bP, bX, bC.symm, bS.symm, bP.symm, bX.symm, defaultValue] using this
  have tkC := Takes.of_laid (v := .ref W.heap.size) hk hordN tyC (by rw [Y.causeType]; rfl)
  have tkS := Takes.of_laid (v := u0.v) hk hordN tyS (by rw [Y.stackType]; exact fits_refV_array _ u0)
  have tkP := Takes.of_laid (v := sen.v) hk hordN tyP (by rw [Y.suppType]; exact fits_refV_object _ sen)
  have tkX := Takes.of_laid (v := .int 1) hk hordN tyX (by rw [htX]; rfl)
  have hskip : SkipFacts T e.platform s (fun u => u) u0 ((npeCell N.toNpeT (preparedCellV T.toThrowableT (freshCell P1.m.cls N.kN) W.heap.size u0 sen) W.cur).withEntry W.cur) := ⟨{ ci198 := ci198, i198 := i198, fBack := fB }, ⟨hk198, hg198, ha198, hsB⟩, hbk, fun _ _ => rfl⟩
  obtain ⟨vm', X3, st, -⟩ := X.throwsNpeColdBareVAt hexec hg hsize T L Z LZ N LN P1 L1 [PR, PE] hLs hlink1 ⟨hlinkR, hlinkE, trivial⟩ hfound hk hinit hordN hctor hsel0 hselF hcellS hknownS hvU hvSen
    hv0 xC xS xP tkC tkS tkP tkX Y.objLocals hskip (fun _ _ hA hW _ hroom _ hrest => L.nativeOff p htr hA hW hroom hrest) (by simpa using hRframes) hRlocals (by simp) hRcells (by rw [hn]; exact hRslots)
  have hlt : W.heap.size < ((W.pushCell (freshCell P1.m.cls N.kN)).setVm vm').heap.size := by
    show W.heap.size < (W.pushCell (freshCell P1.m.cls N.kN)).heap.size
    rw [State.heap_size_pushCell]; omega
  rw [hfsz] at X3
  obtain ⟨g₁, hfrM⟩ := X3.frames_eq
  have hU : ((((W.pushCell (freshCell P1.m.cls N.kN)).setVm vm').setCell W.heap.size (npeBareV T.toThrowableT N.toNpeT (freshCell P1.m.cls N.kN) W.heap.size u0 sen)).setTop g).pushFrame (.throwing W.heap.size) = (((W.pushCell (freshCell P1.m.cls N.kN)).setVm vm').setCell W.heap.size (npeBareV T.toThrowableT N.toNpeT (freshCell P1.m.cls N.kN) W.heap.size u0 sen)).setFrames (.throwing W.heap.size :: .java g :: below) := by
    rw [State.pushFrame, State.frames_setTop _ hfrM, State.setTop_of_frames _ hfrM, State.setFrames_setFrames]
  refine ⟨_, W.heap.size, _, fun target ht => st.trans (by rw [← hU]; exact ht), X3.forget (fun y hy => ?_), heapAt_setCell_self _ hlt, hfound, rfl⟩
  simp only [List.mem_cons, List.not_mem_nil, or_false] at hy
  have hge : s.heap.size ≤ W.heap.size := X.same.2.1
  rcases hy with rfl | rfl | rfl | rfl | rfl <;> exact hge
/-- the words of a machine's NullPointerException, but the four that speak of the heap -/
def vx_atN (n : Nat) : List Cond := (Bundle.npeArmAtoms n).filter vx_no
/-- the words of a machine's throw with a message, but the four that speak of the heap -/
def vx_atM (X : String) (names : List String) : List Cond := (Bundle.messageArmAtoms X names).filter vx_no
section
variable {p : Program} {l : Launch} {e : Env} {R : Room} {s : State} {m : MethodId} {args : Array Value} {below : List Frame} {meth : Method} {c : Code} {H : Heap} {locs : List Loc} {cells slots : Nat}
/-- a frame seen from a rebased start, seen from the first start again -/
theorem vx_back9 {T S : State} {R' : Room} {k n : Nat} (X : Stand p l e R s m args below meth c T locs cells slots) (Y : Stand p l e R' ((T.setVm s.vm).setFrames (.invoking m args :: below)) m args below meth c T [] 0 0) (Z : Stand p l e R' ((T.setVm s.vm).setFrames (.invoking m args :: below)) m args below meth c S [] k n) :
    Stand p l e R s m args below meth c S locs (cells + k) (slots + n) := by
  have hW0 : s.WarmedH ((T.setVm s.vm).setFrames (.invoking m args :: below)).vm := State.WarmedH.refl s
  refine { admits := X.admits, cas := X.cas, clock := X.clock, frames := X.frames, room := X.room, hears := X.hears, method := X.method, code := X.code, here := Z.here, tail := Z.tail, warmed := State.WarmedH.trans hW0 Z.warmed, limits := Z.limits.trans (Y.limits.symm.trans X.limits), bytes := Z.bytes.trans (Y.bytes.symm.trans X.bytes), same := ?_ }
  obtain ⟨e1, e2⟩ := Z.same
  rw [State.setFrames_setFrames] at e1
  have h2 : (T.setVm s.vm).sameButNew (S.setVm s.vm) [] k n := ⟨e1, e2⟩
  have h3 := X.same.trans h2
  rw [List.append_nil] at h3
  exact h3
/-- from the machine's note that E is thrown here with this text -/
def vx_Note (p : Program) (l : Launch) (e : Env) (R : Room) (s : State) (m : MethodId) (args : Array Value) (below : List Frame) (meth : Method) (c : Code) (H : Heap) (locs : List Loc) (cells slots : Nat) (Q : State → Prop) (g : JFrame) (E text : String) : Prop :=
  ∀ T : State, T.heap = H → Stand p l e R s m args below meth c T locs cells slots → ∃ t, Steps p.tables e below ((T.setTop g).pushFrame (.throwNew E (some text) none)) t ∧ Q t
theorem vx_vm {pc : Nat} {ls : Array Slot} {rest : List Value} {Q : State → Prop} (hexec : p.tables.exec = Jvm.exec) (hl : l.stackTraces = false) {cls text : String} {names : List String} {nb : Nat} {A : Nat → Prop}
    (hcls : Bundle.fit cls = true) (hnames : ∀ n ∈ names, Bundle.fit n = true) (hsoe : (cls == "java/lang/StackOverflowError") = false) (hoom : (cls == "java/lang/OutOfMemoryError") = false)
    (hat : ∀ w ∈ vx_atM cls names, w.before args s = true) (hgood : ∀ w ∈ vx_atM cls names, vx_ot w = true)
    (hU : vx_Zq Bundle.tN "UNASSIGNED_STACK" Bundle.steD A s s.heap) (hN : vx_Zq Bundle.tN "SUPPRESSED_SENTINEL" Bundle.listD A s s.heap) (hS : va_S A s.heap H locs) (hsize : ls.size = c.maxLocals)
    (htext : (text == notModelled) = false) (hnb : (stringBytes (stringToUtf16 text)).size ≤ nb) (hnb1 : nb ≤ 1000)
    (hRframes : names.length + 4 < R.frames) (hRlocals : (rest.map fun v => v.category).sum + 10240 ≤ R.locals) (hshort : 13 * names.length + 55 ≤ 10240) (hRcells : cells + 3 ≤ R.cells) (hRslots : slots + (nb + 10) ≤ R.slots) (hlocks : meth.locks = false)
    (k : ∀ (H1 : Heap) (q9 : Addr) (ce : Cell), H.size ≤ H1.size → (∀ q : Nat, q < H.size → H1[q]? = H[q]?) → va_S A s.heap H1 locs → H1[q9]? = some ce → ce.vm = .none → s.vm.findClass cls = some ce.cls → vx_W p l e R s m args below meth c H1 locs (cells + 3) (slots + (nb + 10)) Q (F0 m pc ls rest) q9) :
    vx_Note p l e R s m args below meth c H locs cells slots Q (F0 m pc ls rest) cls text := by
  intro T hT X
  have htr : e.platform.stackTraces = false := (show e.platform.stackTraces = l.stackTraces by rw [X.admits.platform]).trans hl
  have Y := vx_rebase X (R' := { frames := R.frames, locals := R.locals, cells := 3, slots := nb + 10 }) (Nat.le_refl _) (Nat.le_refl _) hRcells hRslots
  have hhp : ((T.setVm s.vm).setFrames (.invoking m args :: below)).heap = H := hT
  have hW0 : s.WarmedH ((T.setVm s.vm).setFrames (.invoking m args :: below)).vm := State.WarmedH.refl s
  have hat' : ∀ w ∈ vx_atM cls names, w.before args ((T.setVm s.vm).setFrames (.invoking m args :: below)) = true := fun w hw => vx_ot_at hW0 rfl (hgood w hw) (hat w hw)
  have hU' : vx_Zq Bundle.tN "UNASSIGNED_STACK" Bundle.steD A ((T.setVm s.vm).setFrames (.invoking m args :: below)) ((T.setVm s.vm).setFrames (.invoking m args :: below)).heap := by rw [hhp]; exact vx_Zq.moved hW0.alike (hU.kept hS.2.1)
  have hN' : vx_Zq Bundle.tN "SUPPRESSED_SENTINEL" Bundle.listD A ((T.setVm s.vm).setFrames (.invoking m args :: below)) ((T.setVm s.vm).setFrames (.invoking m args :: below)).heap := by rw [hhp]; exact vx_Zq.moved hW0.alike (hN.kept hS.2.1)
  obtain ⟨S, q, ce, st, Z, hce, hcl', hv⟩ := vx_vmAt Y hexec htr (cls := cls) (names := names) (text := text) hcls hnames hsoe hoom (vx_own hat' (vx_isRefq hU'.1) (vx_isRefq hN'.1) hU'.2.word hN'.2.word) (fun x hx => nomatch hx) htext
    (by rw [Launch.admits_arrayLengthLimit X.admits]; omega) (by rw [Launch.admits_maxHeapBytes X.admits]; simp only [componentBytes]; omega)
    (g := F0 m pc ls rest) rfl hsize hRframes (by show 2 * 0 + (rest.map fun v => v.category).sum + 10240 ≤ R.locals; omega) hshort (by show 0 + 3 ≤ 3; omega) (by show 0 + (_ + 4 + 6) ≤ nb + 10; omega) hlocks
  obtain ⟨f1, f2⟩ := vx_frame Z.same
  have f1' : H.size ≤ S.heap.size := by rw [← hT]; exact f1
  have f2' : ∀ q : Nat, q < H.size → S.heap[q]? = H[q]? := fun q hq => by
    rw [← hT]
    exact f2 q (by rw [← hT] at hq; exact hq) (fun z hz => nomatch hz)
  have X5 := vx_back9 X Y Z
  have X6 : Stand p l e R s m args below meth c S locs (cells + 3) (slots + (nb + 10)) := { X5 with same := X5.same.mono (by omega) (by omega) }
  obtain ⟨t, a1, b1⟩ := k S.heap q ce f1' f2' ⟨Nat.le_trans hS.1 f1', fun q h1 h2 => (f2' q (Nat.lt_of_lt_of_le h1 hS.1)).trans (hS.2.1 q h1 h2), hS.2.2⟩ hce hv hcl' S rfl X6
  exact ⟨t, st t a1, b1⟩
/-- from the machine's note that NullPointerException is thrown here -/
def vx_NoteN (p : Program) (l : Launch) (e : Env) (R : Room) (s : State) (m : MethodId) (args : Array Value) (below : List Frame) (meth : Method) (c : Code) (H : Heap) (locs : List Loc) (cells slots : Nat) (Q : State → Prop) (g : JFrame) : Prop :=
  ∀ T : State, T.heap = H → Stand p l e R s m args below meth c T locs cells slots → ∃ t, Steps p.tables e below ((T.setTop g).pushFrame (.throwNew "java/lang/NullPointerException" none none)) t ∧ Q t
theorem vx_npe {pc : Nat} {ls : Array Slot} {rest : List Value} {Q : State → Prop} (hexec : p.tables.exec = Jvm.exec) (hl : l.stackTraces = false) {nb : Nat} {A : Nat → Prop}
    (hat : ∀ w ∈ vx_atN nb, w.before args s = true) (hgood : ∀ w ∈ vx_atN nb, vx_ot w = true)
    (hU : vx_Zq Bundle.tN "UNASSIGNED_STACK" Bundle.steD A s s.heap) (hN : vx_Zq Bundle.tN "SUPPRESSED_SENTINEL" Bundle.listD A s s.heap) (hS : va_S A s.heap H locs) (hsize : ls.size = c.maxLocals)
    (hRframes : 7 < R.frames) (hRlocals : (rest.map fun v => v.category).sum + 10240 ≤ R.locals) (hRcells : cells + 1 ≤ R.cells) (hRslots : slots + nb ≤ R.slots) (hlocks : meth.locks = false)
    (k : ∀ (H1 : Heap) (q9 : Addr) (ce : Cell), H.size ≤ H1.size → (∀ q : Nat, q < H.size → H1[q]? = H[q]?) → va_S A s.heap H1 locs → H1[q9]? = some ce → ce.vm = .none → s.vm.findClass "java/lang/NullPointerException" = some ce.cls → vx_W p l e R s m args below meth c H1 locs (cells + 1) (slots + nb) Q (F0 m pc ls rest) q9) :
    vx_NoteN p l e R s m args below meth c H locs cells slots Q (F0 m pc ls rest) := by
  intro T hT X
  have htr : e.platform.stackTraces = false := (show e.platform.stackTraces = l.stackTraces by rw [X.admits.platform]).trans hl
  have Y := vx_rebase X (R' := { frames := R.frames, locals := R.locals, cells := 1, slots := nb }) (Nat.le_refl _) (Nat.le_refl _) hRcells hRslots
  have hhp : ((T.setVm s.vm).setFrames (.invoking m args :: below)).heap = H := hT
  have hW0 : s.WarmedH ((T.setVm s.vm).setFrames (.invoking m args :: below)).vm := State.WarmedH.refl s
  have hat' : ∀ w ∈ vx_atN nb, w.before args ((T.setVm s.vm).setFrames (.invoking m args :: below)) = true := fun w hw => vx_ot_at hW0 rfl (hgood w hw) (hat w hw)
  have hU' : vx_Zq Bundle.tN "UNASSIGNED_STACK" Bundle.steD A ((T.setVm s.vm).setFrames (.invoking m args :: below)) ((T.setVm s.vm).setFrames (.invoking m args :: below)).heap := by rw [hhp]; exact vx_Zq.moved hW0.alike (hU.kept hS.2.1)
  have hN' : vx_Zq Bundle.tN "SUPPRESSED_SENTINEL" Bundle.listD A ((T.setVm s.vm).setFrames (.invoking m args :: below)) ((T.setVm s.vm).setFrames (.invoking m args :: below)).heap := by rw [hhp]; exact vx_Zq.moved hW0.alike (hN.kept hS.2.1)
  obtain ⟨S, q, ce, st, Z, hce, hcl', hv⟩ := vx_npeAt Y hexec htr (n := nb) (vx_own hat' (vx_isRefq hU'.1) (vx_isRefq hN'.1) hU'.2.word hN'.2.word) (fun x hx => nomatch hx)
    (g := F0 m pc ls rest) rfl hsize hRframes (by show 2 * 0 + (rest.map fun v => v.category).sum + 10240 ≤ R.locals; omega) (by show 0 + 1 ≤ 1; omega) (by show 0 + nb ≤ nb; omega) hlocks
  obtain ⟨f1, f2⟩ := vx_frame Z.same
  have f1' : H.size ≤ S.heap.size := by rw [← hT]; exact f1
  have f2' : ∀ q : Nat, q < H.size → S.heap[q]? = H[q]? := fun q hq => by
    rw [← hT]
    exact f2 q (by rw [← hT] at hq; exact hq) (fun z hz => nomatch hz)
  have X5 := vx_back9 X Y Z
  have X6 : Stand p l e R s m args below meth c S locs (cells + 1) (slots + nb) := { X5 with same := X5.same.mono (by omega) (by omega) }
  obtain ⟨t, a1, b1⟩ := k S.heap q ce f1' f2' ⟨Nat.le_trans hS.1 f1', fun q h1 h2 => (f2' q (Nat.lt_of_lt_of_le h1 hS.1)).trans (hS.2.1 q h1 h2), hS.2.2⟩ hce hv hcl' S rfl X6
  exact ⟨t, st t a1, b1⟩
variable {Q : State → Prop} {cc : ByteArray} {pc : Nat} {ls : Array Slot} {rest : List Value}
theorem vx_idivZ (hexec : p.tables.exec = Jvm.exec) (hb : c.code = cc) {a b : Int32} (h0 : b = 0) (d : decode cc pc = .ok (.idiv, 1)) (k : vx_Note p l e R s m args below meth c H locs cells slots Q (F0 m pc ls rest) "java/lang/ArithmeticException" "/ by zero") :
    W p l e R s m args below meth c H locs cells slots Q (F0 m pc ls (.int b :: .int a :: rest)) := by
  intro T hT X
  obtain ⟨t, st, q⟩ := k T hT X
  exact ⟨t, X.idivZero hexec (g := F0 m pc ls (.int b :: .int a :: rest)) rfl (a := a) (rest := rest) (by rw [h0]) (by rw [hb]; exact d) t st, q⟩
theorem vx_iremZ (hexec : p.tables.exec = Jvm.exec) (hb : c.code = cc) {a b : Int32} (h0 : b = 0) (d : decode cc pc = .ok (.irem, 1)) (k : vx_Note p l e R s m args below meth c H locs cells slots Q (F0 m pc ls rest) "java/lang/ArithmeticException" "/ by zero") :
    W p l e R s m args below meth c H locs cells slots Q (F0 m pc ls (.int b :: .int a :: rest)) := by
  intro T hT X
  obtain ⟨t, st, q⟩ := k T hT X
  exact ⟨t, X.iremZero hexec (g := F0 m pc ls (.int b :: .int a :: rest)) rfl (a := a) (rest := rest) (by rw [h0]) (by rw [hb]; exact d) t st, q⟩
theorem vx_ldivZ (hexec : p.tables.exec = Jvm.exec) (hb : c.code = cc) {a b : Int64} (h0 : b = 0) (d : decode cc pc = .ok (.ldiv, 1)) (k : vx_Note p l e R s m args below meth c H locs cells slots Q (F0 m pc ls rest) "java/lang/ArithmeticException" "/ by zero") :
    W p l e R s m args below meth c H locs cells slots Q (F0 m pc ls (.long b :: .long a :: rest)) := by
  intro T hT X
  obtain ⟨t, st, q⟩ := k T hT X
  exact ⟨t, X.ldivZero hexec (g := F0 m pc ls (.long b :: .long a :: rest)) rfl (a := a) (rest := rest) (by rw [h0]) (by rw [hb]; exact d) t st, q⟩
theorem vx_lremZ (hexec : p.tables.exec = Jvm.exec) (hb : c.code = cc) {a b : Int64} (h0 : b = 0) (d : decode cc pc = .ok (.lrem, 1)) (k : vx_Note p l e R s m args below meth c H locs cells slots Q (F0 m pc ls rest) "java/lang/ArithmeticException" "/ by zero") :
    W p l e R s m args below meth c H locs cells slots Q (F0 m pc ls (.long b :: .long a :: rest)) := by
  intro T hT X
  obtain ⟨t, st, q⟩ := k T hT X
  exact ⟨t, X.lremZero hexec (g := F0 m pc ls (.long b :: .long a :: rest)) rfl (a := a) (rest := rest) (by rw [h0]) (by rw [hb]; exact d) t st, q⟩
theorem vx_ialdZ {D : va_G} {cl : List vw_C} {ws : va_W} {tys : List (ClassId × FieldType)} {a : Nat} (hexec : p.tables.exec = Jvm.exec) (hb : c.code = cc) (hK : va_K D cl tys s) (hP : va_P D cl ws H) (q0 t0 : Nat) {cA : ClassId} {n : Nat} {f : Nat → Int32} (ha : ws[q0]? = some (a, .inl (cA, n, .inl f))) (ht : tys[t0]? = some (cA, .int)) {i : Int32} (hout : ¬ vp_in i n) (hdg : decode cc pc = .ok (.iaload, 1))
    (k : ∀ tx : String, tx = (toString "Index " ++ toString i ++ toString " out of bounds for length " ++ toString n : String) → vx_Note p l e R s m args below meth c H locs cells slots Q (F0 m pc ls rest) "java/lang/ArrayIndexOutOfBoundsException" tx) : W p l e R s m args below meth c H locs cells slots Q (F0 m pc ls (.int i :: .ref a :: rest)) := by
  intro T hT X
  obtain ⟨t, st, q⟩ := k _ rfl T hT X
  refine ⟨t, ?_, q⟩
  have h1 := X.ialoadOut hexec (by rw [hT]; exact hP q0 _ ha) ((hK.2 t0 _ ht).1 n (fun j => .int (f j))) (j := i) (by show (i < 0 ∨ (arrV _ _ _).slots.size ≤ _); rw [arrV_size]; exact Classical.byContradiction hout) (g := F0 m pc ls (.int i :: .ref a :: rest)) rfl (rest := rest) rfl (by rw [hb]; exact hdg) t
  simp only [arrV_size] at h1
  exact h1 st
theorem vx_iastZ {D : va_G} {cl : List vw_C} {ws : va_W} {tys : List (ClassId × FieldType)} {a : Nat} (hexec : p.tables.exec = Jvm.exec) (hb : c.code = cc) (hK : va_K D cl tys s) (hP : va_P D cl ws H) (q0 t0 : Nat) {cA : ClassId} {n : Nat} {f : Nat → Int32} (ha : ws[q0]? = some (a, .inl (cA, n, .inl f))) (ht : tys[t0]? = some (cA, .int)) {i : Int32} {x : Int32} (hout : ¬ vp_in i n) (hdg : decode cc pc = .ok (.iastore, 1))
    (k : ∀ tx : String, tx = (toString "Index " ++ toString i ++ toString " out of bounds for length " ++ toString n : String) → vx_Note p l e R s m args below meth c H locs cells slots Q (F0 m pc ls rest) "java/lang/ArrayIndexOutOfBoundsException" tx) : W p l e R s m args below meth c H locs cells slots Q (F0 m pc ls (.int x :: .int i :: .ref a :: rest)) := by
  intro T hT X
  obtain ⟨t, st, q⟩ := k _ rfl T hT X
  refine ⟨t, ?_, q⟩
  have h1 := X.iastoreOut hexec (by rw [hT]; exact hP q0 _ ha) ((hK.2 t0 _ ht).1 n (fun j => .int (f j))) (j := i) (by show (i < 0 ∨ (arrV _ _ _).slots.size ≤ _); rw [arrV_size]; exact Classical.byContradiction hout) (g := F0 m pc ls (.int x :: .int i :: .ref a :: rest)) rfl (rest := rest) rfl (by rw [hb]; exact hdg) t
  simp only [arrV_size] at h1
  exact h1 st
theorem vx_baldZ {D : va_G} {cl : List vw_C} {ws : va_W} {tys : List (ClassId × FieldType)} {a : Nat} (hexec : p.tables.exec = Jvm.exec) (hb : c.code = cc) (hK : va_K D cl tys s) (hP : va_P D cl ws H) (q0 t0 : Nat) {cA : ClassId} {n : Nat} {f : Nat → Int32} (ha : ws[q0]? = some (a, .inl (cA, n, .inl f))) (ht : tys[t0]? = some (cA, .byte)) {i : Int32} (hout : ¬ vp_in i n) (hdg : decode cc pc = .ok (.baload, 1))
    (k : ∀ tx : String, tx = (toString "Index " ++ toString i ++ toString " out of bounds for length " ++ toString n : String) → vx_Note p l e R s m args below meth c H locs cells slots Q (F0 m pc ls rest) "java/lang/ArrayIndexOutOfBoundsException" tx) : W p l e R s m args below meth c H locs cells slots Q (F0 m pc ls (.int i :: .ref a :: rest)) := by
  intro T hT X
  obtain ⟨t, st, q⟩ := k _ rfl T hT X
  refine ⟨t, ?_, q⟩
  have h1 := X.baloadOut hexec (by rw [hT]; exact hP q0 _ ha) ((hK.2 t0 _ ht).1 n (fun j => .int (f j))) (j := i) (by show (i < 0 ∨ (arrV _ _ _).slots.size ≤ _); rw [arrV_size]; exact Classical.byContradiction hout) (g := F0 m pc ls (.int i :: .ref a :: rest)) rfl (rest := rest) rfl (by rw [hb]; exact hdg) t
  simp only [arrV_size] at h1
  exact h1 st
theorem vx_bastZ {D : va_G} {cl : List vw_C} {ws : va_W} {tys : List (ClassId × FieldType)} {a : Nat} (hexec : p.tables.exec = Jvm.exec) (hb : c.code = cc) (hK : va_K D cl tys s) (hP : va_P D cl ws H) (q0 t0 : Nat) {cA : ClassId} {n : Nat} {f : Nat → Int32} (ha : ws[q0]? = some (a, .inl (cA, n, .inl f))) (ht : tys[t0]? = some (cA, .byte)) {i : Int32} {x : Int32} (hout : ¬ vp_in i n) (hdg : decode cc pc = .ok (.bastore, 1))
    (k : ∀ tx : String, tx = (toString "Index " ++ toString i ++ toString " out of bounds for length " ++ toString n : String) → vx_Note p l e R s m args below meth c H locs cells slots Q (F0 m pc ls rest) "java/lang/ArrayIndexOutOfBoundsException" tx) : W p l e R s m args below meth c H locs cells slots Q (F0 m pc ls (.int x :: .int i :: .ref a :: rest)) := by
  intro T hT X
  obtain ⟨t, st, q⟩ := k _ rfl T hT X
  refine ⟨t, ?_, q⟩
  have h1 := X.bastoreOut hexec (by rw [hT]; exact hP q0 _ ha) ((hK.2 t0 _ ht).1 n (fun j => .int (f j))) (j := i) (by show (i < 0 ∨ (arrV _ _ _).slots.size ≤ _); rw [arrV_size]; exact Classical.byContradiction hout) (g := F0 m pc ls (.int x :: .int i :: .ref a :: rest)) rfl (rest := rest) rfl (by rw [hb]; exact hdg) t
  simp only [arrV_size] at h1
  exact h1 st
theorem vx_zaldZ {D : va_G} {cl : List vw_C} {ws : va_W} {tys : List (ClassId × FieldType)} {a : Nat} (hexec : p.tables.exec = Jvm.exec) (hb : c.code = cc) (hK : va_K D cl tys s) (hP : va_P D cl ws H) (q0 t0 : Nat) {cA : ClassId} {n : Nat} {f : Nat → Int32} (ha : ws[q0]? = some (a, .inl (cA, n, .inl f))) (ht : tys[t0]? = some (cA, .boolean)) {i : Int32} (hout : ¬ vp_in i n) (hdg : decode cc pc = .ok (.baload, 1))
    (k : ∀ tx : String, tx = (toString "Index " ++ toString i ++ toString " out of bounds for length " ++ toString n : String) → vx_Note p l e R s m args below meth c H locs cells slots Q (F0 m pc ls rest) "java/lang/ArrayIndexOutOfBoundsException" tx) : W p l e R s m args below meth c H locs cells slots Q (F0 m pc ls (.int i :: .ref a :: rest)) := by
  intro T hT X
  obtain ⟨t, st, q⟩ := k _ rfl T hT X
  refine ⟨t, ?_, q⟩
  have h1 := X.baloadOut hexec (by rw [hT]; exact hP q0 _ ha) ((hK.2 t0 _ ht).1 n (fun j => .int (f j))) (j := i) (by show (i < 0 ∨ (arrV _ _ _).slots.size ≤ _); rw [arrV_size]; exact Classical.byContradiction hout) (g := F0 m pc ls (.int i :: .ref a :: rest)) rfl (rest := rest) rfl (by rw [hb]; exact hdg) t
  simp only [arrV_size] at h1
  exact h1 st
theorem vx_zastZ {D : va_G} {cl : List vw_C} {ws : va_W} {tys : List (ClassId × FieldType)} {a : Nat} (hexec : p.tables.exec = Jvm.exec) (hb : c.code = cc) (hK : va_K D cl tys s) (hP : va_P D cl ws H) (q0 t0 : Nat) {cA : ClassId} {n : Nat} {f : Nat → Int32} (ha : ws[q0]? = some (a, .inl (cA, n, .inl f))) (ht : tys[t0]? = some (cA, .boolean)) {i : Int32} {x : Int32} (hout : ¬ vp_in i n) (hdg : decode cc pc = .ok (.bastore, 1))
    (k : ∀ tx : String, tx = (toString "Index " ++ toString i ++ toString " out of bounds for length " ++ toString n : String) → vx_Note p l e R s m args below meth c H locs cells slots Q (F0 m pc ls rest) "java/lang/ArrayIndexOutOfBoundsException" tx) : W p l e R s m args below meth c H locs cells slots Q (F0 m pc ls (.int x :: .int i :: .ref a :: rest)) := by
  intro T hT X
  obtain ⟨t, st, q⟩ := k _ rfl T hT X
  refine ⟨t, ?_, q⟩
  have h1 := X.bastoreOut hexec (by rw [hT]; exact hP q0 _ ha) ((hK.2 t0 _ ht).1 n (fun j => .int (f j))) (j := i) (by show (i < 0 ∨ (arrV _ _ _).slots.size ≤ _); rw [arrV_size]; exact Classical.byContradiction hout) (g := F0 m pc ls (.int x :: .int i :: .ref a :: rest)) rfl (rest := rest) rfl (by rw [hb]; exact hdg) t
  simp only [arrV_size] at h1
  exact h1 st
theorem vx_caldZ {D : va_G} {cl : List vw_C} {ws : va_W} {tys : List (ClassId × FieldType)} {a : Nat} (hexec : p.tables.exec = Jvm.exec) (hb : c.code = cc) (hK : va_K D cl tys s) (hP : va_P D cl ws H) (q0 t0 : Nat) {cA : ClassId} {n : Nat} {f : Nat → Int32} (ha : ws[q0]? = some (a, .inl (cA, n, .inl f))) (ht : tys[t0]? = some (cA, .char)) {i : Int32} (hout : ¬ vp_in i n) (hdg : decode cc pc = .ok (.caload, 1))
    (k : ∀ tx : String, tx = (toString "Index " ++ toString i ++ toString " out of bounds for length " ++ toString n : String) → vx_Note p l e R s m args below meth c H locs cells slots Q (F0 m pc ls rest) "java/lang/ArrayIndexOutOfBoundsException" tx) : W p l e R s m args below meth c H locs cells slots Q (F0 m pc ls (.int i :: .ref a :: rest)) := by
  intro T hT X
  obtain ⟨t, st, q⟩ := k _ rfl T hT X
  refine ⟨t, ?_, q⟩
  have h1 := X.caloadOut hexec (by rw [hT]; exact hP q0 _ ha) ((hK.2 t0 _ ht).1 n (fun j => .int (f j))) (j := i) (by show (i < 0 ∨ (arrV _ _ _).slots.size ≤ _); rw [arrV_size]; exact Classical.byContradiction hout) (g := F0 m pc ls (.int i :: .ref a :: rest)) rfl (rest := rest) rfl (by rw [hb]; exact hdg) t
  simp only [arrV_size] at h1
  exact h1 st
theorem vx_castZ {D : va_G} {cl : List vw_C} {ws : va_W} {tys : List (ClassId × FieldType)} {a : Nat} (hexec : p.tables.exec = Jvm.exec) (hb : c.code = cc) (hK : va_K D cl tys s) (hP : va_P D cl ws H) (q0 t0 : Nat) {cA : ClassId} {n : Nat} {f : Nat → Int32} (ha : ws[q0]? = some (a, .inl (cA, n, .inl f))) (ht : tys[t0]? = some (cA, .char)) {i : Int32} {x : Int32} (hout : ¬ vp_in i n) (hdg : decode cc pc = .ok (.castore, 1))
    (k : ∀ tx : String, tx = (toString "Index " ++ toString i ++ toString " out of bounds for length " ++ toString n : String) → vx_Note p l e R s m args below meth c H locs cells slots Q (F0 m pc ls rest) "java/lang/ArrayIndexOutOfBoundsException" tx) : W p l e R s m args below meth c H locs cells slots Q (F0 m pc ls (.int x :: .int i :: .ref a :: rest)) := by
  intro T hT X
  obtain ⟨t, st, q⟩ := k _ rfl T hT X
  refine ⟨t, ?_, q⟩
  have h1 := X.castoreOut hexec (by rw [hT]; exact hP q0 _ ha) ((hK.2 t0 _ ht).1 n (fun j => .int (f j))) (j := i) (by show (i < 0 ∨ (arrV _ _ _).slots.size ≤ _); rw [arrV_size]; exact Classical.byContradiction hout) (g := F0 m pc ls (.int x :: .int i :: .ref a :: rest)) rfl (rest := rest) rfl (by rw [hb]; exact hdg) t
  simp only [arrV_size] at h1
  exact h1 st
theorem vx_saldZ {D : va_G} {cl : List vw_C} {ws : va_W} {tys : List (ClassId × FieldType)} {a : Nat} (hexec : p.tables.exec = Jvm.exec) (hb : c.code = cc) (hK : va_K D cl tys s) (hP : va_P D cl ws H) (q0 t0 : Nat) {cA : ClassId} {n : Nat} {f : Nat → Int32} (ha : ws[q0]? = some (a, .inl (cA, n, .inl f))) (ht : tys[t0]? = some (cA, .short)) {i : Int32} (hout : ¬ vp_in i n) (hdg : decode cc pc = .ok (.saload, 1))
    (k : ∀ tx : String, tx = (toString "Index " ++ toString i ++ toString " out of bounds for length " ++ toString n : String) → vx_Note p l e R s m args below meth c H locs cells slots Q (F0 m pc ls rest) "java/lang/ArrayIndexOutOfBoundsException" tx) : W p l e R s m args below meth c H locs cells slots Q (F0 m pc ls (.int i :: .ref a :: rest)) := by
  intro T hT X
  obtain ⟨t, st, q⟩ := k _ rfl T hT X
  refine ⟨t, ?_, q⟩
  have h1 := X.saloadOut hexec (by rw [hT]; exact hP q0 _ ha) ((hK.2 t0 _ ht).1 n (fun j => .int (f j))) (j := i) (by show (i < 0 ∨ (arrV _ _ _).slots.size ≤ _); rw [arrV_size]; exact Classical.byContradiction hout) (g := F0 m pc ls (.int i :: .ref a :: rest)) rfl (rest := rest) rfl (by rw [hb]; exact hdg) t
  simp only [arrV_size] at h1
  exact h1 st
theorem vx_sastZ {D : va_G} {cl : List vw_C} {ws : va_W} {tys : List (ClassId × FieldType)} {a : Nat} (hexec : p.tables.exec = Jvm.exec) (hb : c.code = cc) (hK : va_K D cl tys s) (hP : va_P D cl ws H) (q0 t0 : Nat) {cA : ClassId} {n : Nat} {f : Nat → Int32} (ha : ws[q0]? = some (a, .inl (cA, n, .inl f))) (ht : tys[t0]? = some (cA, .short)) {i : Int32} {x : Int32} (hout : ¬ vp_in i n) (hdg : decode cc pc = .ok (.sastore, 1))
    (k : ∀ tx : String, tx = (toString "Index " ++ toString i ++ toString " out of bounds for length " ++ toString n : String) → vx_Note p l e R s m args below meth c H locs cells slots Q (F0 m pc ls rest) "java/lang/ArrayIndexOutOfBoundsException" tx) : W p l e R s m args below meth c H locs cells slots Q (F0 m pc ls (.int x :: .int i :: .ref a :: rest)) := by
  intro T hT X
  obtain ⟨t, st, q⟩ := k _ rfl T hT X
  refine ⟨t, ?_, q⟩
  have h1 := X.sastoreOut hexec (by rw [hT]; exact hP q0 _ ha) ((hK.2 t0 _ ht).1 n (fun j => .int (f j))) (j := i) (by show (i < 0 ∨ (arrV _ _ _).slots.size ≤ _); rw [arrV_size]; exact Classical.byContradiction hout) (g := F0 m pc ls (.int x :: .int i :: .ref a :: rest)) rfl (rest := rest) rfl (by rw [hb]; exact hdg) t
  simp only [arrV_size] at h1
  exact h1 st
theorem vx_laldZ {D : va_G} {cl : List vw_C} {ws : va_W} {tys : List (ClassId × FieldType)} {a : Nat} (hexec : p.tables.exec = Jvm.exec) (hb : c.code = cc) (hK : va_K D cl tys s) (hP : va_P D cl ws H) (q0 t0 : Nat) {cA : ClassId} {n : Nat} {f : Nat → Int64} (ha : ws[q0]? = some (a, .inl (cA, n, .inr (.inl f)))) (ht : tys[t0]? = some (cA, .long)) {i : Int32} (hout : ¬ vp_in i n) (hdg : decode cc pc = .ok (.laload, 1))
    (k : ∀ tx : String, tx = (toString "Index " ++ toString i ++ toString " out of bounds for length " ++ toString n : String) → vx_Note p l e R s m args below meth c H locs cells slots Q (F0 m pc ls rest) "java/lang/ArrayIndexOutOfBoundsException" tx) : W p l e R s m args below meth c H locs cells slots Q (F0 m pc ls (.int i :: .ref a :: rest)) := by
  intro T hT X
  obtain ⟨t, st, q⟩ := k _ rfl T hT X
  refine ⟨t, ?_, q⟩
  have h1 := X.laloadOut hexec (by rw [hT]; exact hP q0 _ ha) ((hK.2 t0 _ ht).1 n (fun j => .long (f j))) (j := i) (by show (i < 0 ∨ (arrV _ _ _).slots.size ≤ _); rw [arrV_size]; exact Classical.byContradiction hout) (g := F0 m pc ls (.int i :: .ref a :: rest)) rfl (rest := rest) rfl (by rw [hb]; exact hdg) t
  simp only [arrV_size] at h1
  exact h1 st
theorem vx_lastZ {D : va_G} {cl : List vw_C} {ws : va_W} {tys : List (ClassId × FieldType)} {a : Nat} (hexec : p.tables.exec = Jvm.exec) (hb : c.code = cc) (hK : va_K D cl tys s) (hP : va_P D cl ws H) (q0 t0 : Nat) {cA : ClassId} {n : Nat} {f : Nat → Int64} (ha : ws[q0]? = some (a, .inl (cA, n, .inr (.inl f)))) (ht : tys[t0]? = some (cA, .long)) {i : Int32} {x : Int64} (hout : ¬ vp_in i n) (hdg : decode cc pc = .ok (.lastore, 1))
    (k : ∀ tx : String, tx = (toString "Index " ++ toString i ++ toString " out of bounds for length " ++ toString n : String) → vx_Note p l e R s m args below meth c H locs cells slots Q (F0 m pc ls rest) "java/lang/ArrayIndexOutOfBoundsException" tx) : W p l e R s m args below meth c H locs cells slots Q (F0 m pc ls (.long x :: .int i :: .ref a :: rest)) := by
  intro T hT X
  obtain ⟨t, st, q⟩ := k _ rfl T hT X
  refine ⟨t, ?_, q⟩
  have h1 := X.lastoreOut hexec (by rw [hT]; exact hP q0 _ ha) ((hK.2 t0 _ ht).1 n (fun j => .long (f j))) (j := i) (by show (i < 0 ∨ (arrV _ _ _).slots.size ≤ _); rw [arrV_size]; exact Classical.byContradiction hout) (g := F0 m pc ls (.long x :: .int i :: .ref a :: rest)) rfl (rest := rest) rfl (by rw [hb]; exact hdg) t
  simp only [arrV_size] at h1
  exact h1 st
theorem vx_faldZ {D : va_G} {cl : List vw_C} {ws : va_W} {tys : List (ClassId × FieldType)} {a : Nat} (hexec : p.tables.exec = Jvm.exec) (hb : c.code = cc) (hK : va_K D cl tys s) (hP : va_P D cl ws H) (q0 t0 : Nat) {cA : ClassId} {n : Nat} {f : Nat → UInt32} (ha : ws[q0]? = some (a, .inl (cA, n, .inr (.inr (.inl f))))) (ht : tys[t0]? = some (cA, .float)) {i : Int32} (hout : ¬ vp_in i n) (hdg : decode cc pc = .ok (.faload, 1))
    (k : ∀ tx : String, tx = (toString "Index " ++ toString i ++ toString " out of bounds for length " ++ toString n : String) → vx_Note p l e R s m args below meth c H locs cells slots Q (F0 m pc ls rest) "java/lang/ArrayIndexOutOfBoundsException" tx) : W p l e R s m args below meth c H locs cells slots Q (F0 m pc ls (.int i :: .ref a :: rest)) := by
  intro T hT X
  obtain ⟨t, st, q⟩ := k _ rfl T hT X
  refine ⟨t, ?_, q⟩
  have h1 := X.faloadOut hexec (by rw [hT]; exact hP q0 _ ha) ((hK.2 t0 _ ht).1 n (fun j => .float (f j))) (j := i) (by show (i < 0 ∨ (arrV _ _ _).slots.size ≤ _); rw [arrV_size]; exact Classical.byContradiction hout) (g := F0 m pc ls (.int i :: .ref a :: rest)) rfl (rest := rest) rfl (by rw [hb]; exact hdg) t
  simp only [arrV_size] at h1
  exact h1 st
theorem vx_fastZ {D : va_G} {cl : List vw_C} {ws : va_W} {tys : List (ClassId × FieldType)} {a : Nat} (hexec : p.tables.exec = Jvm.exec) (hb : c.code = cc) (hK : va_K D cl tys s) (hP : va_P D cl ws H) (q0 t0 : Nat) {cA : ClassId} {n : Nat} {f : Nat → UInt32} (ha : ws[q0]? = some (a, .inl (cA, n, .inr (.inr (.inl f))))) (ht : tys[t0]? = some (cA, .float)) {i : Int32} {x : UInt32} (hout : ¬ vp_in i n) (hdg : decode cc pc = .ok (.fastore, 1))
    (k : ∀ tx : String, tx = (toString "Index " ++ toString i ++ toString " out of bounds for length " ++ toString n : String) → vx_Note p l e R s m args below meth c H locs cells slots Q (F0 m pc ls rest) "java/lang/ArrayIndexOutOfBoundsException" tx) : W p l e R s m args below meth c H locs cells slots Q (F0 m pc ls (.float x :: .int i :: .ref a :: rest)) := by
  intro T hT X
  obtain ⟨t, st, q⟩ := k _ rfl T hT X
  refine ⟨t, ?_, q⟩
  have h1 := X.fastoreOut hexec (by rw [hT]; exact hP q0 _ ha) ((hK.2 t0 _ ht).1 n (fun j => .float (f j))) (j := i) (by show (i < 0 ∨ (arrV _ _ _).slots.size ≤ _); rw [arrV_size]; exact Classical.byContradiction hout) (g := F0 m pc ls (.float x :: .int i :: .ref a :: rest)) rfl (rest := rest) rfl (by rw [hb]; exact hdg) t
  simp only [arrV_size] at h1
  exact h1 st
theorem vx_daldZ {D : va_G} {cl : List vw_C} {ws : va_W} {tys : List (ClassId × FieldType)} {a : Nat} (hexec : p.tables.exec = Jvm.exec) (hb : c.code = cc) (hK : va_K D cl tys s) (hP : va_P D cl ws H) (q0 t0 : Nat) {cA : ClassId} {n : Nat} {f : Nat → UInt64} (ha : ws[q0]? = some (a, .inl (cA, n, .inr (.inr (.inr (.inl f)))))) (ht : tys[t0]? = some (cA, .double)) {i : Int32} (hout : ¬ vp_in i n) (hdg : decode cc pc = .ok (.daload, 1))
    (k : ∀ tx : String, tx = (toString "Index " ++ toString i ++ toString " out of bounds for length " ++ toString n : String) → vx_Note p l e R s m args below meth c H locs cells slots Q (F0 m pc ls rest) "java/lang/ArrayIndexOutOfBoundsException" tx) : W p l e R s m args below meth c H locs cells slots Q (F0 m pc ls (.int i :: .ref a :: rest)) := by
  intro T hT X
  obtain ⟨t, st, q⟩ := k _ rfl T hT X
  refine ⟨t, ?_, q⟩
  have h1 := X.daloadOut hexec (by rw [hT]; exact hP q0 _ ha) ((hK.2 t0 _ ht).1 n (fun j => .double (f j))) (j := i) (by show (i < 0 ∨ (arrV _ _ _).slots.size ≤ _); rw [arrV_size]; exact Classical.byContradiction hout) (g := F0 m pc ls (.int i :: .ref a :: rest)) rfl (rest := rest) rfl (by rw [hb]; exact hdg) t
  simp only [arrV_size] at h1
  exact h1 st
theorem vx_dastZ {D : va_G} {cl : List vw_C} {ws : va_W} {tys : List (ClassId × FieldType)} {a : Nat} (hexec : p.tables.exec = Jvm.exec) (hb : c.code = cc) (hK : va_K D cl tys s) (hP : va_P D cl ws H) (q0 t0 : Nat) {cA : ClassId} {n : Nat} {f : Nat → UInt64} (ha : ws[q0]? = some (a, .inl (cA, n, .inr (.inr (.inr (.inl f)))))) (ht : tys[t0]? = some (cA, .double)) {i : Int32} {x : UInt64} (hout : ¬ vp_in i n) (hdg : decode cc pc = .ok (.dastore, 1))
    (k : ∀ tx : String, tx = (toString "Index " ++ toString i ++ toString " out of bounds for length " ++ toString n : String) → vx_Note p l e R s m args below meth c H locs cells slots Q (F0 m pc ls rest) "java/lang/ArrayIndexOutOfBoundsException" tx) : W p l e R s m args below meth c H locs cells slots Q (F0 m pc ls (.double x :: .int i :: .ref a :: rest)) := by
  intro T hT X
  obtain ⟨t, st, q⟩ := k _ rfl T hT X
  refine ⟨t, ?_, q⟩
  have h1 := X.dastoreOut hexec (by rw [hT]; exact hP q0 _ ha) ((hK.2 t0 _ ht).1 n (fun j => .double (f j))) (j := i) (by show (i < 0 ∨ (arrV _ _ _).slots.size ≤ _); rw [arrV_size]; exact Classical.byContradiction hout) (g := F0 m pc ls (.double x :: .int i :: .ref a :: rest)) rfl (rest := rest) rfl (by rw [hb]; exact hdg) t
  simp only [arrV_size] at h1
  exact h1 st
theorem vx_arraylengthN (hexec : p.tables.exec = Jvm.exec) (hb : c.code = cc) (hdg : decode cc pc = .ok (.arraylength, 1)) (k : vx_NoteN p l e R s m args below meth c H locs cells slots Q (F0 m pc ls rest)) : W p l e R s m args below meth c H locs cells slots Q (F0 m pc ls (.null :: rest)) := by
  intro T hT X
  obtain ⟨t, st, q⟩ := k T hT X
  exact ⟨t, X.arraylengthNull hexec (g := F0 m pc ls (.null :: rest)) rfl (rest := rest) rfl (by rw [hb]; exact hdg) t st, q⟩
theorem vx_ialoadN (hexec : p.tables.exec = Jvm.exec) (hb : c.code = cc) {i : Int32} (hdg : decode cc pc = .ok (.iaload, 1)) (k : vx_NoteN p l e R s m args below meth c H locs cells slots Q (F0 m pc ls rest)) : W p l e R s m args below meth c H locs cells slots Q (F0 m pc ls (.int i :: .null :: rest)) := by
  intro T hT X
  obtain ⟨t, st, q⟩ := k T hT X
  exact ⟨t, X.ialoadNull hexec (g := F0 m pc ls (.int i :: .null :: rest)) rfl (rest := rest) rfl (by rw [hb]; exact hdg) t st, q⟩
theorem vx_laloadN (hexec : p.tables.exec = Jvm.exec) (hb : c.code = cc) {i : Int32} (hdg : decode cc pc = .ok (.laload, 1)) (k : vx_NoteN p l e R s m args below meth c H locs cells slots Q (F0 m pc ls rest)) : W p l e R s m args below meth c H locs cells slots Q (F0 m pc ls (.int i :: .null :: rest)) := by
  intro T hT X
  obtain ⟨t, st, q⟩ := k T hT X
  exact ⟨t, X.laloadNull hexec (g := F0 m pc ls (.int i :: .null :: rest)) rfl (rest := rest) rfl (by rw [hb]; exact hdg) t st, q⟩
theorem vx_faloadN (hexec : p.tables.exec = Jvm.exec) (hb : c.code = cc) {i : Int32} (hdg : decode cc pc = .ok (.faload, 1)) (k : vx_NoteN p l e R s m args below meth c H locs cells slots Q (F0 m pc ls rest)) : W p l e R s m args below meth c H locs cells slots Q (F0 m pc ls (.int i :: .null :: rest)) := by
  intro T hT X
  obtain ⟨t, st, q⟩ := k T hT X
  exact ⟨t, X.faloadNull hexec (g := F0 m pc ls (.int i :: .null :: rest)) rfl (rest := rest) rfl (by rw [hb]; exact hdg) t st, q⟩
theorem vx_daloadN (hexec : p.tables.exec = Jvm.exec) (hb : c.code = cc) {i : Int32} (hdg : decode cc pc = .ok (.daload, 1)) (k : vx_NoteN p l e R s m args below meth c H locs cells slots Q (F0 m pc ls rest)) : W p l e R s m args below meth c H locs cells slots Q (F0 m pc ls (.int i :: .null :: rest)) := by
  intro T hT X
  obtain ⟨t, st, q⟩ := k T hT X
  exact ⟨t, X.daloadNull hexec (g := F0 m pc ls (.int i :: .null :: rest)) rfl (rest := rest) rfl (by rw [hb]; exact hdg) t st, q⟩
theorem vx_aaloadN (hexec : p.tables.exec = Jvm.exec) (hb : c.code = cc) {i : Int32} (hdg : decode cc pc = .ok (.aaload, 1)) (k : vx_NoteN p l e R s m args below meth c H locs cells slots Q (F0 m pc ls rest)) : W p l e R s m args below meth c H locs cells slots Q (F0 m pc ls (.int i :: .null :: rest)) := by
  intro T hT X
  obtain ⟨t, st, q⟩ := k T hT X
  exact ⟨t, X.aaloadNull hexec (g := F0 m pc ls (.int i :: .null :: rest)) rfl (rest := rest) rfl (by rw [hb]; exact hdg) t st, q⟩
theorem vx_baloadN (hexec : p.tables.exec = Jvm.exec) (hb : c.code = cc) {i : Int32} (hdg : decode cc pc = .ok (.baload, 1)) (k : vx_NoteN p l e R s m args below meth c H locs cells slots Q (F0 m pc ls rest)) : W p l e R s m args below meth c H locs cells slots Q (F0 m pc ls (.int i :: .null :: rest)) := by
  intro T hT X
  obtain ⟨t, st, q⟩ := k T hT X
  exact ⟨t, X.baloadNull hexec (g := F0 m pc ls (.int i :: .null :: rest)) rfl (rest := rest) rfl (by rw [hb]; exact hdg) t st, q⟩
theorem vx_caloadN (hexec : p.tables.exec = Jvm.exec) (hb : c.code = cc) {i : Int32} (hdg : decode cc pc = .ok (.caload, 1)) (k : vx_NoteN p l e R s m args below meth c H locs cells slots Q (F0 m pc ls rest)) : W p l e R s m args below meth c H locs cells slots Q (F0 m pc ls (.int i :: .null :: rest)) := by
  intro T hT X
  obtain ⟨t, st, q⟩ := k T hT X
  exact ⟨t, X.caloadNull hexec (g := F0 m pc ls (.int i :: .null :: rest)) rfl (rest := rest) rfl (by rw [hb]; exact hdg) t st, q⟩
theorem vx_saloadN (hexec : p.tables.exec = Jvm.exec) (hb : c.code = cc) {i : Int32} (hdg : decode cc pc = .ok (.saload, 1)) (k : vx_NoteN p l e R s m args below meth c H locs cells slots Q (F0 m pc ls rest)) : W p l e R s m args below meth c H locs cells slots Q (F0 m pc ls (.int i :: .null :: rest)) := by
  intro T hT X
  obtain ⟨t, st, q⟩ := k T hT X
  exact ⟨t, X.saloadNull hexec (g := F0 m pc ls (.int i :: .null :: rest)) rfl (rest := rest) rfl (by rw [hb]; exact hdg) t st, q⟩
theorem vx_iastoreN (hexec : p.tables.exec = Jvm.exec) (hb : c.code = cc) {x : Int32} {i : Int32} (hdg : decode cc pc = .ok (.iastore, 1)) (k : vx_NoteN p l e R s m args below meth c H locs cells slots Q (F0 m pc ls rest)) : W p l e R s m args below meth c H locs cells slots Q (F0 m pc ls (.int x :: .int i :: .null :: rest)) := by
  intro T hT X
  obtain ⟨t, st, q⟩ := k T hT X
  exact ⟨t, X.iastoreNull hexec (g := F0 m pc ls (.int x :: .int i :: .null :: rest)) rfl (rest := rest) rfl (by rw [hb]; exact hdg) t st, q⟩
theorem vx_lastoreN (hexec : p.tables.exec = Jvm.exec) (hb : c.code = cc) {x : Int64} {i : Int32} (hdg : decode cc pc = .ok (.lastore, 1)) (k : vx_NoteN p l e R s m args below meth c H locs cells slots Q (F0 m pc ls rest)) : W p l e R s m args below meth c H locs cells slots Q (F0 m pc ls (.long x :: .int i :: .null :: rest)) := by
  intro T hT X
  obtain ⟨t, st, q⟩ := k T hT X
  exact ⟨t, X.lastoreNull hexec (g := F0 m pc ls (.long x :: .int i :: .null :: rest)) rfl (rest := rest) rfl (by rw [hb]; exact hdg) t st, q⟩
theorem vx_fastoreN (hexec : p.tables.exec = Jvm.exec) (hb : c.code = cc) {x : UInt32} {i : Int32} (hdg : decode cc pc = .ok (.fastore, 1)) (k : vx_NoteN p l e R s m args below meth c H locs cells slots Q (F0 m pc ls rest)) : W p l e R s m args below meth c H locs cells slots Q (F0 m pc ls (.float x :: .int i :: .null :: rest)) := by
  intro T hT X
  obtain ⟨t, st, q⟩ := k T hT X
  exact ⟨t, X.fastoreNull hexec (g := F0 m pc ls (.float x :: .int i :: .null :: rest)) rfl (rest := rest) rfl (by rw [hb]; exact hdg) t st, q⟩
theorem vx_dastoreN (hexec : p.tables.exec = Jvm.exec) (hb : c.code = cc) {x : UInt64} {i : Int32} (hdg : decode cc pc = .ok (.dastore, 1)) (k : vx_NoteN p l e R s m args below meth c H locs cells slots Q (F0 m pc ls rest)) : W p l e R s m args below meth c H locs cells slots Q (F0 m pc ls (.double x :: .int i :: .null :: rest)) := by
  intro T hT X
  obtain ⟨t, st, q⟩ := k T hT X
  exact ⟨t, X.dastoreNull hexec (g := F0 m pc ls (.double x :: .int i :: .null :: rest)) rfl (rest := rest) rfl (by rw [hb]; exact hdg) t st, q⟩
theorem vx_bastoreN (hexec : p.tables.exec = Jvm.exec) (hb : c.code = cc) {x : Int32} {i : Int32} (hdg : decode cc pc = .ok (.bastore, 1)) (k : vx_NoteN p l e R s m args below meth c H locs cells slots Q (F0 m pc ls rest)) : W p l e R s m args below meth c H locs cells slots Q (F0 m pc ls (.int x :: .int i :: .null :: rest)) := by
  intro T hT X
  obtain ⟨t, st, q⟩ := k T hT X
  exact ⟨t, X.bastoreNull hexec (g := F0 m pc ls (.int x :: .int i :: .null :: rest)) rfl (rest := rest) rfl (by rw [hb]; exact hdg) t st, q⟩
theorem vx_castoreN (hexec : p.tables.exec = Jvm.exec) (hb : c.code = cc) {x : Int32} {i : Int32} (hdg : decode cc pc = .ok (.castore, 1)) (k : vx_NoteN p l e R s m args below meth c H locs cells slots Q (F0 m pc ls rest)) : W p l e R s m args below meth c H locs cells slots Q (F0 m pc ls (.int x :: .int i :: .null :: rest)) := by
  intro T hT X
  obtain ⟨t, st, q⟩ := k T hT X
  exact ⟨t, X.castoreNull hexec (g := F0 m pc ls (.int x :: .int i :: .null :: rest)) rfl (rest := rest) rfl (by rw [hb]; exact hdg) t st, q⟩
theorem vx_sastoreN (hexec : p.tables.exec = Jvm.exec) (hb : c.code = cc) {x : Int32} {i : Int32} (hdg : decode cc pc = .ok (.sastore, 1)) (k : vx_NoteN p l e R s m args below meth c H locs cells slots Q (F0 m pc ls rest)) : W p l e R s m args below meth c H locs cells slots Q (F0 m pc ls (.int x :: .int i :: .null :: rest)) := by
  intro T hT X
  obtain ⟨t, st, q⟩ := k T hT X
  exact ⟨t, X.sastoreNull hexec (g := F0 m pc ls (.int x :: .int i :: .null :: rest)) rfl (rest := rest) rfl (by rw [hb]; exact hdg) t st, q⟩
theorem vx_invokeN {own C : String} {index maxL : Nat} {y : MethodName} {bytes : ByteArray} {ret : Option FieldType} (hexec : p.tables.exec = Jvm.exec) (hb : c.code = cc) (hown : s.vm.findClass own = some m.cls) (hlink : (Cond.methodLink own index y).before args s = true) (hinst : (Cond.instanceMethod y).before args s = true) (hcode : (Cond.code y bytes maxL ret).before args s = true) (hsel : (Cond.selects C y y).before args s = true)
    (hx : y.cls ≠ "java/lang/invoke/MethodHandle" ∧ y.cls ≠ "java/lang/invoke/VarHandle") {As : List Value} (hlen : (parseMethodDescriptor y.desc).map (fun d => d.parameters.length) = some As.length) (hdg : decode cc pc = .ok (.invokevirtual index, 3))
    (k : vx_NoteN p l e R s m args below meth c H locs cells slots Q (F0 m pc ls rest)) {st0 : List Value} (hst : st0 = As.reverse ++ .null :: rest) : W p l e R s m args below meth c H locs cells slots Q (F0 m pc ls st0) := by
  intro T hT X
  obtain ⟨r0, r, hn, hrm, hstR, hsigR⟩ := va_Decl.of hinst hcode
  obtain ⟨c2, r2, m2, q1, q2, q3, q4, kP, hkP, hkPi⟩ := Cond.selects_spec hsel
  cases hn.symm.trans q3
  have hl9 : As.length = r.sig.parameters.length := by
    rw [hsigR] at hlen
    exact (Option.some.inj hlen).symm
  obtain ⟨vm', X1, st1⟩ := X.invokevirtualNull hexec hown hlink hn hrm hstR hkP hkPi hx (g := F0 m pc ls st0) rfl (argsL := As) (rest := rest) hl9 hst (by rw [hb]; exact hdg)
  obtain ⟨t, st, q⟩ := k (T.setVm vm') hT X1
  exact ⟨t, st1 t st, q⟩
theorem vx_newarrayZ {atype : ArrayType} (hexec : p.tables.exec = Jvm.exec) (hb : c.code = cc) {n : Int32} (h0 : n < 0) (hdg : decode cc pc = .ok (.newarray atype, 2)) (k : ∀ tx : String, tx = toString n → vx_Note p l e R s m args below meth c H locs cells slots Q (F0 m pc ls rest) "java/lang/NegativeArraySizeException" tx) : W p l e R s m args below meth c H locs cells slots Q (F0 m pc ls (.int n :: rest)) := by
  intro T hT X
  obtain ⟨t, st, q⟩ := k _ rfl T hT X
  exact ⟨t, X.newarrayNegative hexec (g := F0 m pc ls (.int n :: rest)) rfl h0 (rest := rest) rfl (by rw [hb]; exact hdg) t st, q⟩
end
end VXM
/-! ===== END ===== -/
end
section
-- names, layouts: out of the printed names of this claim (a program picks the rows)
def RX0 : String := "BowFoundry$1"
def TX0 : u_T := fun k => match k with
  | _ => ("", "", "", false)
def tyX0 : Nat → FieldType := fun k => match k with
  | _ => .int
theorem nmX0 : ∀ a, a < 0 → ∀ b, b < 0 → a ≠ b → (TX0 a).2.1 ≠ (TX0 b).2.1 := by decide +kernel
theorem tyX0_ok : ∀ k, k < 0 → parseFieldDescriptor (TX0 k).2.2.1 = some (tyX0 k) := by decide +kernel
def RX1 : String := "BowFoundry$Batch"
def TX1 : u_T := fun k => match k with
  | 0 => ("BowFoundry$Batch", "number", "I", false)
  | 1 => ("BowFoundry$Batch", "first", "I", false)
  | 2 => ("BowFoundry$Batch", "size", "I", false)
  | 3 => ("BowFoundry$Batch", "alloy", "I", false)
  | 4 => ("BowFoundry$Batch", "failed", "Z", false)
  | _ => ("BowFoundry$Batch", "squeaks", "[I", true)
def tyX1 : Nat → FieldType := fun k => match k with
  | 0 => .int
  | 1 => .int
  | 2 => .int
  | 3 => .int
  | 4 => .boolean
  | _ => .array .int
theorem nmX1 : ∀ a, a < 6 → ∀ b, b < 6 → a ≠ b → (TX1 a).2.1 ≠ (TX1 b).2.1 := by decide +kernel
theorem tyX1_ok : ∀ k, k < 6 → parseFieldDescriptor (TX1 k).2.2.1 = some (tyX1 k) := by decide +kernel
abbrev cX1_init : ByteArray := prog_3_method_1_code
def yX1_init : MethodName := ⟨RX1, "<init>", "()V"⟩
abbrev cX1_copyFrom : ByteArray := prog_3_method_2_code
def yX1_copyFrom : MethodName := ⟨RX1, "copyFrom", "(LBowFoundry$Batch;)V"⟩
abbrev cX1_contains : ByteArray := prog_3_method_3_code
def yX1_contains : MethodName := ⟨RX1, "contains", "(I)Z"⟩
abbrev cX1_squeakSum : ByteArray := prog_3_method_4_code
def yX1_squeakSum : MethodName := ⟨RX1, "squeakSum", "()I"⟩
abbrev cX1_sampled : ByteArray := prog_3_method_5_code
def yX1_sampled : MethodName := ⟨RX1, "sampled", "(I)I"⟩
abbrev cX1_goodSampled : ByteArray := prog_3_method_6_code
def yX1_goodSampled : MethodName := ⟨RX1, "goodSampled", "(II)I"⟩
abbrev cX1_passes : ByteArray := prog_3_method_7_code
def yX1_passes : MethodName := ⟨RX1, "passes", "(II)Z"⟩
abbrev cX1_leastPassingSqueak : ByteArray := prog_3_method_8_code
def yX1_leastPassingSqueak : MethodName := ⟨RX1, "leastPassingSqueak", "(I)I"⟩
abbrev cX1_leastPassingTry : ByteArray := prog_3_method_9_code
def yX1_leastPassingTry : MethodName := ⟨RX1, "leastPassingTry", "(I)I"⟩
abbrev cX1_describe : ByteArray := prog_3_method_10_code
def yX1_describe : MethodName := ⟨RX1, "describe", "(Ljava/lang/StringBuilder;)V"⟩
def RX2 : String := "BowFoundry$Command"
def TX2 : u_T := fun k => match k with
  | _ => ("", "", "", false)
def tyX2 : Nat → FieldType := fun k => match k with
  | _ => .int
theorem nmX2 : ∀ a, a < 0 → ∀ b, b < 0 → a ≠ b → (TX2 a).2.1 ≠ (TX2 b).2.1 := by decide +kernel
theorem tyX2_ok : ∀ k, k < 0 → parseFieldDescriptor (TX2 k).2.2.1 = some (tyX2 k) := by decide +kernel
def RX3 : String := "BowFoundry$Script"
def TX3 : u_T := fun k => match k with
  | 0 => ("BowFoundry$Script", "text", "Ljava/lang/StringBuilder;", true)
  | 1 => ("BowFoundry$Script", "numbers", "[I", true)
  | 2 => ("BowFoundry$Script", "count", "I", false)
  | 3 => ("BowFoundry$Script", "position", "I", false)
  | _ => ("BowFoundry$Script", "commands", "I", false)
def tyX3 : Nat → FieldType := fun k => match k with
  | 0 => .object "java/lang/StringBuilder"
  | 1 => .array .int
  | 2 => .int
  | 3 => .int
  | _ => .int
theorem nmX3 : ∀ a, a < 5 → ∀ b, b < 5 → a ≠ b → (TX3 a).2.1 ≠ (TX3 b).2.1 := by decide +kernel
theorem tyX3_ok : ∀ k, k < 5 → parseFieldDescriptor (TX3 k).2.2.1 = some (tyX3 k) := by decide +kernel
abbrev cX3_init : ByteArray := prog_5_method_1_code
def yX3_init : MethodName := ⟨RX3, "<init>", "()V"⟩
abbrev cX3_length : ByteArray := prog_5_method_2_code
def yX3_length : MethodName := ⟨RX3, "length", "()I"⟩
abbrev cX3_append : ByteArray := prog_5_method_3_code
def yX3_append : MethodName := ⟨RX3, "append", "(C)I"⟩
abbrev cX3_clear : ByteArray := prog_5_method_4_code
def yX3_clear : MethodName := ⟨RX3, "clear", "()V"⟩
abbrev cX3_firstError : ByteArray := prog_5_method_5_code
def yX3_firstError : MethodName := ⟨RX3, "firstError", "()I"⟩
abbrev cX3_firstFailure : ByteArray := prog_5_method_6_code
def yX3_firstFailure : MethodName := ⟨RX3, "firstFailure", "(LBowFoundry$State;)I"⟩
abbrev cX3_run : ByteArray := prog_5_method_7_code
def yX3_run : MethodName := ⟨RX3, "run", "(LBowFoundry$Command;LBowFoundry$State;)I"⟩
abbrev cX3_nextCommand : ByteArray := prog_5_method_8_code
def yX3_nextCommand : MethodName := ⟨RX3, "nextCommand", "()LBowFoundry$Command;"⟩
abbrev cX3_takesForm : ByteArray := prog_5_method_9_code
def yX3_takesForm : MethodName := ⟨RX3, "takesForm", "(Ljava/lang/String;)Z"⟩
abbrev cX3_takes : ByteArray := prog_5_method_10_code
def yX3_takes : MethodName := ⟨RX3, "takes", "(C)Z"⟩
abbrev cX3_takesNumber : ByteArray := prog_5_method_11_code
def yX3_takesNumber : MethodName := ⟨RX3, "takesNumber", "(Z)Z"⟩
abbrev cX3_digit : ByteArray := prog_5_method_12_code
def yX3_digit : MethodName := ⟨RX3, "digit", "()I"⟩
def RX4 : String := "BowFoundry$State"
def TX4 : u_T := fun k => match k with
  | 0 => ("BowFoundry$State", "alloys", "I", false)
  | 1 => ("BowFoundry$State", "recipes", "[[I", true)
  | 2 => ("BowFoundry$State", "moulds", "I", false)
  | 3 => ("BowFoundry$State", "lengths", "[I", true)
  | 4 => ("BowFoundry$State", "usesRow", "[I", true)
  | 5 => ("BowFoundry$State", "stocks", "[I", true)
  | 6 => ("BowFoundry$State", "bought", "[I", true)
  | 7 => ("BowFoundry$State", "sold", "[I", true)
  | 8 => ("BowFoundry$State", "lost", "[I", true)
  | 9 => ("BowFoundry$State", "tolerance", "I", false)
  | 10 => ("BowFoundry$State", "step", "I", false)
  | 11 => ("BowFoundry$State", "batches", "I", false)
  | 12 => ("BowFoundry$State", "batchRow", "[LBowFoundry$Batch;", true)
  | 13 => ("BowFoundry$State", "nextBatch", "I", false)
  | 14 => ("BowFoundry$State", "castBows", "I", false)
  | 15 => ("BowFoundry$State", "soldBows", "I", false)
  | _ => ("BowFoundry$State", "meltedBows", "I", false)
def tyX4 : Nat → FieldType := fun k => match k with
  | 0 => .int
  | 1 => .array (.array .int)
  | 2 => .int
  | 3 => .array .int
  | 4 => .array .int
  | 5 => .array .int
  | 6 => .array .int
  | 7 => .array .int
  | 8 => .array .int
  | 9 => .int
  | 10 => .int
  | 11 => .int
  | 12 => .array (.object "BowFoundry$Batch")
  | 13 => .int
  | 14 => .int
  | 15 => .int
  | _ => .int
theorem nmX4 : ∀ a, a < 17 → ∀ b, b < 17 → a ≠ b → (TX4 a).2.1 ≠ (TX4 b).2.1 := by decide +kernel
theorem tyX4_ok : ∀ k, k < 17 → parseFieldDescriptor (TX4 k).2.2.1 = some (tyX4 k) := by decide +kernel
abbrev cX4_init : ByteArray := prog_6_method_1_code
def yX4_init : MethodName := ⟨RX4, "<init>", "()V"⟩
abbrev cX4_copyFrom : ByteArray := prog_6_method_2_code
def yX4_copyFrom : MethodName := ⟨RX4, "copyFrom", "(LBowFoundry$State;)V"⟩
abbrev cX4_hasAlloy : ByteArray := prog_6_method_3_code
def yX4_hasAlloy : MethodName := ⟨RX4, "hasAlloy", "(I)Z"⟩
abbrev cX4_hasMould : ByteArray := prog_6_method_4_code
def yX4_hasMould : MethodName := ⟨RX4, "hasMould", "(I)Z"⟩
abbrev cX4_isMetal : ByteArray := prog_6_method_5_code
def yX4_isMetal : MethodName := ⟨RX4, "isMetal", "(I)Z"⟩
abbrev cX4_isPart : ByteArray := prog_6_method_6_code
def yX4_isPart : MethodName := ⟨RX4, "isPart", "(I)Z"⟩
abbrev cX4_mixAlloy : ByteArray := prog_6_method_7_code
def yX4_mixAlloy : MethodName := ⟨RX4, "mixAlloy", "(III)I"⟩
abbrev cX4_placeMould : ByteArray := prog_6_method_8_code
def yX4_placeMould : MethodName := ⟨RX4, "placeMould", "(I)I"⟩
abbrev cX4_takeIn : ByteArray := prog_6_method_9_code
def yX4_takeIn : MethodName := ⟨RX4, "takeIn", "(II)I"⟩
abbrev cX4_pour : ByteArray := prog_6_method_10_code
def yX4_pour : MethodName := ⟨RX4, "pour", "(III)I"⟩
abbrev cX4_fill : ByteArray := prog_6_method_11_code
def yX4_fill : MethodName := ⟨RX4, "fill", "(LBowFoundry$Batch;III)V"⟩
abbrev cX4_examine : ByteArray := prog_6_method_12_code
def yX4_examine : MethodName := ⟨RX4, "examine", "(I)I"⟩
abbrev cX4_meltDown : ByteArray := prog_6_method_13_code
def yX4_meltDown : MethodName := ⟨RX4, "meltDown", "(I)I"⟩
abbrev cX4_remove : ByteArray := prog_6_method_14_code
def yX4_remove : MethodName := ⟨RX4, "remove", "(I)V"⟩
abbrev cX4_resetUses : ByteArray := prog_6_method_15_code
def yX4_resetUses : MethodName := ⟨RX4, "resetUses", "(I)I"⟩
abbrev cX4_changeTolerance : ByteArray := prog_6_method_16_code
def yX4_changeTolerance : MethodName := ⟨RX4, "changeTolerance", "(I)I"⟩
abbrev cX4_changeStep : ByteArray := prog_6_method_17_code
def yX4_changeStep : MethodName := ⟨RX4, "changeStep", "(I)I"⟩
abbrev cX4_partsOf : ByteArray := prog_6_method_18_code
def yX4_partsOf : MethodName := ⟨RX4, "partsOf", "(II)I"⟩
abbrev cX4_lengthOf : ByteArray := prog_6_method_19_code
def yX4_lengthOf : MethodName := ⟨RX4, "lengthOf", "(I)I"⟩
abbrev cX4_usesOf : ByteArray := prog_6_method_20_code
def yX4_usesOf : MethodName := ⟨RX4, "usesOf", "(I)I"⟩
abbrev cX4_stockOf : ByteArray := prog_6_method_21_code
def yX4_stockOf : MethodName := ⟨RX4, "stockOf", "(I)I"⟩
abbrev cX4_lostOf : ByteArray := prog_6_method_22_code
def yX4_lostOf : MethodName := ⟨RX4, "lostOf", "(I)I"⟩
abbrev cX4_placeWith : ByteArray := prog_6_method_23_code
def yX4_placeWith : MethodName := ⟨RX4, "placeWith", "(I)I"⟩
abbrev cX4_placeWithBow : ByteArray := prog_6_method_24_code
def yX4_placeWithBow : MethodName := ⟨RX4, "placeWithBow", "(I)I"⟩
abbrev cX4_batchWith : ByteArray := prog_6_method_25_code
def yX4_batchWith : MethodName := ⟨RX4, "batchWith", "(I)I"⟩
abbrev cX4_squeakOf : ByteArray := prog_6_method_26_code
def yX4_squeakOf : MethodName := ⟨RX4, "squeakOf", "(I)I"⟩
abbrev cX4_squeakToCome : ByteArray := prog_6_method_27_code
def yX4_squeakToCome : MethodName := ⟨RX4, "squeakToCome", "(II)I"⟩
abbrev cX4_bowsInStore : ByteArray := prog_6_method_28_code
def yX4_bowsInStore : MethodName := ⟨RX4, "bowsInStore", "(I)I"⟩
abbrev cX4_metalByBows : ByteArray := prog_6_method_29_code
def yX4_metalByBows : MethodName := ⟨RX4, "metalByBows", "(I)I"⟩
abbrev cX4_metalByBooks : ByteArray := prog_6_method_30_code
def yX4_metalByBooks : MethodName := ⟨RX4, "metalByBooks", "(I)I"⟩
abbrev cX4_batchRanked : ByteArray := prog_6_method_31_code
def yX4_batchRanked : MethodName := ⟨RX4, "batchRanked", "(I)I"⟩
abbrev cX4_rankAt : ByteArray := prog_6_method_32_code
def yX4_rankAt : MethodName := ⟨RX4, "rankAt", "(I)I"⟩
abbrev cX4_bowsInBatches : ByteArray := prog_6_method_33_code
def yX4_bowsInBatches : MethodName := ⟨RX4, "bowsInBatches", "()I"⟩
abbrev cX4_squeaksInBatches : ByteArray := prog_6_method_34_code
def yX4_squeaksInBatches : MethodName := ⟨RX4, "squeaksInBatches", "()I"⟩
abbrev cX4_tolerancesAgree : ByteArray := prog_6_method_35_code
def yX4_tolerancesAgree : MethodName := ⟨RX4, "tolerancesAgree", "()Z"⟩
abbrev cX4_metalsAgree : ByteArray := prog_6_method_36_code
def yX4_metalsAgree : MethodName := ⟨RX4, "metalsAgree", "()Z"⟩
abbrev cX4_bowsAgree : ByteArray := prog_6_method_37_code
def yX4_bowsAgree : MethodName := ⟨RX4, "bowsAgree", "()Z"⟩
abbrev cX4_describe : ByteArray := prog_6_method_38_code
def yX4_describe : MethodName := ⟨RX4, "describe", "(Ljava/lang/StringBuilder;)V"⟩
def RX5 : String := "BowFoundry"
def TX5 : u_T := fun k => match k with
  | 0 => ("BowFoundry", "states", "[LBowFoundry$State;", true)
  | 1 => ("BowFoundry", "snapshot", "LBowFoundry$State;", true)
  | 2 => ("BowFoundry", "script", "LBowFoundry$Script;", true)
  | 3 => ("BowFoundry", "output", "Ljava/lang/StringBuilder;", true)
  | 4 => ("BowFoundry", "present", "I", false)
  | 5 => ("BowFoundry", "undos", "I", false)
  | 6 => ("BowFoundry", "hasSnapshot", "Z", false)
  | 7 => ("BowFoundry", "latestErrorPosition", "I", false)
  | _ => ("BowFoundry", "latestFailedCommand", "I", false)
def tyX5 : Nat → FieldType := fun k => match k with
  | 0 => .array (.object "BowFoundry$State")
  | 1 => .object "BowFoundry$State"
  | 2 => .object "BowFoundry$Script"
  | 3 => .object "java/lang/StringBuilder"
  | 4 => .int
  | 5 => .int
  | 6 => .boolean
  | 7 => .int
  | _ => .int
theorem nmX5 : ∀ a, a < 9 → ∀ b, b < 9 → a ≠ b → (TX5 a).2.1 ≠ (TX5 b).2.1 := by decide +kernel
theorem tyX5_ok : ∀ k, k < 9 → parseFieldDescriptor (TX5 k).2.2.1 = some (tyX5 k) := by decide +kernel
abbrev cX5_init : ByteArray := prog_1_method_1_code
def yX5_init : MethodName := ⟨RX5, "<init>", "()V"⟩
abbrev cX5_addAlloy : ByteArray := prog_1_method_2_code
def yX5_addAlloy : MethodName := ⟨RX5, "addAlloy", "(III)I"⟩
abbrev cX5_addMould : ByteArray := prog_1_method_3_code
def yX5_addMould : MethodName := ⟨RX5, "addMould", "(I)I"⟩
abbrev cX5_buy : ByteArray := prog_1_method_4_code
def yX5_buy : MethodName := ⟨RX5, "buy", "(II)I"⟩
abbrev cX5_cast : ByteArray := prog_1_method_5_code
def yX5_cast : MethodName := ⟨RX5, "cast", "(III)I"⟩
abbrev cX5_inspect : ByteArray := prog_1_method_6_code
def yX5_inspect : MethodName := ⟨RX5, "inspect", "(I)Z"⟩
abbrev cX5_melt : ByteArray := prog_1_method_7_code
def yX5_melt : MethodName := ⟨RX5, "melt", "(I)I"⟩
abbrev cX5_renewMould : ByteArray := prog_1_method_8_code
def yX5_renewMould : MethodName := ⟨RX5, "renewMould", "(I)I"⟩
abbrev cX5_setTolerance : ByteArray := prog_1_method_9_code
def yX5_setTolerance : MethodName := ⟨RX5, "setTolerance", "(I)I"⟩
abbrev cX5_setStep : ByteArray := prog_1_method_10_code
def yX5_setStep : MethodName := ⟨RX5, "setStep", "(I)I"⟩
abbrev cX5_alloyCount : ByteArray := prog_1_method_11_code
def yX5_alloyCount : MethodName := ⟨RX5, "alloyCount", "()I"⟩
abbrev cX5_parts : ByteArray := prog_1_method_12_code
def yX5_parts : MethodName := ⟨RX5, "parts", "(II)I"⟩
abbrev cX5_mouldCount : ByteArray := prog_1_method_13_code
def yX5_mouldCount : MethodName := ⟨RX5, "mouldCount", "()I"⟩
abbrev cX5_mouldLength : ByteArray := prog_1_method_14_code
def yX5_mouldLength : MethodName := ⟨RX5, "mouldLength", "(I)I"⟩
abbrev cX5_uses : ByteArray := prog_1_method_15_code
def yX5_uses : MethodName := ⟨RX5, "uses", "(I)I"⟩
abbrev cX5_stock : ByteArray := prog_1_method_16_code
def yX5_stock : MethodName := ⟨RX5, "stock", "(I)I"⟩
abbrev cX5_tolerance : ByteArray := prog_1_method_17_code
def yX5_tolerance : MethodName := ⟨RX5, "tolerance", "()I"⟩
abbrev cX5_step : ByteArray := prog_1_method_18_code
def yX5_step : MethodName := ⟨RX5, "step", "()I"⟩
abbrev cX5_batchCount : ByteArray := prog_1_method_19_code
def yX5_batchCount : MethodName := ⟨RX5, "batchCount", "()I"⟩
abbrev cX5_batchAt : ByteArray := prog_1_method_20_code
def yX5_batchAt : MethodName := ⟨RX5, "batchAt", "(I)I"⟩
abbrev cX5_isFailed : ByteArray := prog_1_method_21_code
def yX5_isFailed : MethodName := ⟨RX5, "isFailed", "(I)Z"⟩
abbrev cX5_batchSize : ByteArray := prog_1_method_22_code
def yX5_batchSize : MethodName := ⟨RX5, "batchSize", "(I)I"⟩
abbrev cX5_firstBow : ByteArray := prog_1_method_23_code
def yX5_firstBow : MethodName := ⟨RX5, "firstBow", "(I)I"⟩
abbrev cX5_squeak : ByteArray := prog_1_method_24_code
def yX5_squeak : MethodName := ⟨RX5, "squeak", "(I)I"⟩
abbrev cX5_isGood : ByteArray := prog_1_method_25_code
def yX5_isGood : MethodName := ⟨RX5, "isGood", "(I)Z"⟩
abbrev cX5_batchOf : ByteArray := prog_1_method_26_code
def yX5_batchOf : MethodName := ⟨RX5, "batchOf", "(I)I"⟩
abbrev cX5_goodBows : ByteArray := prog_1_method_27_code
def yX5_goodBows : MethodName := ⟨RX5, "goodBows", "(I)I"⟩
abbrev cX5_sampleSize : ByteArray := prog_1_method_28_code
def yX5_sampleSize : MethodName := ⟨RX5, "sampleSize", "(I)I"⟩
abbrev cX5_wouldPass : ByteArray := prog_1_method_29_code
def yX5_wouldPass : MethodName := ⟨RX5, "wouldPass", "(I)Z"⟩
abbrev cX5_neededTolerance : ByteArray := prog_1_method_30_code
def yX5_neededTolerance : MethodName := ⟨RX5, "neededTolerance", "(I)I"⟩
abbrev cX5_neededToleranceByTrying : ByteArray := prog_1_method_31_code
def yX5_neededToleranceByTrying : MethodName := ⟨RX5, "neededToleranceByTrying", "(I)I"⟩
abbrev cX5_nextSqueak : ByteArray := prog_1_method_32_code
def yX5_nextSqueak : MethodName := ⟨RX5, "nextSqueak", "(II)I"⟩
abbrev cX5_possibleBows : ByteArray := prog_1_method_33_code
def yX5_possibleBows : MethodName := ⟨RX5, "possibleBows", "(I)I"⟩
abbrev cX5_metalInBatches : ByteArray := prog_1_method_34_code
def yX5_metalInBatches : MethodName := ⟨RX5, "metalInBatches", "(I)I"⟩
abbrev cX5_metalByAccounts : ByteArray := prog_1_method_35_code
def yX5_metalByAccounts : MethodName := ⟨RX5, "metalByAccounts", "(I)I"⟩
abbrev cX5_batchBySqueak : ByteArray := prog_1_method_36_code
def yX5_batchBySqueak : MethodName := ⟨RX5, "batchBySqueak", "(I)I"⟩
abbrev cX5_castTotal : ByteArray := prog_1_method_37_code
def yX5_castTotal : MethodName := ⟨RX5, "castTotal", "()I"⟩
abbrev cX5_soldTotal : ByteArray := prog_1_method_38_code
def yX5_soldTotal : MethodName := ⟨RX5, "soldTotal", "()I"⟩
abbrev cX5_meltedTotal : ByteArray := prog_1_method_39_code
def yX5_meltedTotal : MethodName := ⟨RX5, "meltedTotal", "()I"⟩
abbrev cX5_lostGrams : ByteArray := prog_1_method_40_code
def yX5_lostGrams : MethodName := ⟨RX5, "lostGrams", "(I)I"⟩
abbrev cX5_meanSqueak : ByteArray := prog_1_method_41_code
def yX5_meanSqueak : MethodName := ⟨RX5, "meanSqueak", "()D"⟩
abbrev cX5_soldShare : ByteArray := prog_1_method_42_code
def yX5_soldShare : MethodName := ⟨RX5, "soldShare", "()F"⟩
abbrev cX5_isConsistent : ByteArray := prog_1_method_43_code
def yX5_isConsistent : MethodName := ⟨RX5, "isConsistent", "()Z"⟩
abbrev cX5_renderBatch : ByteArray := prog_1_method_44_code
def yX5_renderBatch : MethodName := ⟨RX5, "renderBatch", "(I)I"⟩
abbrev cX5_renderStore : ByteArray := prog_1_method_45_code
def yX5_renderStore : MethodName := ⟨RX5, "renderStore", "()I"⟩
abbrev cX5_outputAt : ByteArray := prog_1_method_46_code
def yX5_outputAt : MethodName := ⟨RX5, "outputAt", "(I)C"⟩
abbrev cX5_type : ByteArray := prog_1_method_47_code
def yX5_type : MethodName := ⟨RX5, "type", "(C)I"⟩
abbrev cX5_runScript : ByteArray := prog_1_method_48_code
def yX5_runScript : MethodName := ⟨RX5, "runScript", "()I"⟩
abbrev cX5_errorPosition : ByteArray := prog_1_method_49_code
def yX5_errorPosition : MethodName := ⟨RX5, "errorPosition", "()I"⟩
abbrev cX5_failedCommand : ByteArray := prog_1_method_50_code
def yX5_failedCommand : MethodName := ⟨RX5, "failedCommand", "()I"⟩
abbrev cX5_undo : ByteArray := prog_1_method_51_code
def yX5_undo : MethodName := ⟨RX5, "undo", "()I"⟩
abbrev cX5_save : ByteArray := prog_1_method_52_code
def yX5_save : MethodName := ⟨RX5, "save", "()I"⟩
abbrev cX5_restore : ByteArray := prog_1_method_53_code
def yX5_restore : MethodName := ⟨RX5, "restore", "()I"⟩
abbrev cX5_now : ByteArray := prog_1_method_54_code
def yX5_now : MethodName := ⟨RX5, "now", "()LBowFoundry$State;"⟩
abbrev cX5_following : ByteArray := prog_1_method_55_code
def yX5_following : MethodName := ⟨RX5, "following", "()I"⟩
abbrev cX5_draft : ByteArray := prog_1_method_56_code
def yX5_draft : MethodName := ⟨RX5, "draft", "()LBowFoundry$State;"⟩
abbrev cX5_kept : ByteArray := prog_1_method_57_code
def yX5_kept : MethodName := ⟨RX5, "kept", "(I)I"⟩
abbrev cX5_placeOf : ByteArray := prog_1_method_58_code
def yX5_placeOf : MethodName := ⟨RX5, "placeOf", "(I)I"⟩
abbrev cX5_answered : ByteArray := prog_1_method_59_code
def yX5_answered : MethodName := ⟨RX5, "answered", "(I)I"⟩
abbrev cX5_copyRow : ByteArray := prog_1_method_60_code
def yX5_copyRow : MethodName := ⟨RX5, "copyRow", "([I[I)V"⟩
def RX6 : String := "BowFoundryModel"
def TX6 : u_T := fun k => match k with
  | 0 => ("BowFoundryModel", "g", "[I", true)
  | 1 => ("BowFoundryModel", "before", "[I", true)
  | 2 => ("BowFoundryModel", "history", "[I", true)
  | 3 => ("BowFoundryModel", "changes", "I", false)
  | 4 => ("BowFoundryModel", "savedState", "[I", true)
  | 5 => ("BowFoundryModel", "hasSaved", "Z", false)
  | 6 => ("BowFoundryModel", "buffer", "[C", true)
  | 7 => ("BowFoundryModel", "typed", "I", false)
  | 8 => ("BowFoundryModel", "errorAt", "I", false)
  | 9 => ("BowFoundryModel", "failedAt", "I", false)
  | 10 => ("BowFoundryModel", "letters", "[C", true)
  | 11 => ("BowFoundryModel", "outputLength", "I", false)
  | 12 => ("BowFoundryModel", "thrown", "I", false)
  | 13 => ("BowFoundryModel", "spot", "I", false)
  | 14 => ("BowFoundryModel", "isWrong", "Z", false)
  | _ => ("BowFoundryModel", "parsed", "[I", true)
def tyX6 : Nat → FieldType := fun k => match k with
  | 0 => .array .int
  | 1 => .array .int
  | 2 => .array .int
  | 3 => .int
  | 4 => .array .int
  | 5 => .boolean
  | 6 => .array .char
  | 7 => .int
  | 8 => .int
  | 9 => .int
  | 10 => .array .char
  | 11 => .int
  | 12 => .int
  | 13 => .int
  | 14 => .boolean
  | _ => .array .int
theorem nmX6 : ∀ a, a < 16 → ∀ b, b < 16 → a ≠ b → (TX6 a).2.1 ≠ (TX6 b).2.1 := by decide +kernel
theorem tyX6_ok : ∀ k, k < 16 → parseFieldDescriptor (TX6 k).2.2.1 = some (tyX6 k) := by decide +kernel
abbrev cX6_init : ByteArray := prog_8_method_1_code
def yX6_init : MethodName := ⟨RX6, "<init>", "()V"⟩
abbrev cX6_thrown : ByteArray := prog_8_method_2_code
def yX6_thrown : MethodName := ⟨RX6, "thrown", "()I"⟩
abbrev cX6_in : ByteArray := prog_8_method_3_code
def yX6_in : MethodName := ⟨RX6, "in", "(III)Z"⟩
abbrev cX6_done : ByteArray := prog_8_method_4_code
def yX6_done : MethodName := ⟨RX6, "done", "(I)I"⟩
abbrev cX6_fails : ByteArray := prog_8_method_5_code
def yX6_fails : MethodName := ⟨RX6, "fails", "(I)I"⟩
abbrev cX6_copy : ByteArray := prog_8_method_6_code
def yX6_copy : MethodName := ⟨RX6, "copy", "([II[II)V"⟩
abbrev cX6_begin : ByteArray := prog_8_method_7_code
def yX6_begin : MethodName := ⟨RX6, "begin", "()V"⟩
abbrev cX6_kept : ByteArray := prog_8_method_8_code
def yX6_kept : MethodName := ⟨RX6, "kept", "(I)I"⟩
abbrev cX6_isMetal : ByteArray := prog_8_method_9_code
def yX6_isMetal : MethodName := ⟨RX6, "isMetal", "(I)Z"⟩
abbrev cX6_isAlloy : ByteArray := prog_8_method_10_code
def yX6_isAlloy : MethodName := ⟨RX6, "isAlloy", "(I)Z"⟩
abbrev cX6_isMould : ByteArray := prog_8_method_11_code
def yX6_isMould : MethodName := ⟨RX6, "isMould", "(I)Z"⟩
abbrev cX6_part : ByteArray := prog_8_method_12_code
def yX6_part : MethodName := ⟨RX6, "part", "(II)I"⟩
abbrev cX6_placeOf : ByteArray := prog_8_method_13_code
def yX6_placeOf : MethodName := ⟨RX6, "placeOf", "(I)I"⟩
abbrev cX6_placeWith : ByteArray := prog_8_method_14_code
def yX6_placeWith : MethodName := ⟨RX6, "placeWith", "(I)I"⟩
abbrev cX6_squeakAt : ByteArray := prog_8_method_15_code
def yX6_squeakAt : MethodName := ⟨RX6, "squeakAt", "(II)I"⟩
abbrev cX6_squeakOf : ByteArray := prog_8_method_16_code
def yX6_squeakOf : MethodName := ⟨RX6, "squeakOf", "(II)I"⟩
abbrev cX6_sampled : ByteArray := prog_8_method_17_code
def yX6_sampled : MethodName := ⟨RX6, "sampled", "(I)I"⟩
abbrev cX6_goodOnes : ByteArray := prog_8_method_18_code
def yX6_goodOnes : MethodName := ⟨RX6, "goodOnes", "(II)I"⟩
abbrev cX6_passes : ByteArray := prog_8_method_19_code
def yX6_passes : MethodName := ⟨RX6, "passes", "(II)Z"⟩
abbrev cX6_addsAlloy : ByteArray := prog_8_method_20_code
def yX6_addsAlloy : MethodName := ⟨RX6, "addsAlloy", "(III)I"⟩
abbrev cX6_addAlloy : ByteArray := prog_8_method_21_code
def yX6_addAlloy : MethodName := ⟨RX6, "addAlloy", "(III)I"⟩
abbrev cX6_addsMould : ByteArray := prog_8_method_22_code
def yX6_addsMould : MethodName := ⟨RX6, "addsMould", "(I)I"⟩
abbrev cX6_addMould : ByteArray := prog_8_method_23_code
def yX6_addMould : MethodName := ⟨RX6, "addMould", "(I)I"⟩
abbrev cX6_buys : ByteArray := prog_8_method_24_code
def yX6_buys : MethodName := ⟨RX6, "buys", "(II)I"⟩
abbrev cX6_buy : ByteArray := prog_8_method_25_code
def yX6_buy : MethodName := ⟨RX6, "buy", "(II)I"⟩
abbrev cX6_hasMetal : ByteArray := prog_8_method_26_code
def yX6_hasMetal : MethodName := ⟨RX6, "hasMetal", "(II)Z"⟩
abbrev cX6_casts : ByteArray := prog_8_method_27_code
def yX6_casts : MethodName := ⟨RX6, "casts", "(III)I"⟩
abbrev cX6_cast : ByteArray := prog_8_method_28_code
def yX6_cast : MethodName := ⟨RX6, "cast", "(III)I"⟩
abbrev cX6_drops : ByteArray := prog_8_method_29_code
def yX6_drops : MethodName := ⟨RX6, "drops", "(I)V"⟩
abbrev cX6_sells : ByteArray := prog_8_method_30_code
def yX6_sells : MethodName := ⟨RX6, "sells", "(I)V"⟩
abbrev cX6_inspects : ByteArray := prog_8_method_31_code
def yX6_inspects : MethodName := ⟨RX6, "inspects", "(I)I"⟩
abbrev cX6_inspect : ByteArray := prog_8_method_32_code
def yX6_inspect : MethodName := ⟨RX6, "inspect", "(I)Z"⟩
abbrev cX6_melts : ByteArray := prog_8_method_33_code
def yX6_melts : MethodName := ⟨RX6, "melts", "(I)I"⟩
abbrev cX6_melt : ByteArray := prog_8_method_34_code
def yX6_melt : MethodName := ⟨RX6, "melt", "(I)I"⟩
abbrev cX6_renews : ByteArray := prog_8_method_35_code
def yX6_renews : MethodName := ⟨RX6, "renews", "(I)I"⟩
abbrev cX6_renewMould : ByteArray := prog_8_method_36_code
def yX6_renewMould : MethodName := ⟨RX6, "renewMould", "(I)I"⟩
abbrev cX6_sets : ByteArray := prog_8_method_37_code
def yX6_sets : MethodName := ⟨RX6, "sets", "(IIII)I"⟩
abbrev cX6_setTolerance : ByteArray := prog_8_method_38_code
def yX6_setTolerance : MethodName := ⟨RX6, "setTolerance", "(I)I"⟩
abbrev cX6_setStep : ByteArray := prog_8_method_39_code
def yX6_setStep : MethodName := ⟨RX6, "setStep", "(I)I"⟩
abbrev cX6_alloyCount : ByteArray := prog_8_method_40_code
def yX6_alloyCount : MethodName := ⟨RX6, "alloyCount", "()I"⟩
abbrev cX6_parts : ByteArray := prog_8_method_41_code
def yX6_parts : MethodName := ⟨RX6, "parts", "(II)I"⟩
abbrev cX6_mouldCount : ByteArray := prog_8_method_42_code
def yX6_mouldCount : MethodName := ⟨RX6, "mouldCount", "()I"⟩
abbrev cX6_mouldLength : ByteArray := prog_8_method_43_code
def yX6_mouldLength : MethodName := ⟨RX6, "mouldLength", "(I)I"⟩
abbrev cX6_uses : ByteArray := prog_8_method_44_code
def yX6_uses : MethodName := ⟨RX6, "uses", "(I)I"⟩
abbrev cX6_stock : ByteArray := prog_8_method_45_code
def yX6_stock : MethodName := ⟨RX6, "stock", "(I)I"⟩
abbrev cX6_tolerance : ByteArray := prog_8_method_46_code
def yX6_tolerance : MethodName := ⟨RX6, "tolerance", "()I"⟩
abbrev cX6_step : ByteArray := prog_8_method_47_code
def yX6_step : MethodName := ⟨RX6, "step", "()I"⟩
abbrev cX6_batchCount : ByteArray := prog_8_method_48_code
def yX6_batchCount : MethodName := ⟨RX6, "batchCount", "()I"⟩
abbrev cX6_batchAt : ByteArray := prog_8_method_49_code
def yX6_batchAt : MethodName := ⟨RX6, "batchAt", "(I)I"⟩
abbrev cX6_batchNumber : ByteArray := prog_8_method_50_code
def yX6_batchNumber : MethodName := ⟨RX6, "batchNumber", "(II)I"⟩
abbrev cX6_isFailed : ByteArray := prog_8_method_51_code
def yX6_isFailed : MethodName := ⟨RX6, "isFailed", "(I)Z"⟩
abbrev cX6_batchSize : ByteArray := prog_8_method_52_code
def yX6_batchSize : MethodName := ⟨RX6, "batchSize", "(I)I"⟩
abbrev cX6_firstBow : ByteArray := prog_8_method_53_code
def yX6_firstBow : MethodName := ⟨RX6, "firstBow", "(I)I"⟩
abbrev cX6_squeak : ByteArray := prog_8_method_54_code
def yX6_squeak : MethodName := ⟨RX6, "squeak", "(I)I"⟩
abbrev cX6_isGood : ByteArray := prog_8_method_55_code
def yX6_isGood : MethodName := ⟨RX6, "isGood", "(I)Z"⟩
abbrev cX6_batchOf : ByteArray := prog_8_method_56_code
def yX6_batchOf : MethodName := ⟨RX6, "batchOf", "(I)I"⟩
abbrev cX6_goodBows : ByteArray := prog_8_method_57_code
def yX6_goodBows : MethodName := ⟨RX6, "goodBows", "(I)I"⟩
abbrev cX6_sampleSize : ByteArray := prog_8_method_58_code
def yX6_sampleSize : MethodName := ⟨RX6, "sampleSize", "(I)I"⟩
abbrev cX6_wouldPass : ByteArray := prog_8_method_59_code
def yX6_wouldPass : MethodName := ⟨RX6, "wouldPass", "(I)Z"⟩
abbrev cX6_neededTolerance : ByteArray := prog_8_method_60_code
def yX6_neededTolerance : MethodName := ⟨RX6, "neededTolerance", "(I)I"⟩
abbrev cX6_neededToleranceByTrying : ByteArray := prog_8_method_61_code
def yX6_neededToleranceByTrying : MethodName := ⟨RX6, "neededToleranceByTrying", "(I)I"⟩
abbrev cX6_nextSqueak : ByteArray := prog_8_method_62_code
def yX6_nextSqueak : MethodName := ⟨RX6, "nextSqueak", "(II)I"⟩
abbrev cX6_possibleBows : ByteArray := prog_8_method_63_code
def yX6_possibleBows : MethodName := ⟨RX6, "possibleBows", "(I)I"⟩
abbrev cX6_metalInBatches : ByteArray := prog_8_method_64_code
def yX6_metalInBatches : MethodName := ⟨RX6, "metalInBatches", "(I)I"⟩
abbrev cX6_metalByAccounts : ByteArray := prog_8_method_65_code
def yX6_metalByAccounts : MethodName := ⟨RX6, "metalByAccounts", "(I)I"⟩
abbrev cX6_sumOf : ByteArray := prog_8_method_66_code
def yX6_sumOf : MethodName := ⟨RX6, "sumOf", "(I)I"⟩
abbrev cX6_batchBySqueak : ByteArray := prog_8_method_67_code
def yX6_batchBySqueak : MethodName := ⟨RX6, "batchBySqueak", "(I)I"⟩
abbrev cX6_castTotal : ByteArray := prog_8_method_68_code
def yX6_castTotal : MethodName := ⟨RX6, "castTotal", "()I"⟩
abbrev cX6_soldTotal : ByteArray := prog_8_method_69_code
def yX6_soldTotal : MethodName := ⟨RX6, "soldTotal", "()I"⟩
abbrev cX6_meltedTotal : ByteArray := prog_8_method_70_code
def yX6_meltedTotal : MethodName := ⟨RX6, "meltedTotal", "()I"⟩
abbrev cX6_lostGrams : ByteArray := prog_8_method_71_code
def yX6_lostGrams : MethodName := ⟨RX6, "lostGrams", "(I)I"⟩
abbrev cX6_meanSqueak : ByteArray := prog_8_method_72_code
def yX6_meanSqueak : MethodName := ⟨RX6, "meanSqueak", "()D"⟩
abbrev cX6_soldShare : ByteArray := prog_8_method_73_code
def yX6_soldShare : MethodName := ⟨RX6, "soldShare", "()F"⟩
abbrev cX6_isConsistent : ByteArray := prog_8_method_74_code
def yX6_isConsistent : MethodName := ⟨RX6, "isConsistent", "()Z"⟩
abbrev cX6_writes : ByteArray := prog_8_method_75_code
def yX6_writes : MethodName := ⟨RX6, "writes", "(I)V"⟩
abbrev cX6_writesNumber : ByteArray := prog_8_method_76_code
def yX6_writesNumber : MethodName := ⟨RX6, "writesNumber", "(I)V"⟩
abbrev cX6_renderBatch : ByteArray := prog_8_method_77_code
def yX6_renderBatch : MethodName := ⟨RX6, "renderBatch", "(I)I"⟩
abbrev cX6_renderStore : ByteArray := prog_8_method_78_code
def yX6_renderStore : MethodName := ⟨RX6, "renderStore", "()I"⟩
abbrev cX6_outputAt : ByteArray := prog_8_method_79_code
def yX6_outputAt : MethodName := ⟨RX6, "outputAt", "(I)C"⟩
abbrev cX6_type : ByteArray := prog_8_method_80_code
def yX6_type : MethodName := ⟨RX6, "type", "(C)I"⟩
abbrev cX6_here : ByteArray := prog_8_method_81_code
def yX6_here : MethodName := ⟨RX6, "here", "()I"⟩
abbrev cX6_needs : ByteArray := prog_8_method_82_code
def yX6_needs : MethodName := ⟨RX6, "needs", "(I)V"⟩
abbrev cX6_needsThree : ByteArray := prog_8_method_83_code
def yX6_needsThree : MethodName := ⟨RX6, "needsThree", "(III)V"⟩
abbrev cX6_digits : ByteArray := prog_8_method_84_code
def yX6_digits : MethodName := ⟨RX6, "digits", "(I)I"⟩
abbrev cX6_behindBlank : ByteArray := prog_8_method_85_code
def yX6_behindBlank : MethodName := ⟨RX6, "behindBlank", "(I)I"⟩
abbrev cX6_parsesM : ByteArray := prog_8_method_86_code
def yX6_parsesM : MethodName := ⟨RX6, "parsesM", "(I)V"⟩
abbrev cX6_parsesAlloy : ByteArray := prog_8_method_87_code
def yX6_parsesAlloy : MethodName := ⟨RX6, "parsesAlloy", "(I)V"⟩
abbrev cX6_parsesCast : ByteArray := prog_8_method_88_code
def yX6_parsesCast : MethodName := ⟨RX6, "parsesCast", "(I)V"⟩
abbrev cX6_parsesCommand : ByteArray := prog_8_method_89_code
def yX6_parsesCommand : MethodName := ⟨RX6, "parsesCommand", "(I)V"⟩
abbrev cX6_carriesOut : ByteArray := prog_8_method_90_code
def yX6_carriesOut : MethodName := ⟨RX6, "carriesOut", "(I)I"⟩
abbrev cX6_runScript : ByteArray := prog_8_method_91_code
def yX6_runScript : MethodName := ⟨RX6, "runScript", "()I"⟩
abbrev cX6_errorPosition : ByteArray := prog_8_method_92_code
def yX6_errorPosition : MethodName := ⟨RX6, "errorPosition", "()I"⟩
abbrev cX6_failedCommand : ByteArray := prog_8_method_93_code
def yX6_failedCommand : MethodName := ⟨RX6, "failedCommand", "()I"⟩
abbrev cX6_undo : ByteArray := prog_8_method_94_code
def yX6_undo : MethodName := ⟨RX6, "undo", "()I"⟩
abbrev cX6_save : ByteArray := prog_8_method_95_code
def yX6_save : MethodName := ⟨RX6, "save", "()I"⟩
abbrev cX6_restore : ByteArray := prog_8_method_96_code
def yX6_restore : MethodName := ⟨RX6, "restore", "()I"⟩
def RJx145de : String := "java/io/Serializable"
def TJx145de : u_T := fun k => match k with
  | _ => ("", "", "", false)
def tyJx145de : Nat → FieldType := fun k => match k with
  | _ => .int
theorem nmJx145de : ∀ a, a < 0 → ∀ b, b < 0 → a ≠ b → (TJx145de a).2.1 ≠ (TJx145de b).2.1 := by decide +kernel
theorem tyJx145de_ok : ∀ k, k < 0 → parseFieldDescriptor (TJx145de k).2.2.1 = some (tyJx145de k) := by decide +kernel
def RJ5 : String := "java/lang/AbstractStringBuilder"
def TJ5 : u_T := fun k => match k with
  | _ => ("", "", "", false)
def tyJ5 : Nat → FieldType := fun k => match k with
  | _ => .int
theorem nmJ5 : ∀ a, a < 0 → ∀ b, b < 0 → a ≠ b → (TJ5 a).2.1 ≠ (TJ5 b).2.1 := by decide +kernel
theorem tyJ5_ok : ∀ k, k < 0 → parseFieldDescriptor (TJ5 k).2.2.1 = some (tyJ5 k) := by decide +kernel
abbrev cJ5_init_d00df : ByteArray := prog_10_method_2_code
def yJ5_init_d00df : MethodName := ⟨RJ5, "<init>", "(I)V"⟩
abbrev cJ5_length_8abf5 : ByteArray := prog_10_method_6_code
def yJ5_length_8abf5 : MethodName := ⟨RJ5, "length", "()I"⟩
abbrev cJ5_ensureCapacityInternal_d00df : ByteArray := prog_10_method_9_code
def yJ5_ensureCapacityInternal_d00df : MethodName := ⟨RJ5, "ensureCapacityInternal", "(I)V"⟩
abbrev cJ5_newCapacity_0f7a4 : ByteArray := prog_10_method_10_code
def yJ5_newCapacity_0f7a4 : MethodName := ⟨RJ5, "newCapacity", "(I)I"⟩
abbrev cJ5_inflate_da8c8 : ByteArray := prog_10_method_11_code
def yJ5_inflate_da8c8 : MethodName := ⟨RJ5, "inflate", "()V"⟩
abbrev cJ5_setLength_d00df : ByteArray := prog_10_method_13_code
def yJ5_setLength_d00df : MethodName := ⟨RJ5, "setLength", "(I)V"⟩
abbrev cJ5_charAt_5068e : ByteArray := prog_10_method_14_code
def yJ5_charAt_5068e : MethodName := ⟨RJ5, "charAt", "(I)C"⟩
abbrev cJ5_append_cf1ce : ByteArray := prog_10_method_22_code
def yJ5_append_cf1ce : MethodName := ⟨RJ5, "append", "(Ljava/lang/String;)Ljava/lang/AbstractStringBuilder;"⟩
abbrev cJ5_appendNull_278bc : ByteArray := prog_10_method_26_code
def yJ5_appendNull_278bc : MethodName := ⟨RJ5, "appendNull", "()Ljava/lang/AbstractStringBuilder;"⟩
abbrev cJ5_append_3fe6f : ByteArray := prog_10_method_31_code
def yJ5_append_3fe6f : MethodName := ⟨RJ5, "append", "(C)Ljava/lang/AbstractStringBuilder;"⟩
abbrev cJ5_append_c97b9 : ByteArray := prog_10_method_32_code
def yJ5_append_c97b9 : MethodName := ⟨RJ5, "append", "(I)Ljava/lang/AbstractStringBuilder;"⟩
abbrev cJ5_getValue_6d5f1 : ByteArray := prog_10_method_64_code
def yJ5_getValue_6d5f1 : MethodName := ⟨RJ5, "getValue", "()[B"⟩
abbrev cJ5_isLatin1_aae02 : ByteArray := prog_10_method_68_code
def yJ5_isLatin1_aae02 : MethodName := ⟨RJ5, "isLatin1", "()Z"⟩
abbrev cJ5_inflateIfNeededFor_a7421 : ByteArray := prog_10_method_71_code
def yJ5_inflateIfNeededFor_a7421 : MethodName := ⟨RJ5, "inflateIfNeededFor", "(Ljava/lang/String;)V"⟩
abbrev cJ5_putStringAt_47b60 : ByteArray := prog_10_method_73_code
def yJ5_putStringAt_47b60 : MethodName := ⟨RJ5, "putStringAt", "(ILjava/lang/String;)V"⟩
def RJx2cfe8 : String := "java/lang/Appendable"
def TJx2cfe8 : u_T := fun k => match k with
  | _ => ("", "", "", false)
def tyJx2cfe8 : Nat → FieldType := fun k => match k with
  | _ => .int
theorem nmJx2cfe8 : ∀ a, a < 0 → ∀ b, b < 0 → a ≠ b → (TJx2cfe8 a).2.1 ≠ (TJx2cfe8 b).2.1 := by decide +kernel
theorem tyJx2cfe8_ok : ∀ k, k < 0 → parseFieldDescriptor (TJx2cfe8 k).2.2.1 = some (tyJx2cfe8 k) := by decide +kernel
def RJx00060 : String := "java/lang/ArrayIndexOutOfBoundsException"
def TJx00060 : u_T := fun k => match k with
  | 0 => ("java/lang/Throwable", "cause", "Ljava/lang/Throwable;", false)
  | 1 => ("java/lang/Throwable", "stackTrace", "[Ljava/lang/StackTraceElement;", false)
  | 2 => ("java/lang/Throwable", "suppressedExceptions", "Ljava/util/List;", false)
  | 3 => ("java/lang/Throwable", "detailMessage", "Ljava/lang/String;", false)
  | 4 => ("java/lang/Throwable", "backtrace", "Ljava/lang/Object;", false)
  | _ => ("java/lang/Throwable", "depth", "I", false)
def tyJx00060 : Nat → FieldType := fun k => match k with
  | 0 => .object "java/lang/Throwable"
  | 1 => .array (.object "java/lang/StackTraceElement")
  | 2 => .object "java/util/List"
  | 3 => .object "java/lang/String"
  | 4 => .object "java/lang/Object"
  | _ => .int
theorem nmJx00060 : ∀ a, a < 6 → ∀ b, b < 6 → a ≠ b → (TJx00060 a).2.1 ≠ (TJx00060 b).2.1 := by decide +kernel
theorem tyJx00060_ok : ∀ k, k < 6 → parseFieldDescriptor (TJx00060 k).2.2.1 = some (tyJx00060 k) := by decide +kernel
abbrev cJx00060_init_a7421 : ByteArray := prog_13_method_2_code
def yJx00060_init_a7421 : MethodName := ⟨RJx00060, "<init>", "(Ljava/lang/String;)V"⟩
abbrev cJx00060_init_d00df : ByteArray := prog_13_method_3_code
def yJx00060_init_d00df : MethodName := ⟨RJx00060, "<init>", "(I)V"⟩
def RJx9f9b0 : String := "java/lang/CharSequence"
def TJx9f9b0 : u_T := fun k => match k with
  | _ => ("", "", "", false)
def tyJx9f9b0 : Nat → FieldType := fun k => match k with
  | _ => .int
theorem nmJx9f9b0 : ∀ a, a < 0 → ∀ b, b < 0 → a ≠ b → (TJx9f9b0 a).2.1 ≠ (TJx9f9b0 b).2.1 := by decide +kernel
theorem tyJx9f9b0_ok : ∀ k, k < 0 → parseFieldDescriptor (TJx9f9b0 k).2.2.1 = some (tyJx9f9b0 k) := by decide +kernel
def RJx8e188 : String := "java/lang/Cloneable"
def TJx8e188 : u_T := fun k => match k with
  | _ => ("", "", "", false)
def tyJx8e188 : Nat → FieldType := fun k => match k with
  | _ => .int
theorem nmJx8e188 : ∀ a, a < 0 → ∀ b, b < 0 → a ≠ b → (TJx8e188 a).2.1 ≠ (TJx8e188 b).2.1 := by decide +kernel
theorem tyJx8e188_ok : ∀ k, k < 0 → parseFieldDescriptor (TJx8e188 k).2.2.1 = some (tyJx8e188 k) := by decide +kernel
def RJxb160c : String := "java/lang/Comparable"
def TJxb160c : u_T := fun k => match k with
  | _ => ("", "", "", false)
def tyJxb160c : Nat → FieldType := fun k => match k with
  | _ => .int
theorem nmJxb160c : ∀ a, a < 0 → ∀ b, b < 0 → a ≠ b → (TJxb160c a).2.1 ≠ (TJxb160c b).2.1 := by decide +kernel
theorem tyJxb160c_ok : ∀ k, k < 0 → parseFieldDescriptor (TJxb160c k).2.2.1 = some (tyJxb160c k) := by decide +kernel
def RJx29ce0 : String := "java/lang/Enum"
def TJx29ce0 : u_T := fun k => match k with
  | _ => ("", "", "", false)
def tyJx29ce0 : Nat → FieldType := fun k => match k with
  | _ => .int
theorem nmJx29ce0 : ∀ a, a < 0 → ∀ b, b < 0 → a ≠ b → (TJx29ce0 a).2.1 ≠ (TJx29ce0 b).2.1 := by decide +kernel
theorem tyJx29ce0_ok : ∀ k, k < 0 → parseFieldDescriptor (TJx29ce0 k).2.2.1 = some (tyJx29ce0 k) := by decide +kernel
abbrev cJx29ce0_ordinal_8abf5 : ByteArray := prog_17_method_2_code
def yJx29ce0_ordinal_8abf5 : MethodName := ⟨RJx29ce0, "ordinal", "()I"⟩
def RJ6 : String := "java/lang/Integer"
def TJ6 : u_T := fun k => match k with
  | _ => ("", "", "", false)
def tyJ6 : Nat → FieldType := fun k => match k with
  | _ => .int
theorem nmJ6 : ∀ a, a < 0 → ∀ b, b < 0 → a ≠ b → (TJ6 a).2.1 ≠ (TJ6 b).2.1 := by decide +kernel
theorem tyJ6_ok : ∀ k, k < 0 → parseFieldDescriptor (TJ6 k).2.2.1 = some (tyJ6 k) := by decide +kernel
abbrev cJ6_getChars_ba4f3 : ByteArray := prog_22_method_12_code
def yJ6_getChars_ba4f3 : MethodName := ⟨RJ6, "getChars", "(II[B)I"⟩
abbrev cJ6_stringSize_0f7a4 : ByteArray := prog_22_method_13_code
def yJ6_stringSize_0f7a4 : MethodName := ⟨RJ6, "stringSize", "(I)I"⟩
def RJ9 : String := "java/lang/Math"
def TJ9 : u_T := fun k => match k with
  | _ => ("", "", "", false)
def tyJ9 : Nat → FieldType := fun k => match k with
  | _ => .int
theorem nmJ9 : ∀ a, a < 0 → ∀ b, b < 0 → a ≠ b → (TJ9 a).2.1 ≠ (TJ9 b).2.1 := by decide +kernel
theorem tyJ9_ok : ∀ k, k < 0 → parseFieldDescriptor (TJ9 k).2.2.1 = some (tyJ9 k) := by decide +kernel
abbrev cJ9_max_7cf53 : ByteArray := prog_23_method_65_code
def yJ9_max_7cf53 : MethodName := ⟨RJ9, "max", "(II)I"⟩
abbrev cJ9_min_7cf53 : ByteArray := prog_23_method_69_code
def yJ9_min_7cf53 : MethodName := ⟨RJ9, "min", "(II)I"⟩
def RJxd2413 : String := "java/lang/Number"
def TJxd2413 : u_T := fun k => match k with
  | _ => ("", "", "", false)
def tyJxd2413 : Nat → FieldType := fun k => match k with
  | _ => .int
theorem nmJxd2413 : ∀ a, a < 0 → ∀ b, b < 0 → a ≠ b → (TJxd2413 a).2.1 ≠ (TJxd2413 b).2.1 := by decide +kernel
theorem tyJxd2413_ok : ∀ k, k < 0 → parseFieldDescriptor (TJxd2413 k).2.2.1 = some (tyJxd2413 k) := by decide +kernel
def RJ0 : String := "java/lang/String"
def TJ0 : u_T := fun k => match k with
  | 0 => ("java/lang/String", "value", "[B", true)
  | 1 => ("java/lang/String", "coder", "B", true)
  | 2 => ("java/lang/String", "hash", "I", false)
  | _ => ("java/lang/String", "hashIsZero", "Z", false)
def tyJ0 : Nat → FieldType := fun k => match k with
  | 0 => .array .byte
  | 1 => .byte
  | 2 => .int
  | _ => .boolean
theorem nmJ0 : ∀ a, a < 4 → ∀ b, b < 4 → a ≠ b → (TJ0 a).2.1 ≠ (TJ0 b).2.1 := by decide +kernel
theorem tyJ0_ok : ∀ k, k < 4 → parseFieldDescriptor (TJ0 k).2.2.1 = some (tyJ0 k) := by decide +kernel
abbrev cJ0_init_81219 : ByteArray := prog_26_method_53_code
def yJ0_init_81219 : MethodName := ⟨RJ0, "<init>", "(Ljava/lang/StringBuilder;)V"⟩
abbrev cJ0_length_8abf5 : ByteArray := prog_26_method_54_code
def yJ0_length_8abf5 : MethodName := ⟨RJ0, "length", "()I"⟩
abbrev cJ0_charAt_5068e : ByteArray := prog_26_method_56_code
def yJ0_charAt_5068e : MethodName := ⟨RJ0, "charAt", "(I)C"⟩
abbrev cJ0_getBytes_840e7 : ByteArray := prog_26_method_147_code
def yJ0_getBytes_840e7 : MethodName := ⟨RJ0, "getBytes", "([BIB)V"⟩
abbrev cJ0_init_db425 : ByteArray := prog_26_method_150_code
def yJ0_init_db425 : MethodName := ⟨RJ0, "<init>", "(Ljava/lang/AbstractStringBuilder;Ljava/lang/Void;)V"⟩
abbrev cJ0_coder_7d493 : ByteArray := prog_26_method_152_code
def yJ0_coder_7d493 : MethodName := ⟨RJ0, "coder", "()B"⟩
abbrev cJ0_isLatin1_aae02 : ByteArray := prog_26_method_154_code
def yJ0_isLatin1_aae02 : MethodName := ⟨RJ0, "isLatin1", "()Z"⟩
abbrev cJ0_checkIndex_df160 : ByteArray := prog_26_method_155_code
def yJ0_checkIndex_df160 : MethodName := ⟨RJ0, "checkIndex", "(II)V"⟩
abbrev cJ0_checkBoundsOffCount_cabcc : ByteArray := prog_26_method_157_code
def yJ0_checkBoundsOffCount_cabcc : MethodName := ⟨RJ0, "checkBoundsOffCount", "(III)I"⟩
abbrev cJ0_checkBoundsBeginEnd_23922 : ByteArray := prog_26_method_158_code
def yJ0_checkBoundsBeginEnd_23922 : MethodName := ⟨RJ0, "checkBoundsBeginEnd", "(III)V"⟩
def RJ4 : String := "java/lang/StringBuilder"
def TJ4 : u_T := fun k => match k with
  | 0 => ("java/lang/AbstractStringBuilder", "value", "[B", false)
  | 1 => ("java/lang/AbstractStringBuilder", "coder", "B", false)
  | 2 => ("java/lang/AbstractStringBuilder", "maybeLatin1", "Z", false)
  | _ => ("java/lang/AbstractStringBuilder", "count", "I", false)
def tyJ4 : Nat → FieldType := fun k => match k with
  | 0 => .array .byte
  | 1 => .byte
  | 2 => .boolean
  | _ => .int
theorem nmJ4 : ∀ a, a < 4 → ∀ b, b < 4 → a ≠ b → (TJ4 a).2.1 ≠ (TJ4 b).2.1 := by decide +kernel
theorem tyJ4_ok : ∀ k, k < 4 → parseFieldDescriptor (TJ4 k).2.2.1 = some (tyJ4 k) := by decide +kernel
abbrev cJ4_init_da8c8 : ByteArray := prog_27_method_1_code
def yJ4_init_da8c8 : MethodName := ⟨RJ4, "<init>", "()V"⟩
abbrev cJ4_append_15ec4 : ByteArray := prog_27_method_7_code
def yJ4_append_15ec4 : MethodName := ⟨RJ4, "append", "(Ljava/lang/String;)Ljava/lang/StringBuilder;"⟩
abbrev cJ4_append_cf468 : ByteArray := prog_27_method_14_code
def yJ4_append_cf468 : MethodName := ⟨RJ4, "append", "(C)Ljava/lang/StringBuilder;"⟩
abbrev cJ4_append_bf812 : ByteArray := prog_27_method_15_code
def yJ4_append_bf812 : MethodName := ⟨RJ4, "append", "(I)Ljava/lang/StringBuilder;"⟩
abbrev cJ4_toString_0e30d : ByteArray := prog_27_method_42_code
def yJ4_toString_0e30d : MethodName := ⟨RJ4, "toString", "()Ljava/lang/String;"⟩
abbrev cJ4_charAt_5068e : ByteArray := prog_27_method_88_code
def yJ4_charAt_5068e : MethodName := ⟨RJ4, "charAt", "(I)C"⟩
abbrev cJ4_setLength_d00df : ByteArray := prog_27_method_89_code
def yJ4_setLength_d00df : MethodName := ⟨RJ4, "setLength", "(I)V"⟩
abbrev cJ4_length_8abf5 : ByteArray := prog_27_method_93_code
def yJ4_length_8abf5 : MethodName := ⟨RJ4, "length", "()I"⟩
def RJx7c733 : String := "java/lang/StringIndexOutOfBoundsException"
def TJx7c733 : u_T := fun k => match k with
  | 0 => ("java/lang/Throwable", "backtrace", "Ljava/lang/Object;", false)
  | 1 => ("java/lang/Throwable", "detailMessage", "Ljava/lang/String;", false)
  | 2 => ("java/lang/Throwable", "cause", "Ljava/lang/Throwable;", false)
  | 3 => ("java/lang/Throwable", "stackTrace", "[Ljava/lang/StackTraceElement;", false)
  | 4 => ("java/lang/Throwable", "depth", "I", false)
  | _ => ("java/lang/Throwable", "suppressedExceptions", "Ljava/util/List;", false)
def tyJx7c733 : Nat → FieldType := fun k => match k with
  | 0 => .object "java/lang/Object"
  | 1 => .object "java/lang/String"
  | 2 => .object "java/lang/Throwable"
  | 3 => .array (.object "java/lang/StackTraceElement")
  | 4 => .int
  | _ => .object "java/util/List"
theorem nmJx7c733 : ∀ a, a < 6 → ∀ b, b < 6 → a ≠ b → (TJx7c733 a).2.1 ≠ (TJx7c733 b).2.1 := by decide +kernel
theorem tyJx7c733_ok : ∀ k, k < 6 → parseFieldDescriptor (TJx7c733 k).2.2.1 = some (tyJx7c733 k) := by decide +kernel
abbrev cJx7c733_init_d00df : ByteArray := prog_28_method_3_code
def yJx7c733_init_d00df : MethodName := ⟨RJx7c733, "<init>", "(I)V"⟩
def RJ1 : String := "java/lang/StringLatin1"
def TJ1 : u_T := fun k => match k with
  | _ => ("", "", "", false)
def tyJ1 : Nat → FieldType := fun k => match k with
  | _ => .int
theorem nmJ1 : ∀ a, a < 0 → ∀ b, b < 0 → a ≠ b → (TJ1 a).2.1 ≠ (TJ1 b).2.1 := by decide +kernel
theorem tyJ1_ok : ∀ k, k < 0 → parseFieldDescriptor (TJ1 k).2.2.1 = some (tyJ1 k) := by decide +kernel
abbrev cJ1_charAt_3b067 : ByteArray := prog_29_method_2_code
def yJ1_charAt_3b067 : MethodName := ⟨RJ1, "charAt", "([BI)C"⟩
abbrev cJ1_canEncode_fc78d : ByteArray := prog_29_method_3_code
def yJ1_canEncode_fc78d : MethodName := ⟨RJ1, "canEncode", "(C)Z"⟩
abbrev cJ1_fillNull_b72d1 : ByteArray := prog_29_method_48_code
def yJ1_fillNull_b72d1 : MethodName := ⟨RJ1, "fillNull", "([BII)V"⟩
abbrev cJ1_inflate_0e8fd : ByteArray := prog_29_method_50_code
def yJ1_inflate_0e8fd : MethodName := ⟨RJ1, "inflate", "([BI[BII)V"⟩
def RJ2 : String := "java/lang/StringUTF16"
def TJ2 : u_T := fun k => match k with
  | _ => ("", "", "", false)
def tyJ2 : Nat → FieldType := fun k => match k with
  | _ => .int
theorem nmJ2 : ∀ a, a < 0 → ∀ b, b < 0 → a ≠ b → (TJ2 a).2.1 ≠ (TJ2 b).2.1 := by decide +kernel
theorem tyJ2_ok : ∀ k, k < 0 → parseFieldDescriptor (TJ2 k).2.2.1 = some (tyJ2 k) := by decide +kernel
abbrev cJ2_newBytesFor_77867 : ByteArray := prog_30_method_2_code
def yJ2_newBytesFor_77867 : MethodName := ⟨RJ2, "newBytesFor", "(I)[B"⟩
abbrev cJ2_newBytesLength_0f7a4 : ByteArray := prog_30_method_3_code
def yJ2_newBytesLength_0f7a4 : MethodName := ⟨RJ2, "newBytesLength", "(I)I"⟩
abbrev cJ2_putChar_b72d1 : ByteArray := prog_30_method_4_code
def yJ2_putChar_b72d1 : MethodName := ⟨RJ2, "putChar", "([BII)V"⟩
abbrev cJ2_getChar_3b067 : ByteArray := prog_30_method_5_code
def yJ2_getChar_3b067 : MethodName := ⟨RJ2, "getChar", "([BI)C"⟩
abbrev cJ2_length_9d52b : ByteArray := prog_30_method_6_code
def yJ2_length_9d52b : MethodName := ⟨RJ2, "length", "([B)I"⟩
abbrev cJ2_coderFromArrayLen_85cad : ByteArray := prog_30_method_15_code
def yJ2_coderFromArrayLen_85cad : MethodName := ⟨RJ2, "coderFromArrayLen", "([BI)B"⟩
abbrev cJ2_compress_39247 : ByteArray := prog_30_method_17_code
def yJ2_compress_39247 : MethodName := ⟨RJ2, "compress", "([BII)[B"⟩
abbrev cJ2_compress_5af95 : ByteArray := prog_30_method_22_code
def yJ2_compress_5af95 : MethodName := ⟨RJ2, "compress", "([BI[BII)I"⟩
abbrev cJ2_fillNull_b72d1 : ByteArray := prog_30_method_70_code
def yJ2_fillNull_b72d1 : MethodName := ⟨RJ2, "fillNull", "([BII)V"⟩
abbrev cJ2_putCharSB_b72d1 : ByteArray := prog_30_method_71_code
def yJ2_putCharSB_b72d1 : MethodName := ⟨RJ2, "putCharSB", "([BII)V"⟩
abbrev cJ2_getChars_46870 : ByteArray := prog_30_method_77_code
def yJ2_getChars_46870 : MethodName := ⟨RJ2, "getChars", "(III[B)I"⟩
abbrev cJ2_putCharsAt_cd4e5 : ByteArray := prog_30_method_81_code
def yJ2_putCharsAt_cd4e5 : MethodName := ⟨RJ2, "putCharsAt", "([BICCCC)I"⟩
abbrev cJ2_charAt_3b067 : ByteArray := prog_30_method_83_code
def yJ2_charAt_3b067 : MethodName := ⟨RJ2, "charAt", "([BI)C"⟩
abbrev cJ2_inflate_0e8fd : ByteArray := prog_30_method_86_code
def yJ2_inflate_0e8fd : MethodName := ⟨RJ2, "inflate", "([BI[BII)V"⟩
abbrev cJ2_getChars_ba4f3 : ByteArray := prog_30_method_89_code
def yJ2_getChars_ba4f3 : MethodName := ⟨RJ2, "getChars", "(II[B)I"⟩
abbrev cJ2_checkIndex_2214a : ByteArray := prog_30_method_91_code
def yJ2_checkIndex_2214a : MethodName := ⟨RJ2, "checkIndex", "(I[B)V"⟩
abbrev cJ2_checkBoundsBeginEnd_d044e : ByteArray := prog_30_method_93_code
def yJ2_checkBoundsBeginEnd_d044e : MethodName := ⟨RJ2, "checkBoundsBeginEnd", "(II[B)V"⟩
abbrev cJ2_checkBoundsOffCount_d044e : ByteArray := prog_30_method_94_code
def yJ2_checkBoundsOffCount_d044e : MethodName := ⟨RJ2, "checkBoundsOffCount", "(II[B)V"⟩
def RJ10 : String := "java/lang/System"
def TJ10 : u_T := fun k => match k with
  | _ => ("", "", "", false)
def tyJ10 : Nat → FieldType := fun k => match k with
  | _ => .int
theorem nmJ10 : ∀ a, a < 0 → ∀ b, b < 0 → a ≠ b → (TJ10 a).2.1 ≠ (TJ10 b).2.1 := by decide +kernel
theorem tyJ10_ok : ∀ k, k < 0 → parseFieldDescriptor (TJ10 k).2.2.1 = some (tyJ10 k) := by decide +kernel
def RJxfd54e : String := "java/lang/constant/Constable"
def TJxfd54e : u_T := fun k => match k with
  | _ => ("", "", "", false)
def tyJxfd54e : Nat → FieldType := fun k => match k with
  | _ => .int
theorem nmJxfd54e : ∀ a, a < 0 → ∀ b, b < 0 → a ≠ b → (TJxfd54e a).2.1 ≠ (TJxfd54e b).2.1 := by decide +kernel
theorem tyJxfd54e_ok : ∀ k, k < 0 → parseFieldDescriptor (TJxfd54e k).2.2.1 = some (tyJxfd54e k) := by decide +kernel
def RJx3cf43 : String := "java/lang/constant/ConstantDesc"
def TJx3cf43 : u_T := fun k => match k with
  | _ => ("", "", "", false)
def tyJx3cf43 : Nat → FieldType := fun k => match k with
  | _ => .int
theorem nmJx3cf43 : ∀ a, a < 0 → ∀ b, b < 0 → a ≠ b → (TJx3cf43 a).2.1 ≠ (TJx3cf43 b).2.1 := by decide +kernel
theorem tyJx3cf43_ok : ∀ k, k < 0 → parseFieldDescriptor (TJx3cf43 k).2.2.1 = some (tyJx3cf43 k) := by decide +kernel
def RJ7 : String := "java/util/Arrays"
def TJ7 : u_T := fun k => match k with
  | _ => ("", "", "", false)
def tyJ7 : Nat → FieldType := fun k => match k with
  | _ => .int
theorem nmJ7 : ∀ a, a < 0 → ∀ b, b < 0 → a ≠ b → (TJ7 a).2.1 ≠ (TJ7 b).2.1 := by decide +kernel
theorem tyJ7_ok : ∀ k, k < 0 → parseFieldDescriptor (TJ7 k).2.2.1 = some (tyJ7 k) := by decide +kernel
abbrev cJ7_rangeCheck_23922 : ByteArray := prog_36_method_30_code
def yJ7_rangeCheck_23922 : MethodName := ⟨RJ7, "rangeCheck", "(III)V"⟩
abbrev cJ7_fill_eb02e : ByteArray := prog_36_method_110_code
def yJ7_fill_eb02e : MethodName := ⟨RJ7, "fill", "([BIIB)V"⟩
abbrev cJ7_copyOf_9075b : ByteArray := prog_36_method_121_code
def yJ7_copyOf_9075b : MethodName := ⟨RJ7, "copyOf", "([BI)[B"⟩
abbrev cJ7_checkLength_df160 : ByteArray := prog_36_method_131_code
def yJ7_checkLength_df160 : MethodName := ⟨RJ7, "checkLength", "(II)V"⟩
abbrev cJ7_copyOfRange_39247 : ByteArray := prog_36_method_132_code
def yJ7_copyOfRange_39247 : MethodName := ⟨RJ7, "copyOfRange", "([BII)[B"⟩
abbrev cJ7_copyOfRangeByte_39247 : ByteArray := prog_36_method_133_code
def yJ7_copyOfRangeByte_39247 : MethodName := ⟨RJ7, "copyOfRangeByte", "([BII)[B"⟩
def RJ8 : String := "jdk/internal/util/ArraysSupport"
def TJ8 : u_T := fun k => match k with
  | _ => ("", "", "", false)
def tyJ8 : Nat → FieldType := fun k => match k with
  | _ => .int
theorem nmJ8 : ∀ a, a < 0 → ∀ b, b < 0 → a ≠ b → (TJ8 a).2.1 ≠ (TJ8 b).2.1 := by decide +kernel
theorem tyJ8_ok : ∀ k, k < 0 → parseFieldDescriptor (TJ8 k).2.2.1 = some (tyJ8 k) := by decide +kernel
abbrev cJ8_newLength_cabcc : ByteArray := prog_38_method_27_code
def yJ8_newLength_cabcc : MethodName := ⟨RJ8, "newLength", "(III)I"⟩
abbrev cJ8_hugeLength_7cf53 : ByteArray := prog_38_method_28_code
def yJ8_hugeLength_7cf53 : MethodName := ⟨RJ8, "hugeLength", "(II)I"⟩
def RJ3 : String := "jdk/internal/util/Preconditions"
def TJ3 : u_T := fun k => match k with
  | _ => ("", "", "", false)
def tyJ3 : Nat → FieldType := fun k => match k with
  | _ => .int
theorem nmJ3 : ∀ a, a < 0 → ∀ b, b < 0 → a ≠ b → (TJ3 a).2.1 ≠ (TJ3 b).2.1 := by decide +kernel
theorem tyJ3_ok : ∀ k, k < 0 → parseFieldDescriptor (TJ3 k).2.2.1 = some (tyJ3 k) := by decide +kernel
abbrev cJ3_checkIndex_8e157 : ByteArray := prog_39_method_11_code
def yJ3_checkIndex_8e157 : MethodName := ⟨RJ3, "checkIndex", "(IILjava/util/function/BiFunction;)I"⟩
abbrev cJ3_checkFromToIndex_8c36e : ByteArray := prog_39_method_12_code
def yJ3_checkFromToIndex_8c36e : MethodName := ⟨RJ3, "checkFromToIndex", "(IIILjava/util/function/BiFunction;)I"⟩
abbrev cJ3_checkFromIndexSize_8c36e : ByteArray := prog_39_method_13_code
def yJ3_checkFromIndexSize_8c36e : MethodName := ⟨RJ3, "checkFromIndexSize", "(IIILjava/util/function/BiFunction;)I"⟩
def RL : String := "BowFoundryLaw"
abbrev cL_addAlloy : ByteArray := method_3_code
def yL_addAlloy : MethodName := ⟨RL, "addAlloy", "(LBowFoundry;III[J)I"⟩
abbrev cL_addMould : ByteArray := method_4_code
def yL_addMould : MethodName := ⟨RL, "addMould", "(LBowFoundry;I[J)I"⟩
abbrev cL_buy : ByteArray := method_5_code
def yL_buy : MethodName := ⟨RL, "buy", "(LBowFoundry;II[J)I"⟩
abbrev cL_cast : ByteArray := method_6_code
def yL_cast : MethodName := ⟨RL, "cast", "(LBowFoundry;III[J)I"⟩
abbrev cL_inspect : ByteArray := method_7_code
def yL_inspect : MethodName := ⟨RL, "inspect", "(LBowFoundry;I[J)I"⟩
abbrev cL_melt : ByteArray := method_8_code
def yL_melt : MethodName := ⟨RL, "melt", "(LBowFoundry;I[J)I"⟩
abbrev cL_renewMould : ByteArray := method_9_code
def yL_renewMould : MethodName := ⟨RL, "renewMould", "(LBowFoundry;I[J)I"⟩
abbrev cL_setTolerance : ByteArray := method_10_code
def yL_setTolerance : MethodName := ⟨RL, "setTolerance", "(LBowFoundry;I[J)I"⟩
abbrev cL_setStep : ByteArray := method_11_code
def yL_setStep : MethodName := ⟨RL, "setStep", "(LBowFoundry;I[J)I"⟩
abbrev cL_parts : ByteArray := method_12_code
def yL_parts : MethodName := ⟨RL, "parts", "(LBowFoundry;II[J)I"⟩
abbrev cL_mouldLength : ByteArray := method_13_code
def yL_mouldLength : MethodName := ⟨RL, "mouldLength", "(LBowFoundry;I[J)I"⟩
abbrev cL_uses : ByteArray := method_14_code
def yL_uses : MethodName := ⟨RL, "uses", "(LBowFoundry;I[J)I"⟩
abbrev cL_stock : ByteArray := method_15_code
def yL_stock : MethodName := ⟨RL, "stock", "(LBowFoundry;I[J)I"⟩
abbrev cL_batchAt : ByteArray := method_16_code
def yL_batchAt : MethodName := ⟨RL, "batchAt", "(LBowFoundry;I[J)I"⟩
abbrev cL_isFailed : ByteArray := method_17_code
def yL_isFailed : MethodName := ⟨RL, "isFailed", "(LBowFoundry;I[J)I"⟩
abbrev cL_batchSize : ByteArray := method_18_code
def yL_batchSize : MethodName := ⟨RL, "batchSize", "(LBowFoundry;I[J)I"⟩
abbrev cL_firstBow : ByteArray := method_19_code
def yL_firstBow : MethodName := ⟨RL, "firstBow", "(LBowFoundry;I[J)I"⟩
abbrev cL_squeak : ByteArray := method_20_code
def yL_squeak : MethodName := ⟨RL, "squeak", "(LBowFoundry;I[J)I"⟩
abbrev cL_isGood : ByteArray := method_21_code
def yL_isGood : MethodName := ⟨RL, "isGood", "(LBowFoundry;I[J)I"⟩
abbrev cL_batchOf : ByteArray := method_22_code
def yL_batchOf : MethodName := ⟨RL, "batchOf", "(LBowFoundry;I[J)I"⟩
abbrev cL_goodBows : ByteArray := method_23_code
def yL_goodBows : MethodName := ⟨RL, "goodBows", "(LBowFoundry;I[J)I"⟩
abbrev cL_sampleSize : ByteArray := method_24_code
def yL_sampleSize : MethodName := ⟨RL, "sampleSize", "(LBowFoundry;I[J)I"⟩
abbrev cL_wouldPass : ByteArray := method_25_code
def yL_wouldPass : MethodName := ⟨RL, "wouldPass", "(LBowFoundry;I[J)I"⟩
abbrev cL_neededTolerance : ByteArray := method_26_code
def yL_neededTolerance : MethodName := ⟨RL, "neededTolerance", "(LBowFoundry;I[J)I"⟩
abbrev cL_neededToleranceByTrying : ByteArray := method_27_code
def yL_neededToleranceByTrying : MethodName := ⟨RL, "neededToleranceByTrying", "(LBowFoundry;I[J)I"⟩
abbrev cL_nextSqueak : ByteArray := method_28_code
def yL_nextSqueak : MethodName := ⟨RL, "nextSqueak", "(LBowFoundry;II[J)I"⟩
abbrev cL_possibleBows : ByteArray := method_29_code
def yL_possibleBows : MethodName := ⟨RL, "possibleBows", "(LBowFoundry;I[J)I"⟩
abbrev cL_metalInBatches : ByteArray := method_30_code
def yL_metalInBatches : MethodName := ⟨RL, "metalInBatches", "(LBowFoundry;I[J)I"⟩
abbrev cL_metalByAccounts : ByteArray := method_31_code
def yL_metalByAccounts : MethodName := ⟨RL, "metalByAccounts", "(LBowFoundry;I[J)I"⟩
abbrev cL_batchBySqueak : ByteArray := method_32_code
def yL_batchBySqueak : MethodName := ⟨RL, "batchBySqueak", "(LBowFoundry;I[J)I"⟩
abbrev cL_lostGrams : ByteArray := method_33_code
def yL_lostGrams : MethodName := ⟨RL, "lostGrams", "(LBowFoundry;I[J)I"⟩
abbrev cL_meanSqueak : ByteArray := method_34_code
def yL_meanSqueak : MethodName := ⟨RL, "meanSqueak", "(LBowFoundry;[D)I"⟩
abbrev cL_soldShare : ByteArray := method_35_code
def yL_soldShare : MethodName := ⟨RL, "soldShare", "(LBowFoundry;[D)I"⟩
abbrev cL_renderBatch : ByteArray := method_36_code
def yL_renderBatch : MethodName := ⟨RL, "renderBatch", "(LBowFoundry;I[J)I"⟩
abbrev cL_outputAt : ByteArray := method_37_code
def yL_outputAt : MethodName := ⟨RL, "outputAt", "(LBowFoundry;I[J)I"⟩
abbrev cL_type : ByteArray := method_38_code
def yL_type : MethodName := ⟨RL, "type", "(LBowFoundry;C[J)I"⟩
abbrev cL_runScript : ByteArray := method_39_code
def yL_runScript : MethodName := ⟨RL, "runScript", "(LBowFoundry;[J)I"⟩
abbrev cL_errorPosition : ByteArray := method_40_code
def yL_errorPosition : MethodName := ⟨RL, "errorPosition", "(LBowFoundry;[J)I"⟩
abbrev cL_failedCommand : ByteArray := method_41_code
def yL_failedCommand : MethodName := ⟨RL, "failedCommand", "(LBowFoundry;[J)I"⟩
abbrev cL_undo : ByteArray := method_42_code
def yL_undo : MethodName := ⟨RL, "undo", "(LBowFoundry;[J)I"⟩
abbrev cL_restore : ByteArray := method_43_code
def yL_restore : MethodName := ⟨RL, "restore", "(LBowFoundry;[J)I"⟩
abbrev cL_law : ByteArray := code
def yL_law : MethodName := ⟨RL, "law", "([I)Z"⟩
abbrev vwCl : List vw_C := [(RJ0, TJ0, 4), (RJ4, TJ4, 4), (RJx00060, TJx00060, 6), (RJx7c733, TJx7c733, 6), (RX1, TX1, 6), (RX3, TX3, 5), (RX4, TX4, 17), (RX5, TX5, 9), (RX6, TX6, 16)]
/-- all words that a method may lean on: ONE list for every method -/
def T0 : List Cond := lw_tbl.filter goodWord
theorem T0_good : GoodIn T0 T0 := fun w h => ⟨h, good_of_word (List.mem_filter.mp h).2⟩
theorem T0_of {w : Cond} (h : w ∈ lw_tbl) (g : goodWord w = true) : w ∈ T0 := List.mem_filter.mpr ⟨h, g⟩
theorem tb_of {w : Cond} (h : w ∈ tables_1) : w ∈ lw_tbl := List.mem_append_right _ h
/-- the words that a warming keeps, but by laws of their own: nest mates' links, declared names, casts, arrays over a class -/
def nwd : Cond → Bool
  | .fieldLinkNest .. => true
  | .methodLinkNest .. => true
  | .declares _ => true
  | .castable .. => true
  | .arrayOver (.object _) => true
  | .arrayOver (.array _) => true
  | _ => false
def N0 : List Cond := lw_tbl.filter nwd
theorem N0_of {w : Cond} (h : w ∈ lw_tbl) (g : nwd w = true) : w ∈ N0 := List.mem_filter.mpr ⟨h, g⟩
theorem tm1 {w : Cond} {j : Nat} (h : tables_1_1[j]? = some w) : w ∈ lw_tbl := tb_of (by unfold tables_1; exact List.mem_append_left _ (List.mem_of_getElem? h))
theorem m1 {w : Cond} {j : Nat} (h : tables_1_1[j]? = some w) (g : goodWord w = true) : w ∈ T0 := T0_of (tm1 h) g
theorem n1 {w : Cond} {j : Nat} (h : tables_1_1[j]? = some w) (g : nwd w = true) : w ∈ N0 := N0_of (tm1 h) g
theorem tm2 {w : Cond} {j : Nat} (h : tables_1_2[j]? = some w) : w ∈ lw_tbl := tb_of (by unfold tables_1; exact List.mem_append_right _ (List.mem_append_left _ (List.mem_of_getElem? h)))
theorem m2 {w : Cond} {j : Nat} (h : tables_1_2[j]? = some w) (g : goodWord w = true) : w ∈ T0 := T0_of (tm2 h) g
theorem n2 {w : Cond} {j : Nat} (h : tables_1_2[j]? = some w) (g : nwd w = true) : w ∈ N0 := N0_of (tm2 h) g
theorem tm3 {w : Cond} {j : Nat} (h : tables_1_3[j]? = some w) : w ∈ lw_tbl := tb_of (by unfold tables_1; exact List.mem_append_right _ (List.mem_append_right _ (List.mem_append_left _ (List.mem_of_getElem? h))))
theorem m3 {w : Cond} {j : Nat} (h : tables_1_3[j]? = some w) (g : goodWord w = true) : w ∈ T0 := T0_of (tm3 h) g
theorem n3 {w : Cond} {j : Nat} (h : tables_1_3[j]? = some w) (g : nwd w = true) : w ∈ N0 := N0_of (tm3 h) g
theorem tm4 {w : Cond} {j : Nat} (h : tables_1_4[j]? = some w) : w ∈ lw_tbl := tb_of (by unfold tables_1; exact List.mem_append_right _ (List.mem_append_right _ (List.mem_append_right _ (List.mem_append_left _ (List.mem_of_getElem? h)))))
theorem m4 {w : Cond} {j : Nat} (h : tables_1_4[j]? = some w) (g : goodWord w = true) : w ∈ T0 := T0_of (tm4 h) g
theorem n4 {w : Cond} {j : Nat} (h : tables_1_4[j]? = some w) (g : nwd w = true) : w ∈ N0 := N0_of (tm4 h) g
theorem tm5 {w : Cond} {j : Nat} (h : tables_1_5[j]? = some w) : w ∈ lw_tbl := tb_of (by unfold tables_1; exact List.mem_append_right _ (List.mem_append_right _ (List.mem_append_right _ (List.mem_append_right _ (List.mem_append_left _ (List.mem_of_getElem? h))))))
theorem m5 {w : Cond} {j : Nat} (h : tables_1_5[j]? = some w) (g : goodWord w = true) : w ∈ T0 := T0_of (tm5 h) g
theorem n5 {w : Cond} {j : Nat} (h : tables_1_5[j]? = some w) (g : nwd w = true) : w ∈ N0 := N0_of (tm5 h) g
theorem tm6 {w : Cond} {j : Nat} (h : tables_1_6[j]? = some w) : w ∈ lw_tbl := tb_of (by unfold tables_1; exact List.mem_append_right _ (List.mem_append_right _ (List.mem_append_right _ (List.mem_append_right _ (List.mem_append_right _ (List.mem_append_left _ (List.mem_of_getElem? h)))))))
theorem m6 {w : Cond} {j : Nat} (h : tables_1_6[j]? = some w) (g : goodWord w = true) : w ∈ T0 := T0_of (tm6 h) g
theorem n6 {w : Cond} {j : Nat} (h : tables_1_6[j]? = some w) (g : nwd w = true) : w ∈ N0 := N0_of (tm6 h) g
theorem tm7 {w : Cond} {j : Nat} (h : tables_1_7[j]? = some w) : w ∈ lw_tbl := tb_of (by unfold tables_1; exact List.mem_append_right _ (List.mem_append_right _ (List.mem_append_right _ (List.mem_append_right _ (List.mem_append_right _ (List.mem_append_right _ (List.mem_append_left _ (List.mem_of_getElem? h))))))))
theorem m7 {w : Cond} {j : Nat} (h : tables_1_7[j]? = some w) (g : goodWord w = true) : w ∈ T0 := T0_of (tm7 h) g
theorem n7 {w : Cond} {j : Nat} (h : tables_1_7[j]? = some w) (g : nwd w = true) : w ∈ N0 := N0_of (tm7 h) g
theorem tm8 {w : Cond} {j : Nat} (h : tables_1_8[j]? = some w) : w ∈ lw_tbl := tb_of (by unfold tables_1; exact List.mem_append_right _ (List.mem_append_right _ (List.mem_append_right _ (List.mem_append_right _ (List.mem_append_right _ (List.mem_append_right _ (List.mem_append_right _ (List.mem_of_getElem? h))))))))
theorem m8 {w : Cond} {j : Nat} (h : tables_1_8[j]? = some w) (g : goodWord w = true) : w ∈ T0 := T0_of (tm8 h) g
theorem n8 {w : Cond} {j : Nat} (h : tables_1_8[j]? = some w) (g : nwd w = true) : w ∈ N0 := N0_of (tm8 h) g
theorem mp_of {q : MethodName × Nat} (h : q ∈ lw_privs) : Cond.selects q.1.cls q.1 q.1 ∈ T0 := T0_of (List.mem_append_left _ (List.mem_map.mpr ⟨q, h, rfl⟩)) rfl
theorem mp1 {y : MethodName} {n j : Nat} (h : lw_privs_1[j]? = some (y, n)) : Cond.selects y.cls y y ∈ T0 := mp_of (q := (y, n)) (by unfold lw_privs; exact List.mem_append_left _ (List.mem_of_getElem? h))
theorem mp2 {y : MethodName} {n j : Nat} (h : lw_privs_2[j]? = some (y, n)) : Cond.selects y.cls y y ∈ T0 := mp_of (q := (y, n)) (by unfold lw_privs; exact List.mem_append_right _ (List.mem_append_left _ (List.mem_of_getElem? h)))
theorem mp3 {y : MethodName} {n j : Nat} (h : lw_privs_3[j]? = some (y, n)) : Cond.selects y.cls y y ∈ T0 := mp_of (q := (y, n)) (by unfold lw_privs; exact List.mem_append_right _ (List.mem_append_right _ (List.mem_of_getElem? h)))
end
section
/-! ===== the judgement V: all that is fixed for one run of a method stands in X; what moves is the world, the locals by place, the stack, the pc ===== -/
abbrev xG : Type := va_G × (Nat → ClassId) × (Nat → Nat)
abbrev xC : Type := Program × Launch × Env × Room × State × MethodId × Array Value × List Frame × Method × Code × Nat × xG × (Nat → Prop) × (State → Prop)
/-- the array classes: int[] char[] byte[] int[][] Batch[] State[] long[] double[] Command[] -/
def tysG (cy : Nat → ClassId) : List (ClassId × FieldType) := [(cy 0, .int), (cy 1, .char), (cy 2, .byte), (cy 3, .array .int), (cy 4, .object "BowFoundry$Batch"), (cy 5, .object "BowFoundry$State"), (cy 6, .long), (cy 7, .double)]
/-- locals by place -/
def lo_has (ls : Array Slot) (nL : Nat) (L : List (Option Value)) : Prop := ls.size = nL ∧ lv_wf ls ∧ ∀ (i : Nat) (v : Value), L[i]? = some (some v) → ls[i]? = some (Slot.val v)
def lo_at (L : List (Option Value)) : List (Nat × Value) := (List.range L.length).filterMap (fun j => match L[j]? with | some (some v) => some (j, v) | _ => none)
theorem lo_mem {L : List (Option Value)} {j : Nat} {v : Value} : (j, v) ∈ lo_at L ↔ L[j]? = some (some v) := by
  unfold lo_at
  rw [List.mem_filterMap]
  constructor
  · rintro ⟨k, hk, h⟩
    split at h
    · rename_i x hx
      cases h
      exact hx
    · cases h
  · intro h
    refine ⟨j, List.mem_range.mpr (List.getElem?_eq_some_iff.mp h).1, ?_⟩
    rw [h]
theorem lo_lv {ls : Array Slot} {nL : Nat} {L : List (Option Value)} (h : lo_has ls nL L) : lv_has ls nL (lo_at L) :=
  ⟨h.1, h.2.1, fun q hq => h.2.2 q.1 q.2 (lo_mem.mp hq)⟩
/-- no wide value stands just ahead of place i -/
def lo_ok (L : List (Option Value)) : Nat → Bool
  | 0 => true
  | i + 1 => match L[i]? with
    | some (some v) => !(v.category == 2)
    | _ => true
theorem lo_set1 {ls' : Array Slot} {nL : Nat} {L : List (Option Value)} {i : Nat} {v : Value} (h : lv_has ls' nL ((i, v) :: (lo_at L).filter (fun q => !(q.1 == i) && !(q.1 + 1 == i && q.2.category == 2)))) (ho : lo_ok L i = true) : lo_has ls' nL (L.set i (some v)) := by
  refine ⟨h.1, h.2.1, fun j u hj => ?_⟩
  by_cases e : j = i
  · subst e
    rw [List.getElem?_set] at hj
    split at hj
    · split at hj
      · cases hj
        exact h.2.2 _ List.mem_cons_self
      · cases hj
    · rename_i q
      exact absurd rfl q
  · rw [List.getElem?_set_ne (fun q => e q.symm)] at hj
    refine h.2.2 (j, u) (List.mem_cons_of_mem _ (List.mem_filter.mpr ⟨lo_mem.mpr hj, ?_⟩))
    have h1 : (j == i) = false := by simpa using e
    simp only [h1, Bool.not_false, Bool.true_and]
    by_cases e2 : j + 1 = i
    · subst e2
      simp only [lo_ok, hj] at ho
      simp only [beq_self_eq_true, Bool.true_and]
      exact ho
    · have h2 : (j + 1 == i) = false := by simpa using e2
      simp [h2]
theorem lo_set2 {ls' : Array Slot} {nL : Nat} {L : List (Option Value)} {i : Nat} {v : Value} (h : lv_has ls' nL ((i, v) :: (lo_at L).filter (fun q => !(q.1 == i) && (!(q.1 == i + 1) && !(q.1 + 1 == i && q.2.category == 2))))) (ho : lo_ok L i = true) : lo_has ls' nL ((L.set i (some v)).set (i + 1) none) := by
  refine ⟨h.1, h.2.1, fun j u hj => ?_⟩
  by_cases e3 : j = i + 1
  · subst e3
    rw [List.getElem?_set] at hj
    split at hj
    · split at hj <;> cases hj
    · rename_i q
      exact absurd rfl q
  rw [List.getElem?_set_ne (fun q => e3 q.symm)] at hj
  by_cases e : j = i
  · subst e
    rw [List.getElem?_set] at hj
    split at hj
    · split at hj
      · cases hj
        exact h.2.2 _ List.mem_cons_self
      · cases hj
    · rename_i q
      exact absurd rfl q
  · rw [List.getElem?_set_ne (fun q => e q.symm)] at hj
    refine h.2.2 (j, u) (List.mem_cons_of_mem _ (List.mem_filter.mpr ⟨lo_mem.mpr hj, ?_⟩))
    have h1 : (j == i) = false := by simpa using e
    have h3 : (j == i + 1) = false := by simpa using e3
    simp only [h1, h3, Bool.not_false, Bool.true_and]
    by_cases e2 : j + 1 = i
    · subst e2
      simp only [lo_ok, hj] at ho
      simp only [beq_self_eq_true, Bool.true_and]
      exact ho
    · have h2 : (j + 1 == i) = false := by simpa using e2
      simp [h2]
theorem lo_none {ls : Array Slot} {nL : Nat} {L : List (Option Value)} (h : lo_has ls nL L) {L' : List (Option Value)} (h2 : ∀ (i : Nat) (v : Value), L'[i]? = some (some v) → L[i]? = some (some v)) : lo_has ls nL L' := ⟨h.1, h.2.1, fun i v hi => h.2.2 i v (h2 i v hi)⟩
def V (X : xC) (k n : Nat) (ws : va_W) (L : List (Option Value)) (st : List Value) (pc : Nat) : Prop := match X with
  | (p, l, e, R, s, m, args, below, meth, c, nL, G, A, Q) => ∀ (H : Heap) (locs : List Loc) (ls : Array Slot), va_P G.1 vwCl ws H → va_D A ws → va_S A s.heap H locs → lo_has ls nL L → W p l e R s m args below meth c H locs k n Q (F0 m pc ls st)
/-- the fixed facts of a run of the method with bytes cc, in class own; SF: the statics' facts; d mc ms: the room -/
def Ok (SF : (Nat → Nat) → (Nat → Prop) → State → Heap → Prop) (X : xC) (cc : ByteArray) (own : String) (d mc ms : Nat) : Prop := match X with
  | (p, _, _, R, s, m, args, _, meth, c, nL, G, A, _) => p.tables.exec = Jvm.exec ∧ c.code = cc ∧ s.vm.findClass own = some m.cls ∧ (∀ w ∈ T0, w.before args s = true) ∧ va_K G.1 vwCl (tysG G.2.1) s ∧ (∀ q, s.heap.size ≤ q → A q) ∧ meth.locks = false ∧ c.maxLocals = nL ∧ (d ≤ R.frames ∧ 40 * d ≤ R.locals ∧ mc ≤ R.cells ∧ ms ≤ R.slots) ∧ SF G.2.2 A s s.heap ∧ ∀ w ∈ N0, va_Nw w s
/-- the number of locals -/
def c0_nL (X : xC) : Nat := X.2.2.2.2.2.2.2.2.2.2.1
section VROWS
variable {SF : (Nat → Nat) → (Nat → Prop) → State → Heap → Prop} {X : xC} {cc : ByteArray} {own : String} {d mc ms : Nat} {k n : Nat} {ws : va_W} {L : List (Option Value)} {st : List Value} {pc pc' : Nat}
theorem V_perm {ws2 : va_W} (hp : ws.Perm ws2) (h : V X k n ws2 L st pc) : V X k n ws L st pc := by
  obtain ⟨p, l, e, R, s, m, args, below, meth, c, nL, G, A, Q⟩ := X
  intro H locs ls hP hD hS hl
  have hm : ∀ {D : va_G}, va_P D vwCl ws H → va_P D vwCl ws2 H := fun hP k q hq => by
    obtain ⟨i, hi⟩ := List.getElem?_of_mem (hp.mem_iff.mpr (List.mem_of_getElem? hq))
    exact hP i q hi
  have hn : (ws.map Prod.fst).Nodup := by
    rw [List.nodup_iff_pairwise_ne, List.pairwise_iff_getElem]
    intro i j hi hj hij e
    simp only [List.length_map] at hi hj
    rw [List.getElem_map, List.getElem_map] at e
    have := hD.1 i j ws[i] ws[j] (List.getElem?_eq_getElem hi) (List.getElem?_eq_getElem hj) e
    omega
  have hn2 : (ws2.map Prod.fst).Nodup := (hp.map Prod.fst).nodup_iff.mp hn
  refine h H locs ls (hm hP) ⟨fun i j x y hx hy e => ?_, fun i q hq => ?_⟩ hS hl
  · obtain ⟨hi, rfl⟩ := List.getElem?_eq_some_iff.mp hx
    obtain ⟨hj, rfl⟩ := List.getElem?_eq_some_iff.mp hy
    rw [List.nodup_iff_pairwise_ne, List.pairwise_iff_getElem] at hn2
    rcases Nat.lt_trichotomy i j with q | q | q
    · exact absurd (by rw [List.getElem_map, List.getElem_map]; exact e) (hn2 i j (by simpa using hi) (by simpa using hj) q)
    · exact q
    · exact absurd (by rw [List.getElem_map, List.getElem_map]; exact e.symm) (hn2 j i (by simpa using hj) (by simpa using hi) q)
  · obtain ⟨i', hi'⟩ := List.getElem?_of_mem (hp.mem_iff.mpr (List.mem_of_getElem? hq))
    exact hD.2 i' q hi'
theorem V_eq {ws2 : va_W} (hp : ws = ws2) (h : V X k n ws2 L st pc) : V X k n ws L st pc := hp ▸ h
theorem V_widen {k' n' : Nat} (hk : k ≤ k') (hn : n ≤ n') (h : V X k' n' ws L st pc) : V X k n ws L st pc := by
  obtain ⟨p, l, e, R, s, m, args, below, meth, c, nL, G, A, Q⟩ := X
  intro H locs ls hP hD hS hl
  exact W.widen hk hn (h H locs ls hP hD hS hl)
theorem V_loc {L' : List (Option Value)} (h2 : ∀ (i : Nat) (v : Value), L'[i]? = some (some v) → L[i]? = some (some v)) (h : V X k n ws L' st pc) : V X k n ws L st pc := by
  obtain ⟨p, l, e, R, s, m, args, below, meth, c, nL, G, A, Q⟩ := X
  intro H locs ls hP hD hS hl
  exact h H locs ls hP hD hS (lo_none hl h2)

theorem r_iconst {i : Int} {v : Int32} (hX : Ok SF X cc own d mc ms) (hd : decode cc pc = .ok (.iconst i, 1)) (hv : Int32.ofInt i = v) (hp : pc + 1 = pc') (h : V X k n ws L (.int v :: st) pc') : V X k n ws L (st) pc := by
  obtain ⟨p, l, e, R, s, m, args, below, meth, c, nL, G, A, Q⟩ := X
  obtain ⟨hx, hb, hown, hts, hK, hA, hlk, hml, hR, hsf, hNw⟩ := hX
  subst hp
  intro H locs ls hP hD hS hl
  exact lv_iconst hx hb hd hv (h H locs ls hP hD hS hl)
theorem r_bipush {i : Int} {v : Int32} (hX : Ok SF X cc own d mc ms) (hd : decode cc pc = .ok (.bipush i, 2)) (hv : (Int8.ofInt i).toInt32 = v) (hp : pc + 2 = pc') (h : V X k n ws L (.int v :: st) pc') : V X k n ws L (st) pc := by
  obtain ⟨p, l, e, R, s, m, args, below, meth, c, nL, G, A, Q⟩ := X
  obtain ⟨hx, hb, hown, hts, hK, hA, hlk, hml, hR, hsf, hNw⟩ := hX
  subst hp
  intro H locs ls hP hD hS hl
  exact lv_bipush hx hb hd hv (h H locs ls hP hD hS hl)
theorem r_sipush {i : Int} {v : Int32} (hX : Ok SF X cc own d mc ms) (hd : decode cc pc = .ok (.sipush i, 3)) (hv : (Int16.ofInt i).toInt32 = v) (hp : pc + 3 = pc') (h : V X k n ws L (.int v :: st) pc') : V X k n ws L (st) pc := by
  obtain ⟨p, l, e, R, s, m, args, below, meth, c, nL, G, A, Q⟩ := X
  obtain ⟨hx, hb, hown, hts, hK, hA, hlk, hml, hR, hsf, hNw⟩ := hX
  subst hp
  intro H locs ls hP hD hS hl
  exact lv_sipush hx hb hd hv (h H locs ls hP hD hS hl)
theorem r_lconst {i : Fin 2} {v : Int64} (hX : Ok SF X cc own d mc ms) (hd : decode cc pc = .ok (.lconst i, 1)) (hv : Int64.ofNat (i : Nat) = v) (hp : pc + 1 = pc') (h : V X k n ws L (.long v :: st) pc') : V X k n ws L (st) pc := by
  obtain ⟨p, l, e, R, s, m, args, below, meth, c, nL, G, A, Q⟩ := X
  obtain ⟨hx, hb, hown, hts, hK, hA, hlk, hml, hR, hsf, hNw⟩ := hX
  subst hp
  intro H locs ls hP hD hS hl
  exact lv_lconst hx hb hd hv (h H locs ls hP hD hS hl)
theorem r_iload_n {i : Fin 4} {x : Int32} (hX : Ok SF X cc own d mc ms) (hd : decode cc pc = .ok (.iload_n i, 1)) (hl0 : L[(i : Nat)]? = some (some (.int x))) (hp : pc + 1 = pc') (h : V X k n ws L (.int x :: st) pc') : V X k n ws L (st) pc := by
  obtain ⟨p, l, e, R, s, m, args, below, meth, c, nL, G, A, Q⟩ := X
  obtain ⟨hx, hb, hown, hts, hK, hA, hlk, hml, hR, hsf, hNw⟩ := hX
  subst hp
  intro H locs ls hP hD hS hl
  exact lv_iload_n hx hb hd rfl (hl.2.2 _ _ hl0) (h H locs ls hP hD hS hl)
theorem r_iload {i : Nat} {x : Int32} (hX : Ok SF X cc own d mc ms) (hd : decode cc pc = .ok (.iload i, 2)) (hl0 : L[i]? = some (some (.int x))) (hp : pc + 2 = pc') (h : V X k n ws L (.int x :: st) pc') : V X k n ws L (st) pc := by
  obtain ⟨p, l, e, R, s, m, args, below, meth, c, nL, G, A, Q⟩ := X
  obtain ⟨hx, hb, hown, hts, hK, hA, hlk, hml, hR, hsf, hNw⟩ := hX
  subst hp
  intro H locs ls hP hD hS hl
  exact lv_iload hx hb hd (hl.2.2 _ _ hl0) (h H locs ls hP hD hS hl)
theorem r_istore_n {i : Fin 4} {x : Int32} {L' : List (Option Value)} (hX : Ok SF X cc own d mc ms) (hd : decode cc pc = .ok (.istore_n i, 1)) (hn : ∀ nL : Nat, c0_nL X = nL → i < nL) (ho : lo_ok L i = true) (hL : L.set i (some (.int x)) = L') (hp : pc + 1 = pc') (h : V X k n ws L' st pc') : V X k n ws L (.int x :: st) pc := by
  obtain ⟨p, l, e, R, s, m, args, below, meth, c, nL, G, A, Q⟩ := X
  obtain ⟨hx, hb, hown, hts, hK, hA, hlk, hml, hR, hsf, hNw⟩ := hX
  subst hp
  subst hL
  intro H locs ls hP hD hS hl
  exact lv_istore_n hx hb hd rfl (lo_lv hl) (hn _ rfl) rfl (fun ls' h' => h H locs ls' hP hD hS (lo_set1 h' ho))
theorem r_istore {i : Nat} {x : Int32} {L' : List (Option Value)} (hX : Ok SF X cc own d mc ms) (hd : decode cc pc = .ok (.istore i, 2)) (hn : ∀ nL : Nat, c0_nL X = nL → i < nL) (ho : lo_ok L i = true) (hL : L.set i (some (.int x)) = L') (hp : pc + 2 = pc') (h : V X k n ws L' st pc') : V X k n ws L (.int x :: st) pc := by
  obtain ⟨p, l, e, R, s, m, args, below, meth, c, nL, G, A, Q⟩ := X
  obtain ⟨hx, hb, hown, hts, hK, hA, hlk, hml, hR, hsf, hNw⟩ := hX
  subst hp
  subst hL
  intro H locs ls hP hD hS hl
  exact lv_istore hx hb hd (lo_lv hl) (hn _ rfl) rfl (fun ls' h' => h H locs ls' hP hD hS (lo_set1 h' ho))
theorem r_aload_n {i : Fin 4} {x : Nat} (hX : Ok SF X cc own d mc ms) (hd : decode cc pc = .ok (.aload_n i, 1)) (hl0 : L[(i : Nat)]? = some (some (.ref x))) (hp : pc + 1 = pc') (h : V X k n ws L (.ref x :: st) pc') : V X k n ws L (st) pc := by
  obtain ⟨p, l, e, R, s, m, args, below, meth, c, nL, G, A, Q⟩ := X
  obtain ⟨hx, hb, hown, hts, hK, hA, hlk, hml, hR, hsf, hNw⟩ := hX
  subst hp
  intro H locs ls hP hD hS hl
  exact lv_aload_n hx hb hd rfl (hl.2.2 _ _ hl0) (h H locs ls hP hD hS hl)
theorem r_aload {i : Nat} {x : Nat} (hX : Ok SF X cc own d mc ms) (hd : decode cc pc = .ok (.aload i, 2)) (hl0 : L[i]? = some (some (.ref x))) (hp : pc + 2 = pc') (h : V X k n ws L (.ref x :: st) pc') : V X k n ws L (st) pc := by
  obtain ⟨p, l, e, R, s, m, args, below, meth, c, nL, G, A, Q⟩ := X
  obtain ⟨hx, hb, hown, hts, hK, hA, hlk, hml, hR, hsf, hNw⟩ := hX
  subst hp
  intro H locs ls hP hD hS hl
  exact lv_aload hx hb hd (hl.2.2 _ _ hl0) (h H locs ls hP hD hS hl)
theorem r_astore_n {i : Fin 4} {x : Nat} {L' : List (Option Value)} (hX : Ok SF X cc own d mc ms) (hd : decode cc pc = .ok (.astore_n i, 1)) (hn : ∀ nL : Nat, c0_nL X = nL → i < nL) (ho : lo_ok L i = true) (hL : L.set i (some (.ref x)) = L') (hp : pc + 1 = pc') (h : V X k n ws L' st pc') : V X k n ws L (.ref x :: st) pc := by
  obtain ⟨p, l, e, R, s, m, args, below, meth, c, nL, G, A, Q⟩ := X
  obtain ⟨hx, hb, hown, hts, hK, hA, hlk, hml, hR, hsf, hNw⟩ := hX
  subst hp
  subst hL
  intro H locs ls hP hD hS hl
  exact lv_astore_n hx hb hd rfl (lo_lv hl) (hn _ rfl) rfl (fun ls' h' => h H locs ls' hP hD hS (lo_set1 h' ho))
theorem r_astore {i : Nat} {x : Nat} {L' : List (Option Value)} (hX : Ok SF X cc own d mc ms) (hd : decode cc pc = .ok (.astore i, 2)) (hn : ∀ nL : Nat, c0_nL X = nL → i < nL) (ho : lo_ok L i = true) (hL : L.set i (some (.ref x)) = L') (hp : pc + 2 = pc') (h : V X k n ws L' st pc') : V X k n ws L (.ref x :: st) pc := by
  obtain ⟨p, l, e, R, s, m, args, below, meth, c, nL, G, A, Q⟩ := X
  obtain ⟨hx, hb, hown, hts, hK, hA, hlk, hml, hR, hsf, hNw⟩ := hX
  subst hp
  subst hL
  intro H locs ls hP hD hS hl
  exact lv_astore hx hb hd (lo_lv hl) (hn _ rfl) rfl (fun ls' h' => h H locs ls' hP hD hS (lo_set1 h' ho))
theorem r_lload_n {i : Fin 4} {x : Int64} (hX : Ok SF X cc own d mc ms) (hd : decode cc pc = .ok (.lload_n i, 1)) (hl0 : L[(i : Nat)]? = some (some (.long x))) (hp : pc + 1 = pc') (h : V X k n ws L (.long x :: st) pc') : V X k n ws L (st) pc := by
  obtain ⟨p, l, e, R, s, m, args, below, meth, c, nL, G, A, Q⟩ := X
  obtain ⟨hx, hb, hown, hts, hK, hA, hlk, hml, hR, hsf, hNw⟩ := hX
  subst hp
  intro H locs ls hP hD hS hl
  exact lv_lload_n hx hb hd rfl (hl.2.2 _ _ hl0) (h H locs ls hP hD hS hl)
theorem r_lload {i : Nat} {x : Int64} (hX : Ok SF X cc own d mc ms) (hd : decode cc pc = .ok (.lload i, 2)) (hl0 : L[i]? = some (some (.long x))) (hp : pc + 2 = pc') (h : V X k n ws L (.long x :: st) pc') : V X k n ws L (st) pc := by
  obtain ⟨p, l, e, R, s, m, args, below, meth, c, nL, G, A, Q⟩ := X
  obtain ⟨hx, hb, hown, hts, hK, hA, hlk, hml, hR, hsf, hNw⟩ := hX
  subst hp
  intro H locs ls hP hD hS hl
  exact lv_lload hx hb hd (hl.2.2 _ _ hl0) (h H locs ls hP hD hS hl)
theorem r_lstore_n {i : Fin 4} {x : Int64} {L' : List (Option Value)} (hX : Ok SF X cc own d mc ms) (hd : decode cc pc = .ok (.lstore_n i, 1)) (hn : ∀ nL : Nat, c0_nL X = nL → i + 1 < nL) (ho : lo_ok L i = true) (hL : (L.set i (some (.long x))).set (i + 1) none = L') (hp : pc + 1 = pc') (h : V X k n ws L' st pc') : V X k n ws L (.long x :: st) pc := by
  obtain ⟨p, l, e, R, s, m, args, below, meth, c, nL, G, A, Q⟩ := X
  obtain ⟨hx, hb, hown, hts, hK, hA, hlk, hml, hR, hsf, hNw⟩ := hX
  subst hp
  subst hL
  intro H locs ls hP hD hS hl
  exact lv_lstore_n hx hb hd rfl (lo_lv hl) (hn _ rfl) rfl (fun ls' h' => h H locs ls' hP hD hS (lo_set2 h' ho))
theorem r_lstore {i : Nat} {x : Int64} {L' : List (Option Value)} (hX : Ok SF X cc own d mc ms) (hd : decode cc pc = .ok (.lstore i, 2)) (hn : ∀ nL : Nat, c0_nL X = nL → i + 1 < nL) (ho : lo_ok L i = true) (hL : (L.set i (some (.long x))).set (i + 1) none = L') (hp : pc + 2 = pc') (h : V X k n ws L' st pc') : V X k n ws L (.long x :: st) pc := by
  obtain ⟨p, l, e, R, s, m, args, below, meth, c, nL, G, A, Q⟩ := X
  obtain ⟨hx, hb, hown, hts, hK, hA, hlk, hml, hR, hsf, hNw⟩ := hX
  subst hp
  subst hL
  intro H locs ls hP hD hS hl
  exact lv_lstore hx hb hd (lo_lv hl) (hn _ rfl) rfl (fun ls' h' => h H locs ls' hP hD hS (lo_set2 h' ho))
theorem r_dload_n {i : Fin 4} {x : UInt64} (hX : Ok SF X cc own d mc ms) (hd : decode cc pc = .ok (.dload_n i, 1)) (hl0 : L[(i : Nat)]? = some (some (.double x))) (hp : pc + 1 = pc') (h : V X k n ws L (.double x :: st) pc') : V X k n ws L (st) pc := by
  obtain ⟨p, l, e, R, s, m, args, below, meth, c, nL, G, A, Q⟩ := X
  obtain ⟨hx, hb, hown, hts, hK, hA, hlk, hml, hR, hsf, hNw⟩ := hX
  subst hp
  intro H locs ls hP hD hS hl
  exact lv_dload_n hx hb hd rfl (hl.2.2 _ _ hl0) (h H locs ls hP hD hS hl)
theorem r_dload {i : Nat} {x : UInt64} (hX : Ok SF X cc own d mc ms) (hd : decode cc pc = .ok (.dload i, 2)) (hl0 : L[i]? = some (some (.double x))) (hp : pc + 2 = pc') (h : V X k n ws L (.double x :: st) pc') : V X k n ws L (st) pc := by
  obtain ⟨p, l, e, R, s, m, args, below, meth, c, nL, G, A, Q⟩ := X
  obtain ⟨hx, hb, hown, hts, hK, hA, hlk, hml, hR, hsf, hNw⟩ := hX
  subst hp
  intro H locs ls hP hD hS hl
  exact lv_dload hx hb hd (hl.2.2 _ _ hl0) (h H locs ls hP hD hS hl)
theorem r_dstore_n {i : Fin 4} {x : UInt64} {L' : List (Option Value)} (hX : Ok SF X cc own d mc ms) (hd : decode cc pc = .ok (.dstore_n i, 1)) (hn : ∀ nL : Nat, c0_nL X = nL → i + 1 < nL) (ho : lo_ok L i = true) (hL : (L.set i (some (.double x))).set (i + 1) none = L') (hp : pc + 1 = pc') (h : V X k n ws L' st pc') : V X k n ws L (.double x :: st) pc := by
  obtain ⟨p, l, e, R, s, m, args, below, meth, c, nL, G, A, Q⟩ := X
  obtain ⟨hx, hb, hown, hts, hK, hA, hlk, hml, hR, hsf, hNw⟩ := hX
  subst hp
  subst hL
  intro H locs ls hP hD hS hl
  exact lv_dstore_n hx hb hd rfl (lo_lv hl) (hn _ rfl) rfl (fun ls' h' => h H locs ls' hP hD hS (lo_set2 h' ho))
theorem r_dstore {i : Nat} {x : UInt64} {L' : List (Option Value)} (hX : Ok SF X cc own d mc ms) (hd : decode cc pc = .ok (.dstore i, 2)) (hn : ∀ nL : Nat, c0_nL X = nL → i + 1 < nL) (ho : lo_ok L i = true) (hL : (L.set i (some (.double x))).set (i + 1) none = L') (hp : pc + 2 = pc') (h : V X k n ws L' st pc') : V X k n ws L (.double x :: st) pc := by
  obtain ⟨p, l, e, R, s, m, args, below, meth, c, nL, G, A, Q⟩ := X
  obtain ⟨hx, hb, hown, hts, hK, hA, hlk, hml, hR, hsf, hNw⟩ := hX
  subst hp
  subst hL
  intro H locs ls hP hD hS hl
  exact lv_dstore hx hb hd (lo_lv hl) (hn _ rfl) rfl (fun ls' h' => h H locs ls' hP hD hS (lo_set2 h' ho))
theorem r_fload_n {i : Fin 4} {x : UInt32} (hX : Ok SF X cc own d mc ms) (hd : decode cc pc = .ok (.fload_n i, 1)) (hl0 : L[(i : Nat)]? = some (some (.float x))) (hp : pc + 1 = pc') (h : V X k n ws L (.float x :: st) pc') : V X k n ws L (st) pc := by
  obtain ⟨p, l, e, R, s, m, args, below, meth, c, nL, G, A, Q⟩ := X
  obtain ⟨hx, hb, hown, hts, hK, hA, hlk, hml, hR, hsf, hNw⟩ := hX
  subst hp
  intro H locs ls hP hD hS hl
  exact lv_fload_n hx hb hd rfl (hl.2.2 _ _ hl0) (h H locs ls hP hD hS hl)
theorem r_fload {i : Nat} {x : UInt32} (hX : Ok SF X cc own d mc ms) (hd : decode cc pc = .ok (.fload i, 2)) (hl0 : L[i]? = some (some (.float x))) (hp : pc + 2 = pc') (h : V X k n ws L (.float x :: st) pc') : V X k n ws L (st) pc := by
  obtain ⟨p, l, e, R, s, m, args, below, meth, c, nL, G, A, Q⟩ := X
  obtain ⟨hx, hb, hown, hts, hK, hA, hlk, hml, hR, hsf, hNw⟩ := hX
  subst hp
  intro H locs ls hP hD hS hl
  exact lv_fload hx hb hd (hl.2.2 _ _ hl0) (h H locs ls hP hD hS hl)
theorem r_fstore_n {i : Fin 4} {x : UInt32} {L' : List (Option Value)} (hX : Ok SF X cc own d mc ms) (hd : decode cc pc = .ok (.fstore_n i, 1)) (hn : ∀ nL : Nat, c0_nL X = nL → i < nL) (ho : lo_ok L i = true) (hL : L.set i (some (.float x)) = L') (hp : pc + 1 = pc') (h : V X k n ws L' st pc') : V X k n ws L (.float x :: st) pc := by
  obtain ⟨p, l, e, R, s, m, args, below, meth, c, nL, G, A, Q⟩ := X
  obtain ⟨hx, hb, hown, hts, hK, hA, hlk, hml, hR, hsf, hNw⟩ := hX
  subst hp
  subst hL
  intro H locs ls hP hD hS hl
  exact lv_fstore_n hx hb hd rfl (lo_lv hl) (hn _ rfl) rfl (fun ls' h' => h H locs ls' hP hD hS (lo_set1 h' ho))
theorem r_fstore {i : Nat} {x : UInt32} {L' : List (Option Value)} (hX : Ok SF X cc own d mc ms) (hd : decode cc pc = .ok (.fstore i, 2)) (hn : ∀ nL : Nat, c0_nL X = nL → i < nL) (ho : lo_ok L i = true) (hL : L.set i (some (.float x)) = L') (hp : pc + 2 = pc') (h : V X k n ws L' st pc') : V X k n ws L (.float x :: st) pc := by
  obtain ⟨p, l, e, R, s, m, args, below, meth, c, nL, G, A, Q⟩ := X
  obtain ⟨hx, hb, hown, hts, hK, hA, hlk, hml, hR, hsf, hNw⟩ := hX
  subst hp
  subst hL
  intro H locs ls hP hD hS hl
  exact lv_fstore hx hb hd (lo_lv hl) (hn _ rfl) rfl (fun ls' h' => h H locs ls' hP hD hS (lo_set1 h' ho))
theorem r_iinc {i : Nat} {z : Int} {x v : Int32} {L' : List (Option Value)} (hX : Ok SF X cc own d mc ms) (hd : decode cc pc = .ok (.iinc i z, 3)) (hl0 : L[i]? = some (some (.int x))) (hv : x + Int32.ofInt z = v) (hn : ∀ nL : Nat, c0_nL X = nL → i < nL) (ho : lo_ok L i = true) (hL : L.set i (some (.int v)) = L') (hp : pc + 3 = pc') (h : V X k n ws L' st pc') : V X k n ws L st pc := by
  obtain ⟨p, l, e, R, s, m, args, below, meth, c, nL, G, A, Q⟩ := X
  obtain ⟨hx, hb, hown, hts, hK, hA, hlk, hml, hR, hsf, hNw⟩ := hX
  subst hp
  subst hL
  intro H locs ls hP hD hS hl
  obtain ⟨k9, hk9⟩ := List.getElem?_of_mem (lo_mem.mpr hl0)
  exact lv_iinc hx hb hd (lo_lv hl) hk9 hv (hn _ rfl) rfl (fun ls' h' => h H locs ls' hP hD hS (lo_set1 h' ho))
theorem r_iadd {x y : Int32} (hX : Ok SF X cc own d mc ms) (hd : decode cc pc = .ok (.iadd, 1)) (hp : pc + 1 = pc') (h : V X k n ws L (.int (x + y) :: st) pc') : V X k n ws L (.int y :: .int x :: st) pc := by
  obtain ⟨p, l, e, R, s, m, args, below, meth, c, nL, G, A, Q⟩ := X
  obtain ⟨hx, hb, hown, hts, hK, hA, hlk, hml, hR, hsf, hNw⟩ := hX
  subst hp
  intro H locs ls hP hD hS hl
  exact lv_iadd hx hb hd (h H locs ls hP hD hS hl)
theorem r_isub {x y : Int32} (hX : Ok SF X cc own d mc ms) (hd : decode cc pc = .ok (.isub, 1)) (hp : pc + 1 = pc') (h : V X k n ws L (.int (x - y) :: st) pc') : V X k n ws L (.int y :: .int x :: st) pc := by
  obtain ⟨p, l, e, R, s, m, args, below, meth, c, nL, G, A, Q⟩ := X
  obtain ⟨hx, hb, hown, hts, hK, hA, hlk, hml, hR, hsf, hNw⟩ := hX
  subst hp
  intro H locs ls hP hD hS hl
  exact lv_isub hx hb hd (h H locs ls hP hD hS hl)
theorem r_imul {x y : Int32} (hX : Ok SF X cc own d mc ms) (hd : decode cc pc = .ok (.imul, 1)) (hp : pc + 1 = pc') (h : V X k n ws L (.int (x * y) :: st) pc') : V X k n ws L (.int y :: .int x :: st) pc := by
  obtain ⟨p, l, e, R, s, m, args, below, meth, c, nL, G, A, Q⟩ := X
  obtain ⟨hx, hb, hown, hts, hK, hA, hlk, hml, hR, hsf, hNw⟩ := hX
  subst hp
  intro H locs ls hP hD hS hl
  exact lv_imul hx hb hd (h H locs ls hP hD hS hl)
theorem r_iand {x y : Int32} (hX : Ok SF X cc own d mc ms) (hd : decode cc pc = .ok (.iand, 1)) (hp : pc + 1 = pc') (h : V X k n ws L (.int (x &&& y) :: st) pc') : V X k n ws L (.int y :: .int x :: st) pc := by
  obtain ⟨p, l, e, R, s, m, args, below, meth, c, nL, G, A, Q⟩ := X
  obtain ⟨hx, hb, hown, hts, hK, hA, hlk, hml, hR, hsf, hNw⟩ := hX
  subst hp
  intro H locs ls hP hD hS hl
  exact lv_iand hx hb hd (h H locs ls hP hD hS hl)
theorem r_ior {x y : Int32} (hX : Ok SF X cc own d mc ms) (hd : decode cc pc = .ok (.ior, 1)) (hp : pc + 1 = pc') (h : V X k n ws L (.int (x ||| y) :: st) pc') : V X k n ws L (.int y :: .int x :: st) pc := by
  obtain ⟨p, l, e, R, s, m, args, below, meth, c, nL, G, A, Q⟩ := X
  obtain ⟨hx, hb, hown, hts, hK, hA, hlk, hml, hR, hsf, hNw⟩ := hX
  subst hp
  intro H locs ls hP hD hS hl
  exact lv_ior hx hb hd (h H locs ls hP hD hS hl)
theorem r_idiv {x y : Int32} (hX : Ok SF X cc own d mc ms) (hd : decode cc pc = .ok (.idiv, 1)) (hne : ¬ y = 0) (hp : pc + 1 = pc') (h : V X k n ws L (.int (x / y) :: st) pc') : V X k n ws L (.int y :: .int x :: st) pc := by
  obtain ⟨p, l, e, R, s, m, args, below, meth, c, nL, G, A, Q⟩ := X
  obtain ⟨hx, hb, hown, hts, hK, hA, hlk, hml, hR, hsf, hNw⟩ := hX
  subst hp
  intro H locs ls hP hD hS hl
  exact lv_idiv hx hb hd hne (h H locs ls hP hD hS hl)
theorem r_irem {x y : Int32} (hX : Ok SF X cc own d mc ms) (hd : decode cc pc = .ok (.irem, 1)) (hne : ¬ y = 0) (hp : pc + 1 = pc') (h : V X k n ws L (.int (x - x / y * y) :: st) pc') : V X k n ws L (.int y :: .int x :: st) pc := by
  obtain ⟨p, l, e, R, s, m, args, below, meth, c, nL, G, A, Q⟩ := X
  obtain ⟨hx, hb, hown, hts, hK, hA, hlk, hml, hR, hsf, hNw⟩ := hX
  subst hp
  intro H locs ls hP hD hS hl
  exact lv_irem hx hb hd hne (h H locs ls hP hD hS hl)
theorem r_ineg {x : Int32} (hX : Ok SF X cc own d mc ms) (hd : decode cc pc = .ok (.ineg, 1)) (hp : pc + 1 = pc') (h : V X k n ws L (.int (-x) :: st) pc') : V X k n ws L (.int x :: st) pc := by
  obtain ⟨p, l, e, R, s, m, args, below, meth, c, nL, G, A, Q⟩ := X
  obtain ⟨hx, hb, hown, hts, hK, hA, hlk, hml, hR, hsf, hNw⟩ := hX
  subst hp
  intro H locs ls hP hD hS hl
  exact lv_ineg hx hb hd (h H locs ls hP hD hS hl)
theorem r_i2l {x : Int32} {v : Int64} (hX : Ok SF X cc own d mc ms) (hd : decode cc pc = .ok (.i2l, 1)) (hv : x.toInt64 = v) (hp : pc + 1 = pc') (h : V X k n ws L (.long v :: st) pc') : V X k n ws L (.int x :: st) pc := by
  obtain ⟨p, l, e, R, s, m, args, below, meth, c, nL, G, A, Q⟩ := X
  obtain ⟨hx, hb, hown, hts, hK, hA, hlk, hml, hR, hsf, hNw⟩ := hX
  subst hp
  intro H locs ls hP hD hS hl
  exact lv_i2l hx hb hd hv (h H locs ls hP hD hS hl)
theorem r_dup {v : Value} (hX : Ok SF X cc own d mc ms) (hd : decode cc pc = .ok (.dup, 1)) (hv : v.category = 1) (hp : pc + 1 = pc') (h : V X k n ws L (v :: v :: st) pc') : V X k n ws L (v :: st) pc := by
  obtain ⟨p, l, e, R, s, m, args, below, meth, c, nL, G, A, Q⟩ := X
  obtain ⟨hx, hb, hown, hts, hK, hA, hlk, hml, hR, hsf, hNw⟩ := hX
  subst hp
  intro H locs ls hP hD hS hl
  exact lv_dup hx hb hd hv (h H locs ls hP hD hS hl)
theorem r_pop {v : Value} (hX : Ok SF X cc own d mc ms) (hd : decode cc pc = .ok (.pop, 1)) (hv : v.category = 1) (hp : pc + 1 = pc') (h : V X k n ws L (st) pc') : V X k n ws L (v :: st) pc := by
  obtain ⟨p, l, e, R, s, m, args, below, meth, c, nL, G, A, Q⟩ := X
  obtain ⟨hx, hb, hown, hts, hK, hA, hlk, hml, hR, hsf, hNw⟩ := hX
  subst hp
  intro H locs ls hP hD hS hl
  exact lv_pop hx hb hd hv (h H locs ls hP hD hS hl)
theorem r_dup_x1 {u v : Value} (hX : Ok SF X cc own d mc ms) (hd : decode cc pc = .ok (.dup_x1, 1)) (hv : v.category = 1) (hu : u.category = 1) (hp : pc + 1 = pc') (h : V X k n ws L (v :: u :: v :: st) pc') : V X k n ws L (v :: u :: st) pc := by
  obtain ⟨p, l, e, R, s, m, args, below, meth, c, nL, G, A, Q⟩ := X
  obtain ⟨hx, hb, hown, hts, hK, hA, hlk, hml, hR, hsf, hNw⟩ := hX
  subst hp
  intro H locs ls hP hD hS hl
  exact lv_dup_x1 hx hb hd hv hu (h H locs ls hP hD hS hl)
theorem r_dup2 {u v : Value} (hX : Ok SF X cc own d mc ms) (hd : decode cc pc = .ok (.dup2, 1)) (hv : v.category = 1) (hu : u.category = 1) (hp : pc + 1 = pc') (h : V X k n ws L (v :: u :: v :: u :: st) pc') : V X k n ws L (v :: u :: st) pc := by
  obtain ⟨p, l, e, R, s, m, args, below, meth, c, nL, G, A, Q⟩ := X
  obtain ⟨hx, hb, hown, hts, hK, hA, hlk, hml, hR, hsf, hNw⟩ := hX
  subst hp
  intro H locs ls hP hD hS hl
  exact lv_dup2_11 hx hb hd hv hu (h H locs ls hP hD hS hl)
theorem r_aconst_null  (hX : Ok SF X cc own d mc ms) (hd : decode cc pc = .ok (.aconst_null, 1)) (hp : pc + 1 = pc') (h : V X k n ws L (.null :: st) pc') : V X k n ws L (st) pc := by
  obtain ⟨p, l, e, R, s, m, args, below, meth, c, nL, G, A, Q⟩ := X
  obtain ⟨hx, hb, hown, hts, hK, hA, hlk, hml, hR, hsf, hNw⟩ := hX
  subst hp
  intro H locs ls hP hD hS hl
  exact lv_null hx hb hd (h H locs ls hP hD hS hl)
theorem r_icmp_eq {x y : Int32} {off : Int} {tgt : Nat} (hX : Ok SF X cc own d mc ms) (hd : decode cc pc = .ok (.if_icmp .eq off, 3)) (ht : (pc : Int) + off = (tgt : Int)) (hp : pc + 3 = pc') (kt : x = y → V X k n ws L st tgt) (kf : ¬ x = y → V X k n ws L st pc') : V X k n ws L (.int y :: .int x :: st) pc := by
  obtain ⟨p, l, e, R, s, m, args, below, meth, c, nL, G, A, Q⟩ := X
  obtain ⟨hx, hb, hown, hts, hK, hA, hlk, hml, hR, hsf, hNw⟩ := hX
  subst hp
  intro H locs ls hP hD hS hl
  exact lv_icmp_eq hx hb hd ht (fun c9 => kt c9 H locs ls hP hD hS hl) (fun c9 => kf c9 H locs ls hP hD hS hl)
theorem r_if_eq {x : Int32} {off : Int} {tgt : Nat} (hX : Ok SF X cc own d mc ms) (hd : decode cc pc = .ok (.ifCond .eq off, 3)) (ht : (pc : Int) + off = (tgt : Int)) (hp : pc + 3 = pc') (kt : x = 0 → V X k n ws L st tgt) (kf : ¬ x = 0 → V X k n ws L st pc') : V X k n ws L (.int x :: st) pc := by
  obtain ⟨p, l, e, R, s, m, args, below, meth, c, nL, G, A, Q⟩ := X
  obtain ⟨hx, hb, hown, hts, hK, hA, hlk, hml, hR, hsf, hNw⟩ := hX
  subst hp
  intro H locs ls hP hD hS hl
  exact lv_if_eq hx hb hd ht (fun c9 => kt c9 H locs ls hP hD hS hl) (fun c9 => kf c9 H locs ls hP hD hS hl)
theorem r_icmp_ne {x y : Int32} {off : Int} {tgt : Nat} (hX : Ok SF X cc own d mc ms) (hd : decode cc pc = .ok (.if_icmp .ne off, 3)) (ht : (pc : Int) + off = (tgt : Int)) (hp : pc + 3 = pc') (kt : ¬ x = y → V X k n ws L st tgt) (kf : x = y → V X k n ws L st pc') : V X k n ws L (.int y :: .int x :: st) pc := by
  obtain ⟨p, l, e, R, s, m, args, below, meth, c, nL, G, A, Q⟩ := X
  obtain ⟨hx, hb, hown, hts, hK, hA, hlk, hml, hR, hsf, hNw⟩ := hX
  subst hp
  intro H locs ls hP hD hS hl
  exact lv_icmp_ne hx hb hd ht (fun c9 => kt c9 H locs ls hP hD hS hl) (fun c9 => kf c9 H locs ls hP hD hS hl)
theorem r_if_ne {x : Int32} {off : Int} {tgt : Nat} (hX : Ok SF X cc own d mc ms) (hd : decode cc pc = .ok (.ifCond .ne off, 3)) (ht : (pc : Int) + off = (tgt : Int)) (hp : pc + 3 = pc') (kt : ¬ x = 0 → V X k n ws L st tgt) (kf : x = 0 → V X k n ws L st pc') : V X k n ws L (.int x :: st) pc := by
  obtain ⟨p, l, e, R, s, m, args, below, meth, c, nL, G, A, Q⟩ := X
  obtain ⟨hx, hb, hown, hts, hK, hA, hlk, hml, hR, hsf, hNw⟩ := hX
  subst hp
  intro H locs ls hP hD hS hl
  exact lv_if_ne hx hb hd ht (fun c9 => kt c9 H locs ls hP hD hS hl) (fun c9 => kf c9 H locs ls hP hD hS hl)
theorem r_icmp_lt {x y : Int32} {off : Int} {tgt : Nat} (hX : Ok SF X cc own d mc ms) (hd : decode cc pc = .ok (.if_icmp .lt off, 3)) (ht : (pc : Int) + off = (tgt : Int)) (hp : pc + 3 = pc') (kt : x < y → V X k n ws L st tgt) (kf : ¬ x < y → V X k n ws L st pc') : V X k n ws L (.int y :: .int x :: st) pc := by
  obtain ⟨p, l, e, R, s, m, args, below, meth, c, nL, G, A, Q⟩ := X
  obtain ⟨hx, hb, hown, hts, hK, hA, hlk, hml, hR, hsf, hNw⟩ := hX
  subst hp
  intro H locs ls hP hD hS hl
  exact lv_icmp_lt hx hb hd ht (fun c9 => kt c9 H locs ls hP hD hS hl) (fun c9 => kf c9 H locs ls hP hD hS hl)
theorem r_if_lt {x : Int32} {off : Int} {tgt : Nat} (hX : Ok SF X cc own d mc ms) (hd : decode cc pc = .ok (.ifCond .lt off, 3)) (ht : (pc : Int) + off = (tgt : Int)) (hp : pc + 3 = pc') (kt : x < 0 → V X k n ws L st tgt) (kf : ¬ x < 0 → V X k n ws L st pc') : V X k n ws L (.int x :: st) pc := by
  obtain ⟨p, l, e, R, s, m, args, below, meth, c, nL, G, A, Q⟩ := X
  obtain ⟨hx, hb, hown, hts, hK, hA, hlk, hml, hR, hsf, hNw⟩ := hX
  subst hp
  intro H locs ls hP hD hS hl
  exact lv_if_lt hx hb hd ht (fun c9 => kt c9 H locs ls hP hD hS hl) (fun c9 => kf c9 H locs ls hP hD hS hl)
theorem r_icmp_ge {x y : Int32} {off : Int} {tgt : Nat} (hX : Ok SF X cc own d mc ms) (hd : decode cc pc = .ok (.if_icmp .ge off, 3)) (ht : (pc : Int) + off = (tgt : Int)) (hp : pc + 3 = pc') (kt : y ≤ x → V X k n ws L st tgt) (kf : ¬ y ≤ x → V X k n ws L st pc') : V X k n ws L (.int y :: .int x :: st) pc := by
  obtain ⟨p, l, e, R, s, m, args, below, meth, c, nL, G, A, Q⟩ := X
  obtain ⟨hx, hb, hown, hts, hK, hA, hlk, hml, hR, hsf, hNw⟩ := hX
  subst hp
  intro H locs ls hP hD hS hl
  exact lv_icmp_ge hx hb hd ht (fun c9 => kt c9 H locs ls hP hD hS hl) (fun c9 => kf c9 H locs ls hP hD hS hl)
theorem r_if_ge {x : Int32} {off : Int} {tgt : Nat} (hX : Ok SF X cc own d mc ms) (hd : decode cc pc = .ok (.ifCond .ge off, 3)) (ht : (pc : Int) + off = (tgt : Int)) (hp : pc + 3 = pc') (kt : 0 ≤ x → V X k n ws L st tgt) (kf : ¬ 0 ≤ x → V X k n ws L st pc') : V X k n ws L (.int x :: st) pc := by
  obtain ⟨p, l, e, R, s, m, args, below, meth, c, nL, G, A, Q⟩ := X
  obtain ⟨hx, hb, hown, hts, hK, hA, hlk, hml, hR, hsf, hNw⟩ := hX
  subst hp
  intro H locs ls hP hD hS hl
  exact lv_if_ge hx hb hd ht (fun c9 => kt c9 H locs ls hP hD hS hl) (fun c9 => kf c9 H locs ls hP hD hS hl)
theorem r_icmp_gt {x y : Int32} {off : Int} {tgt : Nat} (hX : Ok SF X cc own d mc ms) (hd : decode cc pc = .ok (.if_icmp .gt off, 3)) (ht : (pc : Int) + off = (tgt : Int)) (hp : pc + 3 = pc') (kt : y < x → V X k n ws L st tgt) (kf : ¬ y < x → V X k n ws L st pc') : V X k n ws L (.int y :: .int x :: st) pc := by
  obtain ⟨p, l, e, R, s, m, args, below, meth, c, nL, G, A, Q⟩ := X
  obtain ⟨hx, hb, hown, hts, hK, hA, hlk, hml, hR, hsf, hNw⟩ := hX
  subst hp
  intro H locs ls hP hD hS hl
  exact lv_icmp_gt hx hb hd ht (fun c9 => kt c9 H locs ls hP hD hS hl) (fun c9 => kf c9 H locs ls hP hD hS hl)
theorem r_if_gt {x : Int32} {off : Int} {tgt : Nat} (hX : Ok SF X cc own d mc ms) (hd : decode cc pc = .ok (.ifCond .gt off, 3)) (ht : (pc : Int) + off = (tgt : Int)) (hp : pc + 3 = pc') (kt : 0 < x → V X k n ws L st tgt) (kf : ¬ 0 < x → V X k n ws L st pc') : V X k n ws L (.int x :: st) pc := by
  obtain ⟨p, l, e, R, s, m, args, below, meth, c, nL, G, A, Q⟩ := X
  obtain ⟨hx, hb, hown, hts, hK, hA, hlk, hml, hR, hsf, hNw⟩ := hX
  subst hp
  intro H locs ls hP hD hS hl
  exact lv_if_gt hx hb hd ht (fun c9 => kt c9 H locs ls hP hD hS hl) (fun c9 => kf c9 H locs ls hP hD hS hl)
theorem r_icmp_le {x y : Int32} {off : Int} {tgt : Nat} (hX : Ok SF X cc own d mc ms) (hd : decode cc pc = .ok (.if_icmp .le off, 3)) (ht : (pc : Int) + off = (tgt : Int)) (hp : pc + 3 = pc') (kt : x ≤ y → V X k n ws L st tgt) (kf : ¬ x ≤ y → V X k n ws L st pc') : V X k n ws L (.int y :: .int x :: st) pc := by
  obtain ⟨p, l, e, R, s, m, args, below, meth, c, nL, G, A, Q⟩ := X
  obtain ⟨hx, hb, hown, hts, hK, hA, hlk, hml, hR, hsf, hNw⟩ := hX
  subst hp
  intro H locs ls hP hD hS hl
  exact lv_icmp_le hx hb hd ht (fun c9 => kt c9 H locs ls hP hD hS hl) (fun c9 => kf c9 H locs ls hP hD hS hl)
theorem r_if_le {x : Int32} {off : Int} {tgt : Nat} (hX : Ok SF X cc own d mc ms) (hd : decode cc pc = .ok (.ifCond .le off, 3)) (ht : (pc : Int) + off = (tgt : Int)) (hp : pc + 3 = pc') (kt : x ≤ 0 → V X k n ws L st tgt) (kf : ¬ x ≤ 0 → V X k n ws L st pc') : V X k n ws L (.int x :: st) pc := by
  obtain ⟨p, l, e, R, s, m, args, below, meth, c, nL, G, A, Q⟩ := X
  obtain ⟨hx, hb, hown, hts, hK, hA, hlk, hml, hR, hsf, hNw⟩ := hX
  subst hp
  intro H locs ls hP hD hS hl
  exact lv_if_le hx hb hd ht (fun c9 => kt c9 H locs ls hP hD hS hl) (fun c9 => kf c9 H locs ls hP hD hS hl)
theorem r_goto {off : Int} {tgt : Nat} (hX : Ok SF X cc own d mc ms) (hd : decode cc pc = .ok (.goto off, 3)) (ht : (pc : Int) + off = (tgt : Int)) (h : V X k n ws L st tgt) : V X k n ws L st pc := by
  obtain ⟨p, l, e, R, s, m, args, below, meth, c, nL, G, A, Q⟩ := X
  obtain ⟨hx, hb, hown, hts, hK, hA, hlk, hml, hR, hsf, hNw⟩ := hX
  intro H locs ls hP hD hS hl
  exact lv_goto hx hb hd ht (h H locs ls hP hD hS hl)
theorem r_icmp_eq_I {x y : Int32} {a b : Int} {off : Int} {tgt : Nat} (hX : Ok SF X cc own d mc ms) (hd : decode cc pc = .ok (.if_icmp .eq off, 3)) (ht : (pc : Int) + off = (tgt : Int)) (hp : pc + 3 = pc') (ha : x.toInt = a) (hb : y.toInt = b) (kt : a = b → V X k n ws L st tgt) (kf : a ≠ b → V X k n ws L st pc') : V X k n ws L (.int y :: .int x :: st) pc := by
  subst ha hb
  exact r_icmp_eq hX hd ht hp (fun c9 => kt (by have := Int32.toInt_inj.symm.mp c9; omega)) (fun c9 => kf (by have := mt Int32.toInt_inj.symm.mpr c9; omega))
theorem r_if_eq_I {x : Int32} {a : Int} {off : Int} {tgt : Nat} (hX : Ok SF X cc own d mc ms) (hd : decode cc pc = .ok (.ifCond .eq off, 3)) (ht : (pc : Int) + off = (tgt : Int)) (hp : pc + 3 = pc') (ha : x.toInt = a) (kt : a = 0 → V X k n ws L st tgt) (kf : a ≠ 0 → V X k n ws L st pc') : V X k n ws L (.int x :: st) pc := by
  subst ha
  have h0 : (0 : Int32).toInt = 0 := rfl
  exact r_if_eq hX hd ht hp (fun c9 => kt (by have := Int32.toInt_inj.symm.mp c9; omega)) (fun c9 => kf (by have := mt Int32.toInt_inj.symm.mpr c9; omega))
theorem r_icmp_eq_N {a b : Nat} {off : Int} {tgt : Nat} (hX : Ok SF X cc own d mc ms) (hd : decode cc pc = .ok (.if_icmp .eq off, 3)) (ht : (pc : Int) + off = (tgt : Int)) (hp : pc + 3 = pc') (ha : a < 2147483648) (hb : b < 2147483648) (kt : a = b → V X k n ws L st tgt) (kf : a ≠ b → V X k n ws L st pc') : V X k n ws L (.int (nI b) :: .int (nI a) :: st) pc :=
  r_icmp_eq_I hX hd ht hp (nI_toInt ha) (nI_toInt hb) (fun c9 => kt (by omega)) (fun c9 => kf (by omega))
theorem r_if_eq_N {a : Nat} {off : Int} {tgt : Nat} (hX : Ok SF X cc own d mc ms) (hd : decode cc pc = .ok (.ifCond .eq off, 3)) (ht : (pc : Int) + off = (tgt : Int)) (hp : pc + 3 = pc') (ha : a < 2147483648) (kt : a = 0 → V X k n ws L st tgt) (kf : a ≠ 0 → V X k n ws L st pc') : V X k n ws L (.int (nI a) :: st) pc :=
  r_if_eq_I hX hd ht hp (nI_toInt ha) (fun c9 => kt (by omega)) (fun c9 => kf (by omega))
theorem r_icmp_ne_I {x y : Int32} {a b : Int} {off : Int} {tgt : Nat} (hX : Ok SF X cc own d mc ms) (hd : decode cc pc = .ok (.if_icmp .ne off, 3)) (ht : (pc : Int) + off = (tgt : Int)) (hp : pc + 3 = pc') (ha : x.toInt = a) (hb : y.toInt = b) (kt : a ≠ b → V X k n ws L st tgt) (kf : a = b → V X k n ws L st pc') : V X k n ws L (.int y :: .int x :: st) pc := by
  subst ha hb
  exact r_icmp_ne hX hd ht hp (fun c9 => kt (by have := (not_congr Int32.toInt_inj.symm).mp c9; omega)) (fun c9 => kf (by rw [c9]))
theorem r_if_ne_I {x : Int32} {a : Int} {off : Int} {tgt : Nat} (hX : Ok SF X cc own d mc ms) (hd : decode cc pc = .ok (.ifCond .ne off, 3)) (ht : (pc : Int) + off = (tgt : Int)) (hp : pc + 3 = pc') (ha : x.toInt = a) (kt : a ≠ 0 → V X k n ws L st tgt) (kf : a = 0 → V X k n ws L st pc') : V X k n ws L (.int x :: st) pc := by
  subst ha
  have h0 : (0 : Int32).toInt = 0 := rfl
  exact r_if_ne hX hd ht hp (fun c9 => kt (by have := (not_congr Int32.toInt_inj.symm).mp c9; omega)) (fun c9 => kf (by rw [c9]; rfl))
theorem r_icmp_ne_N {a b : Nat} {off : Int} {tgt : Nat} (hX : Ok SF X cc own d mc ms) (hd : decode cc pc = .ok (.if_icmp .ne off, 3)) (ht : (pc : Int) + off = (tgt : Int)) (hp : pc + 3 = pc') (ha : a < 2147483648) (hb : b < 2147483648) (kt : a ≠ b → V X k n ws L st tgt) (kf : a = b → V X k n ws L st pc') : V X k n ws L (.int (nI b) :: .int (nI a) :: st) pc :=
  r_icmp_ne_I hX hd ht hp (nI_toInt ha) (nI_toInt hb) (fun c9 => kt (by omega)) (fun c9 => kf (by omega))
theorem r_if_ne_N {a : Nat} {off : Int} {tgt : Nat} (hX : Ok SF X cc own d mc ms) (hd : decode cc pc = .ok (.ifCond .ne off, 3)) (ht : (pc : Int) + off = (tgt : Int)) (hp : pc + 3 = pc') (ha : a < 2147483648) (kt : a ≠ 0 → V X k n ws L st tgt) (kf : a = 0 → V X k n ws L st pc') : V X k n ws L (.int (nI a) :: st) pc :=
  r_if_ne_I hX hd ht hp (nI_toInt ha) (fun c9 => kt (by omega)) (fun c9 => kf (by omega))
theorem r_icmp_lt_I {x y : Int32} {a b : Int} {off : Int} {tgt : Nat} (hX : Ok SF X cc own d mc ms) (hd : decode cc pc = .ok (.if_icmp .lt off, 3)) (ht : (pc : Int) + off = (tgt : Int)) (hp : pc + 3 = pc') (ha : x.toInt = a) (hb : y.toInt = b) (kt : a < b → V X k n ws L st tgt) (kf : b ≤ a → V X k n ws L st pc') : V X k n ws L (.int y :: .int x :: st) pc := by
  subst ha hb
  exact r_icmp_lt hX hd ht hp (fun c9 => kt (by have := Int32.lt_iff_toInt_lt.mp c9; omega)) (fun c9 => kf (by have := mt Int32.lt_iff_toInt_lt.mpr c9; omega))
theorem r_if_lt_I {x : Int32} {a : Int} {off : Int} {tgt : Nat} (hX : Ok SF X cc own d mc ms) (hd : decode cc pc = .ok (.ifCond .lt off, 3)) (ht : (pc : Int) + off = (tgt : Int)) (hp : pc + 3 = pc') (ha : x.toInt = a) (kt : a < 0 → V X k n ws L st tgt) (kf : 0 ≤ a → V X k n ws L st pc') : V X k n ws L (.int x :: st) pc := by
  subst ha
  have h0 : (0 : Int32).toInt = 0 := rfl
  exact r_if_lt hX hd ht hp (fun c9 => kt (by have := Int32.lt_iff_toInt_lt.mp c9; omega)) (fun c9 => kf (by have := mt Int32.lt_iff_toInt_lt.mpr c9; omega))
theorem r_icmp_lt_N {a b : Nat} {off : Int} {tgt : Nat} (hX : Ok SF X cc own d mc ms) (hd : decode cc pc = .ok (.if_icmp .lt off, 3)) (ht : (pc : Int) + off = (tgt : Int)) (hp : pc + 3 = pc') (ha : a < 2147483648) (hb : b < 2147483648) (kt : a < b → V X k n ws L st tgt) (kf : b ≤ a → V X k n ws L st pc') : V X k n ws L (.int (nI b) :: .int (nI a) :: st) pc :=
  r_icmp_lt_I hX hd ht hp (nI_toInt ha) (nI_toInt hb) (fun c9 => kt (by omega)) (fun c9 => kf (by omega))
theorem r_if_lt_N {a : Nat} {off : Int} {tgt : Nat} (hX : Ok SF X cc own d mc ms) (hd : decode cc pc = .ok (.ifCond .lt off, 3)) (ht : (pc : Int) + off = (tgt : Int)) (hp : pc + 3 = pc') (ha : a < 2147483648) (kt : a < 0 → V X k n ws L st tgt) (kf : 0 ≤ a → V X k n ws L st pc') : V X k n ws L (.int (nI a) :: st) pc :=
  r_if_lt_I hX hd ht hp (nI_toInt ha) (fun c9 => kt (by omega)) (fun c9 => kf (by omega))
theorem r_icmp_ge_I {x y : Int32} {a b : Int} {off : Int} {tgt : Nat} (hX : Ok SF X cc own d mc ms) (hd : decode cc pc = .ok (.if_icmp .ge off, 3)) (ht : (pc : Int) + off = (tgt : Int)) (hp : pc + 3 = pc') (ha : x.toInt = a) (hb : y.toInt = b) (kt : b ≤ a → V X k n ws L st tgt) (kf : a < b → V X k n ws L st pc') : V X k n ws L (.int y :: .int x :: st) pc := by
  subst ha hb
  exact r_icmp_ge hX hd ht hp (fun c9 => kt (by have := Int32.le_iff_toInt_le.mp c9; omega)) (fun c9 => kf (by have := mt Int32.le_iff_toInt_le.mpr c9; omega))
theorem r_if_ge_I {x : Int32} {a : Int} {off : Int} {tgt : Nat} (hX : Ok SF X cc own d mc ms) (hd : decode cc pc = .ok (.ifCond .ge off, 3)) (ht : (pc : Int) + off = (tgt : Int)) (hp : pc + 3 = pc') (ha : x.toInt = a) (kt : 0 ≤ a → V X k n ws L st tgt) (kf : a < 0 → V X k n ws L st pc') : V X k n ws L (.int x :: st) pc := by
  subst ha
  have h0 : (0 : Int32).toInt = 0 := rfl
  exact r_if_ge hX hd ht hp (fun c9 => kt (by have := Int32.le_iff_toInt_le.mp c9; omega)) (fun c9 => kf (by have := mt Int32.le_iff_toInt_le.mpr c9; omega))
theorem r_icmp_ge_N {a b : Nat} {off : Int} {tgt : Nat} (hX : Ok SF X cc own d mc ms) (hd : decode cc pc = .ok (.if_icmp .ge off, 3)) (ht : (pc : Int) + off = (tgt : Int)) (hp : pc + 3 = pc') (ha : a < 2147483648) (hb : b < 2147483648) (kt : b ≤ a → V X k n ws L st tgt) (kf : a < b → V X k n ws L st pc') : V X k n ws L (.int (nI b) :: .int (nI a) :: st) pc :=
  r_icmp_ge_I hX hd ht hp (nI_toInt ha) (nI_toInt hb) (fun c9 => kt (by omega)) (fun c9 => kf (by omega))
theorem r_if_ge_N {a : Nat} {off : Int} {tgt : Nat} (hX : Ok SF X cc own d mc ms) (hd : decode cc pc = .ok (.ifCond .ge off, 3)) (ht : (pc : Int) + off = (tgt : Int)) (hp : pc + 3 = pc') (ha : a < 2147483648) (kt : 0 ≤ a → V X k n ws L st tgt) (kf : a < 0 → V X k n ws L st pc') : V X k n ws L (.int (nI a) :: st) pc :=
  r_if_ge_I hX hd ht hp (nI_toInt ha) (fun c9 => kt (by omega)) (fun c9 => kf (by omega))
theorem r_icmp_gt_I {x y : Int32} {a b : Int} {off : Int} {tgt : Nat} (hX : Ok SF X cc own d mc ms) (hd : decode cc pc = .ok (.if_icmp .gt off, 3)) (ht : (pc : Int) + off = (tgt : Int)) (hp : pc + 3 = pc') (ha : x.toInt = a) (hb : y.toInt = b) (kt : b < a → V X k n ws L st tgt) (kf : a ≤ b → V X k n ws L st pc') : V X k n ws L (.int y :: .int x :: st) pc := by
  subst ha hb
  exact r_icmp_gt hX hd ht hp (fun c9 => kt (by have := Int32.lt_iff_toInt_lt.mp c9; omega)) (fun c9 => kf (by have := mt Int32.lt_iff_toInt_lt.mpr c9; omega))
theorem r_if_gt_I {x : Int32} {a : Int} {off : Int} {tgt : Nat} (hX : Ok SF X cc own d mc ms) (hd : decode cc pc = .ok (.ifCond .gt off, 3)) (ht : (pc : Int) + off = (tgt : Int)) (hp : pc + 3 = pc') (ha : x.toInt = a) (kt : 0 < a → V X k n ws L st tgt) (kf : a ≤ 0 → V X k n ws L st pc') : V X k n ws L (.int x :: st) pc := by
  subst ha
  have h0 : (0 : Int32).toInt = 0 := rfl
  exact r_if_gt hX hd ht hp (fun c9 => kt (by have := Int32.lt_iff_toInt_lt.mp c9; omega)) (fun c9 => kf (by have := mt Int32.lt_iff_toInt_lt.mpr c9; omega))
theorem r_icmp_gt_N {a b : Nat} {off : Int} {tgt : Nat} (hX : Ok SF X cc own d mc ms) (hd : decode cc pc = .ok (.if_icmp .gt off, 3)) (ht : (pc : Int) + off = (tgt : Int)) (hp : pc + 3 = pc') (ha : a < 2147483648) (hb : b < 2147483648) (kt : b < a → V X k n ws L st tgt) (kf : a ≤ b → V X k n ws L st pc') : V X k n ws L (.int (nI b) :: .int (nI a) :: st) pc :=
  r_icmp_gt_I hX hd ht hp (nI_toInt ha) (nI_toInt hb) (fun c9 => kt (by omega)) (fun c9 => kf (by omega))
theorem r_if_gt_N {a : Nat} {off : Int} {tgt : Nat} (hX : Ok SF X cc own d mc ms) (hd : decode cc pc = .ok (.ifCond .gt off, 3)) (ht : (pc : Int) + off = (tgt : Int)) (hp : pc + 3 = pc') (ha : a < 2147483648) (kt : 0 < a → V X k n ws L st tgt) (kf : a ≤ 0 → V X k n ws L st pc') : V X k n ws L (.int (nI a) :: st) pc :=
  r_if_gt_I hX hd ht hp (nI_toInt ha) (fun c9 => kt (by omega)) (fun c9 => kf (by omega))
theorem r_icmp_le_I {x y : Int32} {a b : Int} {off : Int} {tgt : Nat} (hX : Ok SF X cc own d mc ms) (hd : decode cc pc = .ok (.if_icmp .le off, 3)) (ht : (pc : Int) + off = (tgt : Int)) (hp : pc + 3 = pc') (ha : x.toInt = a) (hb : y.toInt = b) (kt : a ≤ b → V X k n ws L st tgt) (kf : b < a → V X k n ws L st pc') : V X k n ws L (.int y :: .int x :: st) pc := by
  subst ha hb
  exact r_icmp_le hX hd ht hp (fun c9 => kt (by have := Int32.le_iff_toInt_le.mp c9; omega)) (fun c9 => kf (by have := mt Int32.le_iff_toInt_le.mpr c9; omega))
theorem r_if_le_I {x : Int32} {a : Int} {off : Int} {tgt : Nat} (hX : Ok SF X cc own d mc ms) (hd : decode cc pc = .ok (.ifCond .le off, 3)) (ht : (pc : Int) + off = (tgt : Int)) (hp : pc + 3 = pc') (ha : x.toInt = a) (kt : a ≤ 0 → V X k n ws L st tgt) (kf : 0 < a → V X k n ws L st pc') : V X k n ws L (.int x :: st) pc := by
  subst ha
  have h0 : (0 : Int32).toInt = 0 := rfl
  exact r_if_le hX hd ht hp (fun c9 => kt (by have := Int32.le_iff_toInt_le.mp c9; omega)) (fun c9 => kf (by have := mt Int32.le_iff_toInt_le.mpr c9; omega))
theorem r_icmp_le_N {a b : Nat} {off : Int} {tgt : Nat} (hX : Ok SF X cc own d mc ms) (hd : decode cc pc = .ok (.if_icmp .le off, 3)) (ht : (pc : Int) + off = (tgt : Int)) (hp : pc + 3 = pc') (ha : a < 2147483648) (hb : b < 2147483648) (kt : a ≤ b → V X k n ws L st tgt) (kf : b < a → V X k n ws L st pc') : V X k n ws L (.int (nI b) :: .int (nI a) :: st) pc :=
  r_icmp_le_I hX hd ht hp (nI_toInt ha) (nI_toInt hb) (fun c9 => kt (by omega)) (fun c9 => kf (by omega))
theorem r_if_le_N {a : Nat} {off : Int} {tgt : Nat} (hX : Ok SF X cc own d mc ms) (hd : decode cc pc = .ok (.ifCond .le off, 3)) (ht : (pc : Int) + off = (tgt : Int)) (hp : pc + 3 = pc') (ha : a < 2147483648) (kt : a ≤ 0 → V X k n ws L st tgt) (kf : 0 < a → V X k n ws L st pc') : V X k n ws L (.int (nI a) :: st) pc :=
  r_if_le_I hX hd ht hp (nI_toInt ha) (fun c9 => kt (by omega)) (fun c9 => kf (by omega))
/-- a truth value as the machine holds it -/
def bI (c : Prop) [Decidable c] : Int32 := if c then 1 else 0
theorem bI_t {c : Prop} [Decidable c] (h : c) : bI c = 1 := if_pos h
theorem bI_f {c : Prop} [Decidable c] (h : ¬ c) : bI c = 0 := if_neg h
theorem bI_eq0 {c : Prop} [Decidable c] : bI c = 0 ↔ ¬ c := by
  unfold bI
  split
  · rename_i h
    exact ⟨fun q => absurd q (by decide), fun q => absurd h q⟩
  · rename_i h
    exact ⟨fun _ => h, fun _ => rfl⟩
theorem r_if_eq_B {c : Prop} [Decidable c] {off : Int} {tgt : Nat} (hX : Ok SF X cc own d mc ms) (hd : decode cc pc = .ok (.ifCond .eq off, 3)) (ht : (pc : Int) + off = (tgt : Int)) (hp : pc + 3 = pc') (kt : ¬ c → V X k n ws L st tgt) (kf : c → V X k n ws L st pc') : V X k n ws L (.int (bI c) :: st) pc :=
  r_if_eq hX hd ht hp (fun c9 => kt (bI_eq0.mp c9)) (fun c9 => kf (Classical.byContradiction fun q => c9 (bI_eq0.mpr q)))
theorem r_if_ne_B {c : Prop} [Decidable c] {off : Int} {tgt : Nat} (hX : Ok SF X cc own d mc ms) (hd : decode cc pc = .ok (.ifCond .ne off, 3)) (ht : (pc : Int) + off = (tgt : Int)) (hp : pc + 3 = pc') (kt : c → V X k n ws L st tgt) (kf : ¬ c → V X k n ws L st pc') : V X k n ws L (.int (bI c) :: st) pc :=
  r_if_ne hX hd ht hp (fun c9 => kt (Classical.byContradiction fun q => c9 (bI_eq0.mpr q))) (fun c9 => kf (bI_eq0.mp c9))
theorem r_iadd_N {a b : Nat} (hX : Ok SF X cc own d mc ms) (hd : decode cc pc = .ok (.iadd, 1)) (hp : pc + 1 = pc') (h : V X k n ws L (.int (nI (a + b)) :: st) pc') : V X k n ws L (.int (nI b) :: .int (nI a) :: st) pc :=
  r_iadd hX hd hp (by rw [nI_add _ _]; exact h)
theorem r_imul_N {a b : Nat} (hX : Ok SF X cc own d mc ms) (hd : decode cc pc = .ok (.imul, 1)) (hp : pc + 1 = pc') (h : V X k n ws L (.int (nI (a * b)) :: st) pc') : V X k n ws L (.int (nI b) :: .int (nI a) :: st) pc :=
  r_imul hX hd hp (by rw [pk_mul _ _]; exact h)
theorem r_isub_N {a b : Nat} (hX : Ok SF X cc own d mc ms) (hd : decode cc pc = .ok (.isub, 1)) (hab : b ≤ a) (hp : pc + 1 = pc') (h : V X k n ws L (.int (nI (a - b)) :: st) pc') : V X k n ws L (.int (nI b) :: .int (nI a) :: st) pc :=
  r_isub hX hd hp (by rw [pk_sub hab]; exact h)
theorem r_idiv_N {a b : Nat} (hX : Ok SF X cc own d mc ms) (hd : decode cc pc = .ok (.idiv, 1)) (ha : a < 2147483648) (h0 : 0 < b) (hb : b < 2147483648) (hp : pc + 1 = pc') (h : V X k n ws L (.int (nI (a / b)) :: st) pc') : V X k n ws L (.int (nI b) :: .int (nI a) :: st) pc :=
  r_idiv hX hd (nI_ne0 h0 hb) hp (by rw [pk_div ha h0 hb]; exact h)
theorem r_irem_N {a b : Nat} (hX : Ok SF X cc own d mc ms) (hd : decode cc pc = .ok (.irem, 1)) (ha : a < 2147483648) (h0 : 0 < b) (hb : b < 2147483648) (hp : pc + 1 = pc') (h : V X k n ws L (.int (nI (a % b)) :: st) pc') : V X k n ws L (.int (nI b) :: .int (nI a) :: st) pc :=
  r_irem hX hd (nI_ne0 h0 hb) hp (by rw [pk_rem ha h0 hb]; exact h)
theorem r_iinc_N {i a b : Nat} {L' : List (Option Value)} (hX : Ok SF X cc own d mc ms) (hd : decode cc pc = .ok (.iinc i (b : Int), 3)) (hl0 : L[i]? = some (some (.int (nI a)))) (hn : ∀ nL : Nat, c0_nL X = nL → i < nL) (ho : lo_ok L i = true) (hL : L.set i (some (.int (nI (a + b)))) = L') (hp : pc + 3 = pc') (h : V X k n ws L' st pc') : V X k n ws L st pc :=
  r_iinc hX hd hl0 (by rw [← nI_add]; rfl) hn ho hL hp h
end VROWS
end
section
/-! ===== fields and arrays ===== -/
/-- pool entry index of class own is field k of class ci -/
def FL (own : String) (index ci k : Nat) : Prop := ∃ (C : String) (T : u_T) (N : Nat), vwCl[ci]? = some (C, T, N) ∧ (∀ w ∈ u_ws C T N, w ∈ T0) ∧ k < N ∧ ∃ ref : String, Cond.fieldLink own index ref (T k).2.1 (T k).2.2.1 ∈ T0 ∧ ref = (T k).1
/-- the same of a nest mate's private field -/
def FN (own : String) (index ci k : Nat) : Prop := ∃ (C : String) (T : u_T) (N : Nat), vwCl[ci]? = some (C, T, N) ∧ (∀ w ∈ u_ws C T N, w ∈ T0) ∧ k < N ∧ ∃ ref host : String, Cond.fieldLinkNest own index ref (T k).2.1 (T k).2.2.1 host ∈ N0 ∧ ref = (T k).1
/-- field k of class ci may be written: its type ty, final or not -/
def FW (ci k : Nat) (fin : Bool) (ty : FieldType) : Prop := ∃ (C : String) (T : u_T) (N : Nat), vwCl[ci]? = some (C, T, N) ∧ ∃ ty0 : Nat → FieldType, (∀ k, k < N → parseFieldDescriptor (T k).2.2.1 = some (ty0 k)) ∧ (∀ a, a < N → ∀ b, b < N → a ≠ b → (T a).2.1 ≠ (T b).2.1) ∧ (T k).2.2.2 = fin ∧ parseFieldDescriptor (T k).2.2.1 = some ty
/-- class C is number ci, with its default fields fs -/
def CL (own : String) (index ci N : Nat) (fs : List Value) : Prop := ∃ (C : String) (T : u_T), vwCl[ci]? = some (C, T, N) ∧ (∀ w ∈ u_ws C T N, w ∈ T0) ∧ (∃ ty : Nat → FieldType, (∀ k, k < N → parseFieldDescriptor (T k).2.2.1 = some (ty k)) ∧ ∀ j, j < N → defaultValue (ty j) = vp_V fs j) ∧ Cond.classLink own index C ∈ T0 ∧ Cond.instantiable C N ∈ T0 ∧ Cond.initialized C ∈ T0
/-- one place of a function -/
def up1 {α : Type} (f : Nat → α) (i : Nat) (x : α) : Nat → α := fun j => if j = i then x else f j
/-- one place of one row -/
def up2 {α : Type} (v : Nat → Nat → α) (b i : Nat) (x : α) : Nat → Nat → α := fun b' => if b' = b then up1 (v b) i x else v b'
/-- the content of an int array, of numbers -/
abbrev aN (n : Nat) (g : Nat → Nat) : vp_A := (n, .inl (fun j => nI (g j)))
/-- of ints -/
abbrev aI (n : Nat) (f : Nat → Int32) : vp_A := (n, .inl f)
/-- of references -/
abbrev aR (n : Nat) (f : Nat → Option Nat) : vp_A := (n, .inr (.inr (.inr (.inr f))))
theorem arr_ext {c : ClassId} {n : Nat} {f g : Nat → Value} (h : ∀ j, j < n → f j = g j) : arrV c n f = arrV c n g := by
  unfold arrV
  congr 1
  apply Array.ext
  · simp
  · intro i h1 h2
    simp only [Array.size_ofFn, Array.size_map, Array.size_range] at h1
    simp [h i (by first | simpa using h1 | omega)]
theorem cell_R {c : ClassId} {n : Nat} {f g : Nat → Option Nat} (h : ∀ j, j < n → f j = g j) : vp_cell c (aR n f) = vp_cell c (aR n g) := arr_ext (f := fun j => va_rf (f j)) (g := fun j => va_rf (g j)) (fun j hj => by rw [h j hj])
theorem cell_I {c : ClassId} {n : Nat} {f g : Nat → Int32} (h : ∀ j, j < n → f j = g j) : vp_cell c (aI n f) = vp_cell c (aI n g) := arr_ext (f := fun j => .int (f j)) (g := fun j => .int (g j)) (fun j hj => by rw [h j hj])
theorem upd_nI {g : Nat → Nat} {i x : Nat} : upd (fun j => nI (g j)) i (nI x) = fun j => nI (up1 g i x j) := by
  funext j
  unfold upd up1
  split <;> rfl
/-- the array classes -/
def c0_cy (X : xC) : Nat → ClassId := X.2.2.2.2.2.2.2.2.2.2.2.1.2.1
/-- the name of the method that runs -/
def c0_name (X : xC) : String := X.2.2.2.2.2.2.2.2.1.name
section VHEAP
variable {SF : (Nat → Nat) → (Nat → Prop) → State → Heap → Prop} {X : xC} {cc : ByteArray} {own : String} {d mc ms : Nat} {k n : Nat} {ws : va_W} {L : List (Option Value)} {st : List Value} {pc pc' : Nat}

theorem r_getM {index ci kf a : Nat} {fs : List Value} {v : Value} (hX : Ok SF X cc own d mc ms) (hd : decode cc pc = .ok (.getfield index, 3)) (hf : FL own index ci kf) (he : (a, Sum.inr (ci, fs)) ∈ ws) (hv : fs[kf]? = some v) (hp : pc + 3 = pc') (h : V X k n ws L (v :: st) pc') : V X k n ws L (.ref a :: st) pc := by
  obtain ⟨p, l, e, R, s, m, args, below, meth, c, nL, G, A, Q⟩ := X
  obtain ⟨hx, hb, hown, hts, hK, hA, hlk, hml, hR, hsf, hNw⟩ := hX
  obtain ⟨C, T, N, h1, h2, h3, ref, h4, h5⟩ := hf
  subst hp h5
  intro H locs ls hP hD hS hl
  obtain ⟨q0, hq⟩ := List.getElem?_of_mem he
  exact va_get (D := G.1) (C := C) (T := T) (N := N) hx hb hts h2 hown hK hP q0 hq h1 kf h3 (hts _ h4) (fun _ h9 => h9) hv hd (h H locs ls hP hD hS hl)
theorem r_get {index ci kf a : Nat} {fs : List Value} {v : Value} (hX : Ok SF X cc own d mc ms) (hd : decode cc pc = .ok (.getfield index, 3)) (hf : FL own index ci kf) (q0 : Nat) (he : ws[q0]? = some (a, Sum.inr (ci, fs))) (hv : fs[kf]? = some v) (hp : pc + 3 = pc') (h : V X k n ws L (v :: st) pc') : V X k n ws L (.ref a :: st) pc := r_getM hX hd hf (List.mem_of_getElem? he) hv hp h
theorem r_getNM {index ci kf a : Nat} {fs : List Value} {v : Value} (hX : Ok SF X cc own d mc ms) (hd : decode cc pc = .ok (.getfield index, 3)) (hf : FN own index ci kf) (he : (a, Sum.inr (ci, fs)) ∈ ws) (hv : fs[kf]? = some v) (hp : pc + 3 = pc') (h : V X k n ws L (v :: st) pc') : V X k n ws L (.ref a :: st) pc := by
  obtain ⟨p, l, e, R, s, m, args, below, meth, c, nL, G, A, Q⟩ := X
  obtain ⟨hx, hb, hown, hts, hK, hA, hlk, hml, hR, hsf, hNw⟩ := hX
  obtain ⟨C, T, N, h1, h2, h3, ref, host, h4, h5⟩ := hf
  subst hp h5
  intro H locs ls hP hD hS hl
  obtain ⟨q0, hq⟩ := List.getElem?_of_mem he
  exact va_getN (D := G.1) (C := C) (T := T) (N := N) hx hb hts h2 hown hK hP q0 hq h1 kf h3 (va_Nw.use rfl (hNw _ h4)) (fun _ h9 => h9) hv hd (h H locs ls hP hD hS hl)
theorem r_getN {index ci kf a : Nat} {fs : List Value} {v : Value} (hX : Ok SF X cc own d mc ms) (hd : decode cc pc = .ok (.getfield index, 3)) (hf : FN own index ci kf) (q0 : Nat) (he : ws[q0]? = some (a, Sum.inr (ci, fs))) (hv : fs[kf]? = some v) (hp : pc + 3 = pc') (h : V X k n ws L (v :: st) pc') : V X k n ws L (.ref a :: st) pc := r_getNM hX hd hf (List.mem_of_getElem? he) hv hp h
theorem r_put {index ci kf a : Nat} {fs : List Value} {v : Value} {ty : FieldType} {ws' : va_W} (hX : Ok SF X cc own d mc ms) (hd : decode cc pc = .ok (.putfield index, 3)) (hf : FL own index ci kf) (hw : FW ci kf false ty) (q0 : Nat) (he : ws[q0]? = some (a, Sum.inr (ci, fs))) (hn : narrow ty v = v) (hfit : fits ty v = true) (hl0 : kf < fs.length) (hws : ws.set q0 (a, Sum.inr (ci, fs.set kf v)) = ws') (hp : pc + 3 = pc') (h : V X k n ws' L st pc') : V X k n ws L (v :: .ref a :: st) pc := by
  obtain ⟨p, l, e, R, s, m, args, below, meth, c, nL, G, A, Q⟩ := X
  obtain ⟨hx, hb, hown, hts, hK, hA, hlk, hml, hR, hsf, hNw⟩ := hX
  obtain ⟨C, T, N, h1, h2, h3, ref, h4, h5⟩ := hf
  obtain ⟨C', T', N', g1, ty0, g2, g3, g4, g5⟩ := hw
  cases h1.symm.trans g1
  subst hp h5 hws
  intro H locs ls hP hD hS hl
  exact va_put (D := G.1) (C := C) (T := T) (N := N) hx hb hts h2 ty0 g2 g3 hown hK hP hD hS q0 he h1 kf h3 (hts _ h4) (fun _ h9 => h9) g4 g5 hn hfit hl0 hd (fun H1 locs1 hP hD hS => h H1 locs1 ls hP hD hS hl)
theorem r_putN {index ci kf a : Nat} {fs : List Value} {v : Value} {ty : FieldType} {ws' : va_W} (hX : Ok SF X cc own d mc ms) (hd : decode cc pc = .ok (.putfield index, 3)) (hf : FN own index ci kf) (hw : FW ci kf false ty) (q0 : Nat) (he : ws[q0]? = some (a, Sum.inr (ci, fs))) (hn : narrow ty v = v) (hfit : fits ty v = true) (hl0 : kf < fs.length) (hws : ws.set q0 (a, Sum.inr (ci, fs.set kf v)) = ws') (hp : pc + 3 = pc') (h : V X k n ws' L st pc') : V X k n ws L (v :: .ref a :: st) pc := by
  obtain ⟨p, l, e, R, s, m, args, below, meth, c, nL, G, A, Q⟩ := X
  obtain ⟨hx, hb, hown, hts, hK, hA, hlk, hml, hR, hsf, hNw⟩ := hX
  obtain ⟨C, T, N, h1, h2, h3, ref, host, h4, h5⟩ := hf
  obtain ⟨C', T', N', g1, ty0, g2, g3, g4, g5⟩ := hw
  cases h1.symm.trans g1
  subst hp h5 hws
  intro H locs ls hP hD hS hl
  exact va_putN (D := G.1) (C := C) (T := T) (N := N) hx hb hts h2 ty0 g2 g3 hown hK hP hD hS q0 he h1 kf h3 (va_Nw.use rfl (hNw _ h4)) (fun _ h9 => h9) g4 g5 hn hfit hl0 hd (fun H1 locs1 hP hD hS => h H1 locs1 ls hP hD hS hl)
theorem r_putF {index ci kf a : Nat} {fs : List Value} {v : Value} {ty : FieldType} {ws' : va_W} (hX : Ok SF X cc own d mc ms) (hd : decode cc pc = .ok (.putfield index, 3)) (hf : FL own index ci kf) (hw : FW ci kf true ty) (hin : c0_name X = "<init>") (hcl : ∀ (C : String) (T : u_T) (N : Nat), vwCl[ci]? = some (C, T, N) → (T kf).1 = own) (q0 : Nat) (he : ws[q0]? = some (a, Sum.inr (ci, fs))) (hn : narrow ty v = v) (hfit : fits ty v = true) (hl0 : kf < fs.length) (hws : ws.set q0 (a, Sum.inr (ci, fs.set kf v)) = ws') (hp : pc + 3 = pc') (h : V X k n ws' L st pc') : V X k n ws L (v :: .ref a :: st) pc := by
  obtain ⟨p, l, e, R, s, m, args, below, meth, c, nL, G, A, Q⟩ := X
  obtain ⟨hx, hb, hown, hts, hK, hA, hlk, hml, hR, hsf, hNw⟩ := hX
  obtain ⟨C, T, N, h1, h2, h3, ref, h4, h5⟩ := hf
  obtain ⟨C', T', N', g1, ty0, g2, g3, g4, g5⟩ := hw
  cases h1.symm.trans g1
  subst hp h5 hws
  intro H locs ls hP hD hS hl
  exact va_putF (D := G.1) (C := C) (T := T) (N := N) hx hb hts h2 ty0 g2 g3 hown hK hP hD hS q0 he h1 kf h3 (hts _ h4) (fun _ h9 => h9) g4 hin (hcl _ _ _ h1) g5 hn hfit hl0 hd (fun H1 locs1 hP hD hS => h H1 locs1 ls hP hD hS hl)
theorem tys_at {cy : Nat → ClassId} {t : Nat} {q : ClassId × FieldType} (h : (tysG cy)[t]? = some q) : (tysG cy)[t]? = some q := h
theorem r_iald {a i n0 : Nat} {f : Nat → Int32} {x : Int32} {cA : ClassId} (hX : Ok SF X cc own d mc ms) (hd : decode cc pc = .ok (.iaload, 1)) (hc : c0_cy X 0 = cA) (he : (a, Sum.inl (cA, aI n0 f)) ∈ ws) (hi : i < n0) (hn : n0 < 2147483648) (hxv : f i = x) (hp : pc + 1 = pc') (h : V X k n ws L (.int x :: st) pc') : V X k n ws L (.int (nI i) :: .ref a :: st) pc := by
  obtain ⟨p, l, e, R, s, m, args, below, meth, c, nL, G, A, Q⟩ := X
  obtain ⟨hx, hb, hown, hts, hK, hA, hlk, hml, hR, hsf, hNw⟩ := hX
  subst hp hxv hc
  intro H locs ls hP hD hS hl
  obtain ⟨q0, hq⟩ := List.getElem?_of_mem he
  have hcl : (nI i).toNatClampNeg = i := nI_clamp (by omega)
  exact va_iald (D := G.1) hx hb hK hP q0 0 hq rfl (vp_in_nI hi hn) hd (by rw [hcl]; exact h H locs ls hP hD hS hl)
theorem r_iald_N {a i n0 : Nat} {g : Nat → Nat} {cA : ClassId} (hX : Ok SF X cc own d mc ms) (hd : decode cc pc = .ok (.iaload, 1)) (hc : c0_cy X 0 = cA) (q0 : Nat) (he : ws[q0]? = some (a, Sum.inl (cA, aN n0 g))) (hi : i < n0) (hn : n0 < 2147483648) (hp : pc + 1 = pc') (h : V X k n ws L (.int (nI (g i)) :: st) pc') : V X k n ws L (.int (nI i) :: .ref a :: st) pc := r_iald hX hd hc (List.mem_of_getElem? he) hi hn rfl hp h
theorem r_iald_M {a i n0 : Nat} {g : Nat → Nat} {cA : ClassId} (hX : Ok SF X cc own d mc ms) (hd : decode cc pc = .ok (.iaload, 1)) (hc : c0_cy X 0 = cA) (he : (a, Sum.inl (cA, aN n0 g)) ∈ ws) (hi : i < n0) (hn : n0 < 2147483648) (hp : pc + 1 = pc') (h : V X k n ws L (.int (nI (g i)) :: st) pc') : V X k n ws L (.int (nI i) :: .ref a :: st) pc := r_iald hX hd hc he hi hn rfl hp h
theorem r_iast {a i n0 : Nat} {f : Nat → Int32} {x : Int32} {cA : ClassId} {ws' : va_W} (hX : Ok SF X cc own d mc ms) (hd : decode cc pc = .ok (.iastore, 1)) (hc : c0_cy X 0 = cA) (q0 : Nat) (he : ws[q0]? = some (a, Sum.inl (cA, aI n0 f))) (hi : i < n0) (hn : n0 < 2147483648) (hws : ws.set q0 (a, Sum.inl (cA, aI n0 (upd f i x))) = ws') (hp : pc + 1 = pc') (h : V X k n ws' L st pc') : V X k n ws L (.int x :: .int (nI i) :: .ref a :: st) pc := by
  obtain ⟨p, l, e, R, s, m, args, below, meth, c, nL, G, A, Q⟩ := X
  obtain ⟨hx, hb, hown, hts, hK, hA, hlk, hml, hR, hsf, hNw⟩ := hX
  subst hp hc hws
  intro H locs ls hP hD hS hl
  have hcl : (nI i).toNatClampNeg = i := nI_clamp (by omega)
  have hi9 := vp_in_nI hi hn
  refine va_iast (D := G.1) hx hb hK hP hD hS q0 0 he rfl hi9 hd (fun H1 locs1 hP hD hS => ?_)
  rw [hcl] at hP hD
  exact h H1 locs1 ls hP hD hS hl
theorem r_iast_N {a i n0 y : Nat} {g : Nat → Nat} {cA : ClassId} {ws' : va_W} (hX : Ok SF X cc own d mc ms) (hd : decode cc pc = .ok (.iastore, 1)) (hc : c0_cy X 0 = cA) (q0 : Nat) (he : ws[q0]? = some (a, Sum.inl (cA, aN n0 g))) (hi : i < n0) (hn : n0 < 2147483648) (hws : ws.set q0 (a, Sum.inl (cA, aN n0 (up1 g i y))) = ws') (hp : pc + 1 = pc') (h : V X k n ws' L st pc') : V X k n ws L (.int (nI y) :: .int (nI i) :: .ref a :: st) pc :=
  r_iast hX hd hc q0 he hi hn (by rw [upd_nI]; exact hws) hp h
theorem r_aald {a i n0 y : Nat} {f : Nat → Option Nat} {cA : ClassId} {ty : FieldType} (hX : Ok SF X cc own d mc ms) (hd : decode cc pc = .ok (.aaload, 1)) (t0 : Nat) (ht : (tysG (c0_cy X))[t0]? = some (cA, ty)) (hty : ty.isReference = true) (he : (a, Sum.inl (cA, aR n0 f)) ∈ ws) (hi : i < n0) (hn : n0 < 2147483648) (hf : f i = some y) (hp : pc + 1 = pc') (h : V X k n ws L (.ref y :: st) pc') : V X k n ws L (.int (nI i) :: .ref a :: st) pc := by
  obtain ⟨p, l, e, R, s, m, args, below, meth, c, nL, G, A, Q⟩ := X
  obtain ⟨hx, hb, hown, hts, hK, hA, hlk, hml, hR, hsf, hNw⟩ := hX
  subst hp
  intro H locs ls hP hD hS hl
  obtain ⟨q0, hq⟩ := List.getElem?_of_mem he
  have hcl : (nI i).toNatClampNeg = i := nI_clamp (by omega)
  refine W.aald (v := .ref y) (ty := ty) hx hb (hP q0 _ hq) ((hK.2 t0 _ ht).1 n0 (fun j => va_rf (f j))) hty (fun q => by cases q) ?_ ?_ rfl rfl hd (h H locs ls hP hD hS hl)
  · show ¬ (nI i < 0 ∨ (arrV _ _ _).slots.size ≤ _)
    rw [arrV_size]
    exact vp_in_nI hi hn
  · show (arrV _ _ _).slots[_]? = _
    rw [hcl, arrV_read _ _ hi, hf]
    rfl
theorem r_alen {a n0 : Nat} {cA : ClassId} {x : vp_A} {ty : FieldType} (hX : Ok SF X cc own d mc ms) (hd : decode cc pc = .ok (.arraylength, 1)) (t0 : Nat) (ht : (tysG (c0_cy X))[t0]? = some (cA, ty)) (he : (a, Sum.inl (cA, x)) ∈ ws) (hv : x.1 = n0) (hp : pc + 1 = pc') (h : V X k n ws L (.int (nI n0) :: st) pc') : V X k n ws L (.ref a :: st) pc := by
  obtain ⟨p, l, e, R, s, m, args, below, meth, c, nL, G, A, Q⟩ := X
  obtain ⟨hx, hb, hown, hts, hK, hA, hlk, hml, hR, hsf, hNw⟩ := hX
  subst hp hv
  intro H locs ls hP hD hS hl
  obtain ⟨q0, hq⟩ := List.getElem?_of_mem he
  exact va_alen (D := G.1) hx hb hK hP q0 t0 hq ht rfl hd (h H locs ls hP hD hS hl)
theorem r_aast {a i n0 y ci : Nat} {f : Nat → Option Nat} {cA : ClassId} {r : vw_C} {vs : List Value} {ws' : va_W} (hX : Ok SF X cc own d mc ms) (hd : decode cc pc = .ok (.aastore, 1)) (t0 : Nat) (ht : (tysG (c0_cy X))[t0]? = some (cA, .object r.1)) (q0 : Nat) (he : ws[q0]? = some (a, Sum.inl (cA, aR n0 f))) (hy : (y, Sum.inr (ci, vs)) ∈ ws) (hcl : vwCl[ci]? = some r) (hi : i < n0) (hn : n0 < 2147483648) (hws : ws.set q0 (a, Sum.inl (cA, aR n0 (va_up f i (some y)))) = ws') (hp : pc + 1 = pc') (h : V X k n ws' L st pc') : V X k n ws L (.ref y :: .int (nI i) :: .ref a :: st) pc := by
  obtain ⟨p, l, e, R, s, m, args, below, meth, c, nL, G, A, Q⟩ := X
  obtain ⟨hx, hb, hown, hts, hK, hA, hlk, hml, hR, hsf, hNw⟩ := hX
  subst hp hws
  intro H locs ls hP hD hS hl
  obtain ⟨q1, hq⟩ := List.getElem?_of_mem hy
  have hi9 := vp_in_nI hi hn
  have hc9 : (nI i).toNatClampNeg = i := nI_clamp (by omega)
  refine va_astq (D := G.1) hx hb hK hP hD hS q0 t0 q1 ci he ht hq hcl hi9 hd (fun H1 locs1 hP hD hS => ?_)
  rw [hc9] at hP hD
  exact h H1 locs1 ls hP hD hS hl
theorem r_new {index ci N k' n' : Nat} {fs : List Value} (hX : Ok SF X cc own d mc ms) (hd : decode cc pc = .ok (.new index, 3)) (hc : CL own index ci N fs) (hk : k + 1 = k') (hn : n + N = n') (hk2 : k' ≤ mc) (hn2 : n' ≤ ms) (hp : pc + 3 = pc') (h : ∀ q : Nat, V X k' n' (ws ++ [(q, Sum.inr (ci, fs))]) L (.ref q :: st) pc') : V X k n ws L st pc := by
  obtain ⟨p, l, e, R, s, m, args, below, meth, c, nL, G, A, Q⟩ := X
  obtain ⟨hx, hb, hown, hts, hK, hA, hlk, hml, hR, hsf, hNw⟩ := hX
  obtain ⟨C, T, h1, h2, ⟨ty, h3, h4⟩, h5, h6, h7⟩ := hc
  subst hp hk hn
  intro H locs ls hP hD hS hl
  exact va_new (D := G.1) (C := C) (T := T) (N := N) hx hb hts h2 ty h3 hown (hts _ h5) (hts _ h6) (hts _ h7) hK hP hD hS hA h1 h4 (Nat.le_trans hk2 hR.2.2.1) (Nat.le_trans hn2 hR.2.2.2) hd (fun q H1 hP hD hS => h q H1 locs ls hP hD hS hl)
/-- a new array of ints, chars, bytes, longs, doubles -/
theorem r_newa {atype : ArrayType} {ty : FieldType} {N k' n' t0 : Nat} {a0 : vp_A} {cA : ClassId} (hX : Ok SF X cc own d mc ms) (hd : decode cc pc = .ok (.newarray atype, 2)) (harr : Cond.arrayClass (newarray.typeOf atype) ∈ T0) (hty : newarray.typeOf atype = ty) (t0 : Nat) (ht : (tysG (c0_cy X))[t0]? = some (cA, ty)) (hre : ∀ (U : State) (cA : ClassId), va_RA U cA ty → U.vm.findClass ("[" ++ ty.toString) = some cA) (ha : ∀ cA : ClassId, vp_cell cA a0 = arrV cA N (fun _ => defaultValue ty)) (hN : N < 67108864) (hby : componentBytes ty ≤ 8) (hk : k + 1 = k') (hn : n + N = n') (hk2 : k' ≤ mc) (hn2 : n' ≤ ms) (hp : pc + 2 = pc') (h : ∀ q : Nat, V X k' n' (ws ++ [(q, Sum.inl (cA, a0))]) L (.ref q :: st) pc') : V X k n ws L (.int (nI N) :: st) pc := by
  obtain ⟨p, l, e, R, s, m, args, below, meth, c, nL, G, A, Q⟩ := X
  obtain ⟨hx, hb, hown, hts, hK, hA, hlk, hml, hR, hsf, hNw⟩ := hX
  subst hp hk hn
  intro H locs ls hP hD hS hl
  have hNb : N * componentBytes ty ≤ 536870912 := Nat.le_trans (Nat.mul_le_mul_left N hby) (by omega)
  refine va_newa (D := G.1) (ty := ty) (a0 := a0) (N' := N) hx hb (hts _ harr) hty hK hP hD hS hA ha (nI_pos (by omega)) (nI_clamp (by omega)) hNb (Nat.le_trans hk2 hR.2.2.1) (Nat.le_trans hn2 hR.2.2.2) hd (fun q cB H1 hK1 hP hD hS => ?_)
  have e1 := hre s cA (hK.2 t0 _ ht).2
  have e2 := hre s cB (hK1.2 _ (cB, ty) (by rw [List.getElem?_append_right (Nat.le_refl _)]; simp)).2
  cases Option.some.inj (e2.symm.trans e1)
  exact h q H1 locs ls hP hD hS hl
/-- a new array of references to objects -/
theorem r_newq {index N k' n' : Nat} {C : String} {cA : ClassId} (hX : Ok SF X cc own d mc ms) (hd : decode cc pc = .ok (.anewarray index, 3)) (hcl : Cond.classLink own index C ∈ T0) (hov : Cond.arrayOver (.object C) ∈ N0) (t0 : Nat) (ht : (tysG (c0_cy X))[t0]? = some (cA, .object C)) (hN : N < 67108864) (hk : k + 1 = k') (hn : n + N = n') (hk2 : k' ≤ mc) (hn2 : n' ≤ ms) (hp : pc + 3 = pc') (h : ∀ q : Nat, V X k' n' (ws ++ [(q, Sum.inl (cA, aR N (fun _ => none)))]) L (.ref q :: st) pc') : V X k n ws L (.int (nI N) :: st) pc := by
  obtain ⟨p, l, e, R, s, m, args, below, meth, c, nL, G, A, Q⟩ := X
  obtain ⟨hx, hb, hown, hts, hK, hA, hlk, hml, hR, hsf, hNw⟩ := hX
  subst hp hk hn
  intro H locs ls hP hD hS hl
  refine va_newq (D := G.1) (N' := N) hx hb hown (hts _ hcl) (hNw _ hov) hK hP hD hS hA (nI_pos (by omega)) (nI_clamp (by omega)) (by omega) (Nat.le_trans hk2 hR.2.2.1) (Nat.le_trans hn2 hR.2.2.2) hd (fun q cB H1 hK1 hP hD hS => ?_)
  obtain ⟨-, -, -, -, -, e1⟩ := (hK.2 t0 _ ht).2
  obtain ⟨-, -, -, -, -, e2⟩ := (hK1.2 _ (cB, FieldType.object C) (by rw [List.getElem?_append_right (Nat.le_refl _)]; simp)).2
  cases Option.some.inj (e2.symm.trans e1)
  exact h q H1 locs ls hP hD hS hl
end VHEAP
end
section
/-! ===== the statics that nobody writes, all facts of them in one ===== -/
def frmL : List (List Nat) := [[97, 108, 108, 111, 121, 32, 35, 35, 35], [109, 111, 117, 108, 100, 32, 42], [98, 117, 121, 32, 35, 32, 42], [99, 97, 115, 116, 32, 35, 32, 35, 32, 35], [116, 101, 115, 116, 32, 42], [109, 101, 108, 116, 32, 42], [114, 101, 110, 101, 119, 32, 35], [108, 105, 109, 105, 116, 32, 42], [115, 116, 101, 112, 32, 35]]
def frm (i : Nat) : List Nat := frmL.getD i []
def msgL : List (Nat × String) := [(298, "there is no such index"), (300, "a number is outside its bounds"), (302, "the present state does not allow this"), (306, "the store has too little of a metal"), (309, "there is no such batch, bow or rank"), (123, "there is no such position"), (204, "there are no bows in batches"), (210, "no bow has been cast"), (236, "there is no such character of the output text"), (245, "the character code is not between 32 and 126"), (251, "the script buffer is full"), (264, "the script does not have the required form"), (273, "a command of the script failed"), (275, "no script has had a wrong form"), (277, "no script has had a failed command"), (279, "there is nothing to undo"), (285, "there is no snapshot")]
def SF (sa : Nat → Nat) (A : Nat → Prop) (U : State) (H : Heap) : Prop :=
  va_Z "java/lang/String" "COMPACT_STRINGS" "Z" (.int 1) A U H ∧
  (va_Z "java/lang/Integer" "DigitOnes" "[B" (.ref (sa 0)) A U H ∧ va_T .byte (sa 0) 100 (fun j => .int (nI (48 + j % 10))) A U H) ∧
  (va_Z "java/lang/Integer" "DigitTens" "[B" (.ref (sa 1)) A U H ∧ va_T .byte (sa 1) 100 (fun j => .int (nI (48 + j / 10))) A U H) ∧
  (va_Z "BowFoundry" "COMMANDS" "[LBowFoundry$Command;" (.ref (sa 2)) A U H ∧ va_T (.object "BowFoundry$Command") (sa 2) 9 (fun j => .ref (sa (10 + j))) A U H) ∧
  (va_Z "BowFoundry$1" "$SwitchMap$BowFoundry$Command" "[I" (.ref (sa 3)) A U H ∧ va_T .int (sa 3) 9 (fun j => .int (nI (j + 1))) A U H) ∧
  (∀ i, i < 9 → va_O "BowFoundry$Command" (sa (10 + i)) A U H ∧ va_OF "java/lang/Enum" "ordinal" "I" (.int (nI i)) (sa (10 + i)) A U H ∧ va_OF "BowFoundry$Command" "form" "Ljava/lang/String;" (.ref (sa (20 + i))) (sa (10 + i)) A U H ∧
    va_O "java/lang/String" (sa (20 + i)) A U H ∧ va_OF "java/lang/String" "coder" "B" (.int 0) (sa (20 + i)) A U H ∧ va_OF "java/lang/String" "value" "[B" (.ref (sa (30 + i))) (sa (20 + i)) A U H ∧ va_T .byte (sa (30 + i)) (frm i).length (fun j => .int (nI ((frm i).getD j 0))) A U H) ∧
  vx_Zq Bundle.tN "UNASSIGNED_STACK" Bundle.steD A U H ∧ vx_Zq Bundle.tN "SUPPRESSED_SENTINEL" Bundle.listD A U H ∧
  va_Zq "jdk/internal/util/Preconditions" "SIOOBE_FORMATTER" "Ljava/util/function/BiFunction;" A U H ∧
  (∀ i, i < 17 → vk_R "BowFoundry" (msgL.getD i (0, "")).1 (msgL.getD i (0, "")).2 (sa (40 + i)) U)
theorem SF.to {sa : Nat → Nat} {A B : Nat → Prop} {s U : State} {H H1 : Heap} (h : SF sa A s H) (hvm : s.vm.Alike U.vm) (hR : ∀ (k a : Nat) (tx : String), vk_R "BowFoundry" k tx a s → vk_R "BowFoundry" k tx a U) (hq : ∀ a : Nat, a < H.size → ¬ A a → H1[a]? = H[a]?) (hAB : ∀ q, B q → A q) : SF sa B U H1 := by
  obtain ⟨h1, ⟨h2, h3⟩, ⟨h4, h5⟩, ⟨h6, h7⟩, ⟨h8, h9⟩, h10, h11, h12, h13, h14⟩ := h
  refine ⟨((h1.moved hvm).kept hq).narrow hAB, ⟨((h2.moved hvm).kept hq).narrow hAB, ((h3.moved hvm).kept hq).narrow hAB⟩, ⟨((h4.moved hvm).kept hq).narrow hAB, ((h5.moved hvm).kept hq).narrow hAB⟩, ⟨((h6.moved hvm).kept hq).narrow hAB, ((h7.moved hvm).kept hq).narrow hAB⟩, ⟨((h8.moved hvm).kept hq).narrow hAB, ((h9.moved hvm).kept hq).narrow hAB⟩, ?_, ((h11.moved hvm).kept hq).narrow hAB, ((h12.moved hvm).kept hq).narrow hAB, ((h13.moved hvm).kept hq).narrow hAB, fun i hi => hR _ _ _ (h14 i hi)⟩
  intro i hi
  obtain ⟨g1, g2, g3, g4, g5, g6, g7⟩ := h10 i hi
  exact ⟨((g1.moved hvm).kept hq).narrow hAB, ((g2.moved hvm).kept hq).narrow hAB, ((g3.moved hvm).kept hq).narrow hAB, ((g4.moved hvm).kept hq).narrow hAB, ((g5.moved hvm).kept hq).narrow hAB, ((g6.moved hvm).kept hq).narrow hAB, ((g7.moved hvm).kept hq).narrow hAB⟩
theorem SF.go {sa : Nat → Nat} {A B : Nat → Prop} {s U : State} {H : Heap} {locs : List Loc} (h : SF sa A s s.heap) (hS : va_S A s.heap H locs) (hU : U.heap = H) (hW : s.WarmedH U.vm) (hAB : ∀ q, B q → A q) : SF sa B U U.heap :=
  h.to hW.alike (fun _ _ _ q => vk_R.warm hW q) (fun a h1 h2 => by rw [hU]; exact hS.2.1 a h1 h2) hAB
theorem SF.calling {sa : Nat → Nat} {A : Nat → Prop} {U : State} (g : JFrame) (mk : MethodId) (a : Array Value) (h : SF sa A U U.heap) : SF sa A (U.calling g mk a) (U.calling g mk a).heap :=
  h.to (Vm.Alike.refl U.vm) (fun _ _ _ q => vk_R.same (u := U) rfl q) (fun _ _ _ => rfl) (fun _ q => q)
theorem va_AOA.moved {ty : FieldType} {u U : State} (hvm : u.vm.Alike U.vm) (h : va_AOA ty u) : va_AOA ty U := (Cond.arrayOver_setVmC (s := u) (args := #[]) hvm (.array ty)).trans h
theorem N0_vm {u U : State} (hv : u.vm = U.vm) (h : ∀ w ∈ N0, va_Nw w u) : ∀ w ∈ N0, va_Nw w U := by
  intro w hw
  have g := (List.mem_filter.mp hw).2
  have h1 := h w hw
  cases w with
  | fieldLinkNest a i b n d h => exact va_Nw.same rfl hv h1
  | methodLinkNest a i x h => exact va_Nw.same rfl hv h1
  | declares x => exact va_Nw.same rfl hv h1
  | castable a b => exact va_Nw.same rfl hv h1
  | arrayOver ty =>
    cases ty with
    | object C => exact va_AO.moved (hv ▸ Vm.Alike.refl u.vm) h1
    | array t => exact va_AOA.moved (hv ▸ Vm.Alike.refl u.vm) h1
    | _ => exact Bool.noConfusion g
  | _ => exact Bool.noConfusion g
theorem N0_warm {s U : State} (hW : s.WarmedH U.vm) (h : ∀ w ∈ N0, va_Nw w s) : ∀ w ∈ N0, va_Nw w U := by
  intro w hw
  have g := (List.mem_filter.mp hw).2
  have h1 := h w hw
  cases w with
  | fieldLinkNest a i b n d h => exact va_Nw.warmF hW h1
  | methodLinkNest a i x h => exact va_Nw.warmM hW h1
  | declares x => exact va_Nw.warmD hW h1
  | castable a b => exact va_Nw.warmC hW h1
  | arrayOver ty =>
    cases ty with
    | object C => exact va_AO.moved hW.alike h1
    | array t => exact va_AOA.moved hW.alike h1
    | _ => exact Bool.noConfusion g
  | _ => exact Bool.noConfusion g
/-! ===== contracts: a world before, a result and a world behind ===== -/
def PreW (G : xG) (ws : va_W) (sz : Nat) (U : State) : Prop := U.heap.size = sz ∧ va_P G.1 vwCl ws U.heap ∧ va_K G.1 vwCl (tysG G.2.1) U ∧ va_D (fun _ => True) ws ∧ SF G.2.2 (va_A ws sz) U U.heap ∧ ∀ w ∈ N0, va_Nw w U
def PostW (G : xG) (ws : va_W) (sz : Nat) (u : va_W) (t : State) : Prop := va_P G.1 vwCl u t.heap ∧ va_K G.1 vwCl (tysG G.2.1) t ∧ va_D (va_A ws sz) u
def QG (G : xG) (ws : va_W) (sz : Nat) (P : Option Value → va_W → Prop) : Array Value → State → Outcome → State → Prop := fun _ st oc t => (∃ (v : Option Value) (u : va_W), oc = .returned v ∧ P v u ∧ PostW G ws sz u t) ∧ va_F (va_A ws sz) st t
def XG (G : xG) (ws : va_W) (sz : Nat) (PX : String → va_W → Prop) : String → State → State → Prop := fun E st t => (∃ u : va_W, PX E u ∧ PostW G ws sz u t) ∧ va_F (va_A ws sz) st t
abbrev rmD (d mc ms : Nat) : Room := { frames := d, cells := mc, slots := ms, locals := 40 * d }
/-- the words of a method: its own code, then all words -/
abbrev wO (y : MethodName) (cc : ByteArray) (maxL : Nat) (ret : Option FieldType) : List Cond := .code y cc maxL ret :: T0
/-- a contract: from world ws, with arguments av, method y returns, P of its result and the world behind -/
def MG (l : Launch) (y : MethodName) (cc : ByteArray) (maxL : Nat) (ret : Option FieldType) (d mc ms : Nat) (G : xG) (av : List Value) (ws : va_W) (P : Option Value → va_W → Prop) : Prop :=
  ∀ sz : Nat, Met l y (wO y cc maxL ret) (rmD d mc ms) (va_Pc av (PreW G ws sz)) (QG G ws sz P) mc ms (va_A ws sz)
/-- a contract of a method that may throw: PX of the exception's class and the world then -/
def MX (l : Launch) (y : MethodName) (cc : ByteArray) (maxL : Nat) (ret : Option FieldType) (d mc ms : Nat) (G : xG) (av : List Value) (ws : va_W) (P : Option Value → va_W → Prop) (PX : String → va_W → Prop) : Prop :=
  ∀ sz : Nat, vx_Met l y (wO y cc maxL ret) (rmD d mc ms) (va_Pc av (PreW G ws sz)) (QG G ws sz P) (XG G ws sz PX) mc ms (va_A ws sz)
theorem PreW_blind {G : xG} {ws : va_W} {sz : Nat} {av : List Value} : FrameBlind (va_Pc av (PreW G ws sz)) := fun a U g mk q => by
  obtain ⟨q0, q1, q2, q3, q4, q5, q6⟩ := q
  exact ⟨q0, q1, q2, va_K.moved (u := U) (U := U.calling g mk a) (Vm.Alike.refl U.vm) q3, q4, q5.calling g mk a, N0_vm (u := U) (U := U.calling g mk a) rfl q6⟩
/-- what a run may end with -/
def Ends (X : xC) (ret : Option FieldType) (mc ms : Nat) (ws0 : va_W) (P : Option Value → va_W → Prop) : Prop := match X with
  | (p, l, e, R, s, m, args, below, meth, c, _, G, A, Q) => meth.sig.returnType = ret ∧ A = va_A ws0 s.heap.size ∧ ∀ (H : Heap) (locs : List Loc) (k n : Nat) (g : JFrame), W p l e R s m args below meth c H locs k n (MQ below (QG G ws0 s.heap.size P) args s mc ms A) g → W p l e R s m args below meth c H locs k n Q g
/-- what a run may throw -/
def Outs (X : xC) (mc ms : Nat) (ws0 : va_W) (PX : String → va_W → Prop) : Prop := match X with
  | (_, l, _, _, s, _, args, below, _, c, _, G, A, Q) => l.stackTraces = false ∧ c.exceptionTable.toList = [] ∧ A = va_A ws0 s.heap.size ∧ ∃ Qc, Q = vx_MQ below Qc (XG G ws0 s.heap.size PX) args s mc ms A
theorem room_of {ws : List Cond} {y : MethodName} {cc : ByteArray} {maxL : Nat} {ret : Option FieldType} {rm : Room} : (headSpec (.code y cc maxL ret :: ws) rm).room = rm := rfl
def c0_G (X : xC) : xG := X.2.2.2.2.2.2.2.2.2.2.2.1
theorem nlt {X : xC} {i M : Nat} (h : c0_nL X = M) (h2 : i < M) : ∀ nL : Nat, c0_nL X = nL → i < nL := fun nL q => by rw [← q, h]; exact h2
theorem lo_entry (vs : List Value) (n : Nat) (hc : ∀ v ∈ vs, v.category = 1) (hn : vs.length ≤ n) {L : List (Option Value)} (hL : ∀ (i : Nat) (v : Value), L[i]? = some (some v) → vs[i]? = some v) : lo_has ((lg_sl vs ++ List.replicate (n - (lg_sl vs).length) Slot.unset).toArray) n L := by
  have e : lg_sl vs = vs.map Slot.val := by
    unfold lg_sl
    clear hn hL
    induction vs with
    | nil => rfl
    | cons a t ih =>
      have h1 := hc a List.mem_cons_self
      rw [List.flatMap_cons, if_neg (by rw [h1]; decide), ih (fun v hv => hc v (List.mem_cons_of_mem _ hv))]
      rfl
  have h := lv_entry vs (n := n) (by rw [e]; simpa using hn)
  refine ⟨h.1, h.2.1, fun i v hi => ?_⟩
  have hv := hL i v hi
  have hlt := (List.getElem?_eq_some_iff.mp hv).1
  rw [e, List.getElem?_toArray, List.getElem?_append_left (by simpa using hlt), List.getElem?_map, hv]
  rfl
theorem MG_of {l : Launch} {y : MethodName} {cc : ByteArray} {maxL : Nat} {ret : Option FieldType} {d mc ms : Nat} {G : xG} {av : List Value} {ws : va_W} {P : Option Value → va_W → Prop} {own : String} (hpl : plainName y.cls = true) (ho : y.cls = own) (hc : ∀ v ∈ av, v.category = 1) (hn : av.length ≤ maxL)
    {L : List (Option Value)} (hL : ∀ (i : Nat) (v : Value), L[i]? = some (some v) → av[i]? = some v)
    (body : ∀ X : xC, Ok SF X cc own d mc ms → Ends X ret mc ms ws P → c0_nL X = maxL → c0_G X = G → c0_name X = y.name → V X 0 0 ws L [] 0) : MG l y cc maxL ret d mc ms G av ws P := by
  intro sz
  refine Met.ofW (cc := cc) (maxL := maxL) (ret := ret) hpl rfl ?_
  intro p e s m args below meth c s₁ B hml hv
  obtain ⟨rfl, hsz, hP, hK, hD, hF, hNw⟩ := hv
  subst hsz
  have hts := atoms_spec (ws := wO y cc maxL ret) B.pre
  have hown : s.vm.findClass own = some m.cls := by rw [← ho]; exact findClass_of_methodNamed B.named
  have h := body (p, l, e, rmD d mc ms, s, m, av.toArray, below, meth, c, maxL, G, va_A ws s.heap.size, MQ below (QG G ws s.heap.size P) av.toArray s mc ms (va_A ws s.heap.size))
    ⟨B.exec, B.bytes, hown, fun w hw => hts w (List.mem_cons_of_mem _ hw), hK, fun q h => Or.inr h, B.notSynchronized, hml, ⟨Nat.le_refl _, Nat.le_refl _, Nat.le_refl _, Nat.le_refl _⟩, hF, hNw⟩ ⟨B.returns, rfl, fun _ _ _ _ _ h => h⟩ rfl rfl ((name_of_methodNamed B.named B.method).1)
  rw [lg_entry_eq]
  exact h s.heap [] _ hP hD.self va_S.rf (lo_entry av maxL hc hn hL)
theorem MX_of {l : Launch} {y : MethodName} {cc : ByteArray} {maxL : Nat} {ret : Option FieldType} {d mc ms : Nat} {G : xG} {av : List Value} {ws : va_W} {P : Option Value → va_W → Prop} {PX : String → va_W → Prop} {own : String} (hst : l.stackTraces = false) (hpl : plainName y.cls = true) (ho : y.cls = own) (hc : ∀ v ∈ av, v.category = 1) (hn : av.length ≤ maxL)
    {L : List (Option Value)} (hL : ∀ (i : Nat) (v : Value), L[i]? = some (some v) → av[i]? = some v)
    (body : ∀ X : xC, Ok SF X cc own d mc ms → Ends X ret mc ms ws P → Outs X mc ms ws PX → c0_nL X = maxL → c0_G X = G → c0_name X = y.name → V X 0 0 ws L [] 0) : MX l y cc maxL ret d mc ms G av ws P PX := by
  intro sz
  refine vx_ofW (cc := cc) (maxL := maxL) (ret := ret) hpl rfl ?_
  intro p e s m args below meth c s₁ B hml hT hv
  obtain ⟨rfl, hsz, hP, hK, hD, hF, hNw⟩ := hv
  subst hsz
  have hts := atoms_spec (ws := wO y cc maxL ret) B.pre
  have hown : s.vm.findClass own = some m.cls := by rw [← ho]; exact findClass_of_methodNamed B.named
  have h := body (p, l, e, rmD d mc ms, s, m, av.toArray, below, meth, c, maxL, G, va_A ws s.heap.size, vx_MQ below (QG G ws s.heap.size P) (XG G ws s.heap.size PX) av.toArray s mc ms (va_A ws s.heap.size))
    ⟨B.exec, B.bytes, hown, fun w hw => hts w (List.mem_cons_of_mem _ hw), hK, fun q h => Or.inr h, B.notSynchronized, hml, ⟨Nat.le_refl _, Nat.le_refl _, Nat.le_refl _, Nat.le_refl _⟩, hF, hNw⟩ ⟨B.returns, rfl, fun _ _ _ _ _ h => vx_ret h⟩ ⟨hst, List.eq_nil_iff_forall_not_mem.mpr hT, rfl, _, rfl⟩ rfl rfl ((name_of_methodNamed B.named B.method).1)
  rw [lg_entry_eq]
  exact h s.heap [] _ hP hD.self va_S.rf (lo_entry av maxL hc hn hL)
end
section
/-! ===== ends of a run ===== -/
section VENDS
variable {X : xC} {cc : ByteArray} {own : String} {d mc ms : Nat} {k n : Nat} {ws ws0 : va_W} {L : List (Option Value)} {st : List Value} {pc pc' : Nat} {P : Option Value → va_W → Prop} {PX : String → va_W → Prop}

theorem r_ireturn {v : Int32} (hX : Ok SF X cc own d mc ms) {ret : Option FieldType} (hE : Ends X ret mc ms ws0 P) (hd : decode cc pc = .ok (.ireturn, 1)) (hret : ret = some .int) (hP : P (some (.int v)) ws) (hk : k ≤ mc) (hn : n ≤ ms) : V X k n ws L ([.int v]) pc := by
  obtain ⟨p, l, e, R, s, m, args, below, meth, c, nL, G, A, Q⟩ := X
  obtain ⟨hx, hb, hown, hts, hK, hA, hlk, hml, hR, hsf, hNw⟩ := hX
  obtain ⟨hr, rfl, hQ⟩ := hE
  intro H locs ls hP1 hD hS hl
  refine hQ H locs k n _ (W.widen hk hn ?_)
  exact W.iret hx hb (hr.trans hret) (fun t ht hW => ⟨⟨_, ws, rfl, hP, by rw [ht]; exact hP1, va_K.moved hW.alike hK, hD⟩, hS.F ht⟩) hS.2.2 hd hlk
theorem r_zreturn {v : Int32} (hX : Ok SF X cc own d mc ms) {ret : Option FieldType} (hE : Ends X ret mc ms ws0 P) (hd : decode cc pc = .ok (.ireturn, 1)) {ty : FieldType} (hret : ret = some ty) (hnr : narrow ty (.int v) = .int v) (hP : P (some (.int v)) ws) (hk : k ≤ mc) (hn : n ≤ ms) : V X k n ws L ([.int v]) pc := by
  obtain ⟨p, l, e, R, s, m, args, below, meth, c, nL, G, A, Q⟩ := X
  obtain ⟨hx, hb, hown, hts, hK, hA, hlk, hml, hR, hsf, hNw⟩ := hX
  obtain ⟨hr, rfl, hQ⟩ := hE
  intro H locs ls hP1 hD hS hl
  refine hQ H locs k n _ (W.widen hk hn ?_)
  exact W.zret hx hb (hr.trans hret) hnr (fun t ht hW => ⟨⟨_, ws, rfl, hP, by rw [ht]; exact hP1, va_K.moved hW.alike hK, hD⟩, hS.F ht⟩) hS.2.2 hd hlk
theorem r_vreturn  (hX : Ok SF X cc own d mc ms) {ret : Option FieldType} (hE : Ends X ret mc ms ws0 P) (hd : decode cc pc = .ok (.return_, 1)) (hret : ret = none) (hP : P (none) ws) (hk : k ≤ mc) (hn : n ≤ ms) : V X k n ws L ([]) pc := by
  obtain ⟨p, l, e, R, s, m, args, below, meth, c, nL, G, A, Q⟩ := X
  obtain ⟨hx, hb, hown, hts, hK, hA, hlk, hml, hR, hsf, hNw⟩ := hX
  obtain ⟨hr, rfl, hQ⟩ := hE
  intro H locs ls hP1 hD hS hl
  refine hQ H locs k n _ (W.widen hk hn ?_)
  exact W.vret hx hb (hr.trans hret) (fun t ht hW => ⟨⟨_, ws, rfl, hP, by rw [ht]; exact hP1, va_K.moved hW.alike hK, hD⟩, hS.F ht⟩) hS.2.2 hd hlk
theorem r_areturn {v : Value} (hX : Ok SF X cc own d mc ms) {ret : Option FieldType} (hE : Ends X ret mc ms ws0 P) (hd : decode cc pc = .ok (.areturn, 1)) {rt : FieldType} (hret : ret = some rt) (hrt : (∃ n, rt = .object n) ∨ ∃ t, rt = .array t) (hv : v = .null ∨ ∃ a, v = .ref a) (hP : P (some v) ws) (hk : k ≤ mc) (hn : n ≤ ms) : V X k n ws L ([v]) pc := by
  obtain ⟨p, l, e, R, s, m, args, below, meth, c, nL, G, A, Q⟩ := X
  obtain ⟨hx, hb, hown, hts, hK, hA, hlk, hml, hR, hsf, hNw⟩ := hX
  obtain ⟨hr, rfl, hQ⟩ := hE
  intro H locs ls hP1 hD hS hl
  refine hQ H locs k n _ (W.widen hk hn ?_)
  exact W.aret hx hb (hr.trans hret) hrt hv (fun t ht hW => ⟨⟨_, ws, rfl, hP, by rw [ht]; exact hP1, va_K.moved hW.alike hK, hD⟩, hS.F ht⟩) hS.2.2 hd hlk
theorem r_dreturn {v : UInt64} (hX : Ok SF X cc own d mc ms) {ret : Option FieldType} (hE : Ends X ret mc ms ws0 P) (hd : decode cc pc = .ok (.dreturn, 1)) (hret : ret = some .double) (hP : P (some (.double v)) ws) (hk : k ≤ mc) (hn : n ≤ ms) : V X k n ws L ([.double v]) pc := by
  obtain ⟨p, l, e, R, s, m, args, below, meth, c, nL, G, A, Q⟩ := X
  obtain ⟨hx, hb, hown, hts, hK, hA, hlk, hml, hR, hsf, hNw⟩ := hX
  obtain ⟨hr, rfl, hQ⟩ := hE
  intro H locs ls hP1 hD hS hl
  refine hQ H locs k n _ (W.widen hk hn ?_)
  exact W.dret hx hb (hr.trans hret) (fun t ht hW => ⟨⟨_, ws, rfl, hP, by rw [ht]; exact hP1, va_K.moved hW.alike hK, hD⟩, hS.F ht⟩) hS.2.2 hd hlk
theorem r_freturn {v : UInt32} (hX : Ok SF X cc own d mc ms) {ret : Option FieldType} (hE : Ends X ret mc ms ws0 P) (hd : decode cc pc = .ok (.freturn, 1)) (hret : ret = some .float) (hP : P (some (.float v)) ws) (hk : k ≤ mc) (hn : n ≤ ms) : V X k n ws L ([.float v]) pc := by
  obtain ⟨p, l, e, R, s, m, args, below, meth, c, nL, G, A, Q⟩ := X
  obtain ⟨hx, hb, hown, hts, hK, hA, hlk, hml, hR, hsf, hNw⟩ := hX
  obtain ⟨hr, rfl, hQ⟩ := hE
  intro H locs ls hP1 hD hS hl
  refine hQ H locs k n _ (W.widen hk hn ?_)
  exact W.fret hx hb (hr.trans hret) (fun t ht hW => ⟨⟨_, ws, rfl, hP, by rw [ht]; exact hP1, va_K.moved hW.alike hK, hD⟩, hS.F ht⟩) hS.2.2 hd hlk
end VENDS
/-! ===== calls ===== -/
theorem P_app {D : va_G} {a b : va_W} {H : Heap} : va_P D vwCl (a ++ b) H ↔ va_P D vwCl a H ∧ va_P D vwCl b H := by
  constructor
  · intro h
    refine ⟨fun k q hq => h k q ?_, fun k q hq => h (a.length + k) q ?_⟩
    · rw [List.getElem?_append_left (List.getElem?_eq_some_iff.mp hq).1]
      exact hq
    · rw [List.getElem?_append_right (by omega), show a.length + k - a.length = k by omega]
      exact hq
  · exact fun h => h.1.app h.2
theorem D_left {A : Nat → Prop} {a b : va_W} (h : va_D A (a ++ b)) : va_D A a := by
  have e : ∀ (k : Nat) (q : Nat × va_E), a[k]? = some q → (a ++ b)[k]? = some q := fun k q hq => by
    rw [List.getElem?_append_left (List.getElem?_eq_some_iff.mp hq).1]
    exact hq
  exact ⟨fun i j p q hp hq hpq => h.1 i j p q (e i p hp) (e j q hq) hpq, fun k q hq => h.2 k q (e k q hq)⟩
theorem D_right {A : Nat → Prop} {a b : va_W} (h : va_D A (a ++ b)) : va_D A b := by
  have e : ∀ (k : Nat) (q : Nat × va_E), b[k]? = some q → (a ++ b)[a.length + k]? = some q := fun k q hq => by
    rw [List.getElem?_append_right (by omega), show a.length + k - a.length = k by omega]
    exact hq
  exact ⟨fun i j p q hp hq hpq => by have := h.1 _ _ p q (e i p hp) (e j q hq) hpq; omega, fun k q hq => h.2 _ q (e k q hq)⟩
theorem D_sep {A : Nat → Prop} {a b : va_W} (h : va_D A (a ++ b)) {i j : Nat} {p q : Nat × va_E} (hp : a[i]? = some p) (hq : b[j]? = some q) : p.1 ≠ q.1 := by
  intro e
  have hi := (List.getElem?_eq_some_iff.mp hp).1
  have := h.1 i (a.length + j) p q (by rw [List.getElem?_append_left hi]; exact hp) (by rw [List.getElem?_append_right (by omega), show a.length + j - a.length = j by omega]; exact hq) e
  omega
/-- behind a call: the callee's world, then the caller's other cells -/
theorem join_app {A0 : Nat → Prop} {D : va_G} {wc wr w1 : va_W} {H H1 : Heap} (hP : va_P D vwCl (wc ++ wr) H) (hD : va_D A0 (wc ++ wr))
    (hk : ∀ q : Nat, q < H.size → ¬ va_A wc H.size q → H1[q]? = H[q]?) (hF : ∀ q, va_A wc H.size q → A0 q) (hP1 : va_P D vwCl w1 H1) (hD1 : va_D (va_A wc H.size) w1) : va_P D vwCl (w1 ++ wr) H1 ∧ va_D A0 (w1 ++ wr) := by
  have hPr := (P_app.mp hP).2
  have apart : ∀ (k : Nat) (q : Nat × va_E), wr[k]? = some q → q.1 < H.size ∧ ¬ va_A wc H.size q.1 := by
    intro k q hq
    have hl := (hPr k q hq).lt
    refine ⟨hl, fun h => ?_⟩
    rcases h with ⟨k2, e, h⟩ | h
    · exact D_sep hD h hq rfl
    · omega
  refine ⟨hP1.app (hPr.kept (fun k q hq => hk q.1 (apart k q hq).1 (apart k q hq).2)), va_D.app (hD1.weaken (fun k q _ h => hF q.1 h)) (D_right hD) (fun i j x y hx hy hxy => ?_)⟩
  exact (apart j y hy).2 (by rw [← hxy]; exact hD1.2 i x hx)
theorem free_app {A0 : Nat → Prop} {wc wr : va_W} {H0 H : Heap} {locs : List Loc} (hD : va_D A0 (wc ++ wr)) (hS : va_S A0 H0 H locs) (hA : ∀ q, H0.size ≤ q → A0 q) : ∀ q, va_A wc H.size q → A0 q := by
  intro q h
  rcases h with ⟨k, e, h⟩ | h
  · exact (D_left hD).2 k (q, e) h
  · exact hA q (Nat.le_trans hS.1 h)
/-- what a call is, for one run of the caller: the callee's Met at its room, from this stack -/
def Run1 (X : xC) (mc' ms' : Nat) (G : xG) (wc : va_W) (av : List Value) (P : Option Value → va_W → Prop) (st0 rest : List Value) (L : List (Option Value)) (k n pc : Nat) : Prop := match X with
  | (p, l, e, R, s, m, args, below, meth, c, nL, _, A, _) => ∀ (H : Heap) (locs : List Loc) (ls : Array Slot), va_S A s.heap H locs → va_P G.1 vwCl wc H → va_D (fun _ => True) wc → (∀ q, va_A wc H.size q → A q) → lo_has ls nL L →
    va_Run p l e R s m args below meth c H locs k n mc' ms' (F0 m pc ls st0) rest (QG G wc H.size P av.toArray) (va_A wc H.size)
def Run1X (X : xC) (mc' ms' : Nat) (G : xG) (wc : va_W) (av : List Value) (P : Option Value → va_W → Prop) (PX : String → va_W → Prop) (st0 rest : List Value) (L : List (Option Value)) (k n pc : Nat) : Prop := match X with
  | (p, l, e, R, s, m, args, below, meth, c, nL, _, A, _) => ∀ (H : Heap) (locs : List Loc) (ls : Array Slot), va_S A s.heap H locs → va_P G.1 vwCl wc H → va_D (fun _ => True) wc → (∀ q, va_A wc H.size q → A q) → lo_has ls nL L →
    vx_Run p l e R s m args below meth c H locs k n mc' ms' (F0 m pc ls st0) rest (QG G wc H.size P av.toArray) (XG G wc H.size PX) (va_A wc H.size)
/-- a run in which an exception of class E is on its way, at pc -/
def VX (X : xC) (k n : Nat) (ws : va_W) (L : List (Option Value)) (st : List Value) (pc : Nat) (E : String) : Prop := match X with
  | (p, l, e, R, s, m, args, below, meth, c, nL, G, A, Q) => ∀ (H : Heap) (locs : List Loc) (ls : Array Slot) (q9 : Nat) (ce : Cell), va_P G.1 vwCl ws H → va_D A ws → va_S A s.heap H locs → lo_has ls nL L → H[q9]? = some ce → ce.vm = .none → s.vm.findClass E = some ce.cls → vx_W p l e R s m args below meth c H locs k n Q (F0 m pc ls st) q9
/-- the launch -/
def c0_l (X : xC) : Launch := X.2.1
section VCALLS
variable {X : xC} {cc : ByteArray} {own : String} {d mc ms : Nat} {k n : Nat} {ws ws0 wc wr : va_W} {L : List (Option Value)} {st0 rest : List Value} {pc pc' : Nat} {P : Option Value → va_W → Prop} {PX : String → va_W → Prop}
theorem V_call {mc' ms' k' n' : Nat} {av : List Value} (hX : Ok SF X cc own d mc ms) (hr : Run1 X mc' ms' (c0_G X) wc av P st0 rest L k n pc) (hperm : ws.Perm (wc ++ wr)) (hk : k + mc' = k') (hn : n + ms' = n') (hp : pc + 3 = pc')
    (cont : ∀ v u, P v u → V X k' n' (u ++ wr) L (v.toList ++ rest) pc') : V X k n ws L st0 pc := by
  refine V_perm hperm ?_
  obtain ⟨p, l, e, R, s, m, args, below, meth, c, nL, G, A, Q⟩ := X
  obtain ⟨hx, hb, hown, hts, hK, hA, hlk, hml, hR, hsf, hNw⟩ := hX
  subst hk hn hp
  intro H locs ls hP hD hS hl T hT X1
  have hF := free_app hD hS hA
  obtain ⟨v, st₀, t, T', L9, h0, X', hL, e1, e2, ⟨⟨v', u, hv, hp, hb9⟩, hz, hk9⟩, st⟩ := hr H locs ls hS (P_app.mp hP).1 ((D_left hD).weaken (fun _ _ _ _ => trivial)) hF hl T hT X1
  cases hv
  rw [h0] at hz hk9
  obtain ⟨hP1, hK1, hD1⟩ := hb9
  rw [← e1] at hP1
  obtain ⟨hPn, hDn⟩ := join_app (H1 := T'.heap) hP hD (fun q h1 h2 => by rw [e1]; exact hk9 q h1 h2) hF hP1 hD1
  obtain ⟨t2, a1, b1⟩ := cont v u hp T'.heap (locs ++ L9) ls hPn hDn ⟨Nat.le_trans hS.1 (by rw [e1]; exact hz), fun q h1 h2 => by
      rw [e1, hk9 q (Nat.lt_of_lt_of_le h1 hS.1) (fun z => h2 (hF q z))]
      exact hS.2.1 q h1 h2, fun q hq => by
      rcases List.mem_append.mp hq with h | h
      · exact hS.2.2 q h
      · exact hF _ (hL q h)⟩ hl T' rfl X'
  exact ⟨t2, st t2 a1, b1⟩
theorem V_callX {mc' ms' k' n' : Nat} {av : List Value} (hX : Ok SF X cc own d mc ms) (hr : Run1X X mc' ms' (c0_G X) wc av P PX st0 rest L k n pc) (hperm : ws.Perm (wc ++ wr)) (hk : k + mc' = k') (hn : n + ms' = n') (hp : pc + 3 = pc')
    (cont : ∀ v u, P v u → V X k' n' (u ++ wr) L (v.toList ++ rest) pc') (contX : ∀ E u, PX E u → VX X k' n' (u ++ wr) L rest pc E) : V X k n ws L st0 pc := by
  refine V_perm hperm ?_
  obtain ⟨p, l, e, R, s, m, args, below, meth, c, nL, G, A, Q⟩ := X
  obtain ⟨hx, hb, hown, hts, hK, hA, hlk, hml, hR, hsf, hNw⟩ := hX
  subst hk hn hp
  intro H locs ls hP hD hS hl T hT X1
  have hF := free_app hD hS hA
  rcases hr H locs ls hS (P_app.mp hP).1 ((D_left hD).weaken (fun _ _ _ _ => trivial)) hF hl T hT X1 with ⟨v, st₀, t, T', L9, h0, X', hL, e1, e2, ⟨⟨v', u, hv, hp, hb9⟩, hz, hk9⟩, st⟩ | ⟨q, st₀, t, T', L9, E, ce, h0, X', hL, e1, e2, ⟨⟨u, hp, hb9⟩, hz, hk9⟩, hce, hcv, hcl, st⟩
  · cases hv
    rw [h0] at hz hk9
    obtain ⟨hP1, hK1, hD1⟩ := hb9
    rw [← e1] at hP1
    obtain ⟨hPn, hDn⟩ := join_app (H1 := T'.heap) hP hD (fun q h1 h2 => by rw [e1]; exact hk9 q h1 h2) hF hP1 hD1
    obtain ⟨t2, a1, b1⟩ := cont v u hp T'.heap (locs ++ L9) ls hPn hDn ⟨Nat.le_trans hS.1 (by rw [e1]; exact hz), fun q h1 h2 => by
        rw [e1, hk9 q (Nat.lt_of_lt_of_le h1 hS.1) (fun z => h2 (hF q z))]
        exact hS.2.1 q h1 h2, fun q hq => by
        rcases List.mem_append.mp hq with h | h
        · exact hS.2.2 q h
        · exact hF _ (hL q h)⟩ hl T' rfl X'
    exact ⟨t2, st t2 a1, b1⟩
  · rw [h0] at hz hk9
    obtain ⟨hP1, hK1, hD1⟩ := hb9
    rw [← e1] at hP1
    obtain ⟨hPn, hDn⟩ := join_app (H1 := T'.heap) hP hD (fun q h1 h2 => by rw [e1]; exact hk9 q h1 h2) hF hP1 hD1
    obtain ⟨t2, a1, b1⟩ := contX E u hp T'.heap (locs ++ L9) ls q ce hPn hDn ⟨Nat.le_trans hS.1 (by rw [e1]; exact hz), fun q h1 h2 => by
        rw [e1, hk9 q (Nat.lt_of_lt_of_le h1 hS.1) (fun z => h2 (hF q z))]
        exact hS.2.1 q h1 h2, fun q hq => by
        rcases List.mem_append.mp hq with h | h
        · exact hS.2.2 q h
        · exact hF _ (hL q h)⟩ hl (by rw [e1]; exact hce) hcv hcl T' rfl X'
    exact ⟨t2, st.trans a1, b1⟩
/-- an exception leaves a method without a table -/
theorem VX_out {E : String} (hX : Ok SF X cc own d mc ms) (hO : Outs X mc ms ws0 PX) (hP : PX E ws) (hk : k ≤ mc) (hn : n ≤ ms) : VX X k n ws L rest pc E := by
  obtain ⟨p, l, e, R, s, m, args, below, meth, c, nL, G, A, Q⟩ := X
  obtain ⟨hx, hb, hown, hts, hK, hA, hlk, hml, hR, hsf, hNw⟩ := hX
  obtain ⟨hst, hT, rfl, Qc, rfl⟩ := hO
  intro H locs ls q9 ce hP1 hD hS hl h1 h2 h3
  exact vx_out (by rw [hT]; exact fun x hx => nomatch hx) hlk h1 h2 h3 (fun t ht hal => ⟨⟨ws, hP, by rw [ht]; exact hP1, va_K.moved hal hK, hD⟩, hS.F ht⟩) hS.2.2 hk hn

/-- how a virtual call of y links, by pool entry index of class own, with y's code -/
def KV (own : String) (index : Nat) (C : String) (y : MethodName) (cc : ByteArray) (maxL : Nat) (ret : Option FieldType) (na : Nat) : Prop := GoodIn T0 (wsV own index C y (wO y cc maxL ret)) ∧ y.cls = C ∧ y.cls ≠ "java/lang/invoke/MethodHandle" ∧ y.cls ≠ "java/lang/invoke/VarHandle" ∧ (parseMethodDescriptor y.desc).map (fun d => d.parameters.length) = some na
def KS (own : String) (index : Nat) (y : MethodName) (cc : ByteArray) (maxL : Nat) (ret : Option FieldType) (na : Nat) : Prop := GoodIn T0 (va_wsS own index y (wO y cc maxL ret)) ∧ y.cls ≠ "java/lang/invoke/MethodHandle" ∧ y.cls ≠ "java/lang/invoke/VarHandle" ∧ (parseMethodDescriptor y.desc).map (fun d => d.parameters.length) = some na
def KI (own : String) (index : Nat) (y : MethodName) (cc : ByteArray) (maxL : Nat) (na : Nat) : Prop := GoodIn T0 (wO y cc maxL none) ∧ Cond.initialized y.cls ∈ T0 ∧ Cond.methodLink own index y ∈ T0 ∧ Cond.instanceMethod y ∈ T0 ∧ y.name = "<init>" ∧ y.cls ≠ "java/lang/invoke/MethodHandle" ∧ y.cls ≠ "java/lang/invoke/VarHandle" ∧ (parseMethodDescriptor y.desc).map (fun d => d.parameters.length) = some na
theorem gT0 {a : List Cond} (h : ∀ w ∈ a, w ∈ T0) : GoodIn T0 a := fun w hw => T0_good w (h w hw)
theorem gO {y : MethodName} {cc : ByteArray} {maxL : Nat} {ret : Option FieldType} (h : Cond.code y cc maxL ret ∈ T0) : ∀ w ∈ wO y cc maxL ret, w ∈ T0 := fun w hw => by
  rcases List.mem_cons.mp hw with rfl | hw
  · exact h
  · exact hw
theorem KV_of {own : String} {index : Nat} {C : String} {y : MethodName} {cc : ByteArray} {maxL : Nat} {ret : Option FieldType} {na : Nat} (h1 : Cond.methodLink own index y ∈ T0) (h2 : Cond.instanceMethod y ∈ T0) (h3 : Cond.selects C y y ∈ T0) (h4 : Cond.initialized C ∈ T0) (h5 : Cond.code y cc maxL ret ∈ T0) (h6 : y.cls = C ∧ y.cls ≠ "java/lang/invoke/MethodHandle" ∧ y.cls ≠ "java/lang/invoke/VarHandle" ∧ (parseMethodDescriptor y.desc).map (fun d => d.parameters.length) = some na) : KV own index C y cc maxL ret na :=
  ⟨gT0 (fun w hw => by
    rcases List.mem_append.mp hw with h | h
    · simp only [List.mem_cons, List.not_mem_nil, or_false] at h
      rcases h with rfl | rfl | rfl | rfl <;> assumption
    · exact gO h5 w h), h6⟩
theorem KS_of {own : String} {index : Nat} {y : MethodName} {cc : ByteArray} {maxL : Nat} {ret : Option FieldType} {na : Nat} (h1 : Cond.methodLink own index y ∈ T0) (h2 : Cond.static y ∈ T0) (h4 : Cond.initialized y.cls ∈ T0) (h5 : Cond.code y cc maxL ret ∈ T0) (h6 : y.cls ≠ "java/lang/invoke/MethodHandle" ∧ y.cls ≠ "java/lang/invoke/VarHandle" ∧ (parseMethodDescriptor y.desc).map (fun d => d.parameters.length) = some na) : KS own index y cc maxL ret na :=
  ⟨gT0 (fun w hw => by
    rcases List.mem_append.mp hw with h | h
    · simp only [List.mem_cons, List.not_mem_nil, or_false] at h
      rcases h with rfl | rfl | rfl <;> assumption
    · exact gO h5 w h), h6⟩
theorem KI_of {own : String} {index : Nat} {y : MethodName} {cc : ByteArray} {maxL : Nat} {na : Nat} (h1 : Cond.methodLink own index y ∈ T0) (h2 : Cond.instanceMethod y ∈ T0) (h4 : Cond.initialized y.cls ∈ T0) (h5 : Cond.code y cc maxL none ∈ T0) (h6 : y.name = "<init>" ∧ y.cls ≠ "java/lang/invoke/MethodHandle" ∧ y.cls ≠ "java/lang/invoke/VarHandle" ∧ (parseMethodDescriptor y.desc).map (fun d => d.parameters.length) = some na) : KI own index y cc maxL na := ⟨gT0 (gO h5), h4, h1, h2, h6⟩

theorem r_runV {C : String} {b : Nat} {index na maxL d9 mc' ms' : Nat} {y : MethodName} {cb : ByteArray} {ret : Option FieldType} {As : List Value} {G : xG} (hX : Ok SF X cc own d mc ms) (hd : decode cc pc = .ok (.invokevirtual index, 3)) (hKk : KV own index C y cb maxL ret na) (hM : ∀ l, c0_l X = l → MG l y cb maxL ret d9 mc' ms' G (.ref b :: As) wc P) (hG9 : c0_G X = G) (hrecv : ∃ (ci : Nat) (fs : List Value) (T : u_T) (N : Nat), (b, Sum.inr (ci, fs)) ∈ wc ∧ vwCl[ci]? = some (C, T, N)) (hna : As.length = na) (hst : st0 = As.reverse ++ .ref b :: rest) (hrm : (rest.map fun v => v.category).sum ≤ 8) (hd9 : d9 < d) (hmL : maxL ≤ 21) (hk9 : k + mc' ≤ mc) (hn9 : n + ms' ≤ ms) : Run1 X mc' ms' (c0_G X) wc (.ref b :: As) P st0 rest L k n pc := by
  subst hst
  have hM := hM _ rfl
  obtain ⟨p, l, e, R, s, m, args, below, meth, c, nL, G, A, Q⟩ := X
  obtain ⟨hx, hb, hown, hts, hK, hA, hlk, hml, hR, hsf, hNw⟩ := hX
  cases hG9
  obtain ⟨hG, hy⟩ := hKk
  intro H locs ls hS hP hD hF hl
  have hts0 : ∀ w ∈ T0, w.before args s = true := hts
  refine va_runV (cc := cc) (nL := nL) (As := As) (rest := rest) ⟨hx, hb, hml, hown, hts0⟩ (hM H.size) (cwV na hts0 hG rfl rfl rfl hy ⟨by show d9 + 1 ≤ R.frames; omega, by show 8 + (maxL + 11) + 40 * d9 ≤ R.locals; omega⟩) ⟨PreW_blind, ?_, fun U hU hW => ⟨rfl, by rw [hU], by rw [hU]; exact hP, va_K.moved hW.alike hK, hD, hsf.go hS hU hW hF, N0_warm hW hNw⟩⟩ rfl hna hl.1 rfl (lv_room hrm) hd ⟨Nat.le_trans hk9 hR.2.2.1, Nat.le_trans hn9 hR.2.2.2⟩
  obtain ⟨ci, fs, T, N, hb1, hb2⟩ := hrecv
  obtain ⟨q0, hq0⟩ := List.getElem?_of_mem hb1
  exact va_recv hK hP hb2 hq0
theorem r_runS {index na maxL d9 mc' ms' : Nat} {y : MethodName} {cb : ByteArray} {ret : Option FieldType} {As : List Value} {G : xG} (hX : Ok SF X cc own d mc ms) (hd : decode cc pc = .ok (.invokestatic index, 3)) (hKk : KS own index y cb maxL ret na) (hM : ∀ l, c0_l X = l → MG l y cb maxL ret d9 mc' ms' G As wc P) (hG9 : c0_G X = G) (hna : As.length = na) (hst : st0 = As.reverse ++ rest) (hrm : (rest.map fun v => v.category).sum ≤ 8) (hd9 : d9 < d) (hmL : maxL ≤ 21) (hk9 : k + mc' ≤ mc) (hn9 : n + ms' ≤ ms) : Run1 X mc' ms' (c0_G X) wc As P st0 rest L k n pc := by
  subst hst
  have hM := hM _ rfl
  obtain ⟨p, l, e, R, s, m, args, below, meth, c, nL, G, A, Q⟩ := X
  obtain ⟨hx, hb, hown, hts, hK, hA, hlk, hml, hR, hsf, hNw⟩ := hX
  cases hG9
  obtain ⟨hG, hy⟩ := hKk
  intro H locs ls hS hP hD hF hl
  have hts0 : ∀ w ∈ T0, w.before args s = true := hts
  refine va_runS (cc := cc) (nL := nL) (As := As) (rest := rest) ⟨hx, hb, hml, hown, hts0⟩ (hM H.size) (va_cwS na hts0 hG rfl rfl rfl hy ⟨by show d9 + 1 ≤ R.frames; omega, by show 8 + (maxL + 11) + 40 * d9 ≤ R.locals; omega⟩) ⟨PreW_blind, fun U hU hW => ⟨rfl, by rw [hU], by rw [hU]; exact hP, va_K.moved hW.alike hK, hD, hsf.go hS hU hW hF, N0_warm hW hNw⟩⟩ rfl hna hl.1 rfl (lv_room hrm) hd ⟨Nat.le_trans hk9 hR.2.2.1, Nat.le_trans hn9 hR.2.2.2⟩
theorem r_runI {b : Nat} {index na maxL d9 mc' ms' : Nat} {y : MethodName} {cb : ByteArray} {ret : Option FieldType} {As : List Value} {G : xG} (hX : Ok SF X cc own d mc ms) (hd : decode cc pc = .ok (.invokespecial index, 3)) (hKk : KI own index y cb maxL na) (hM : ∀ l, c0_l X = l → MG l y cb maxL none d9 mc' ms' G (.ref b :: As) wc P) (hG9 : c0_G X = G) (hna : As.length = na) (hst : st0 = As.reverse ++ .ref b :: rest) (hrm : (rest.map fun v => v.category).sum ≤ 8) (hd9 : d9 < d) (hmL : maxL ≤ 21) (hk9 : k + mc' ≤ mc) (hn9 : n + ms' ≤ ms) : Run1 X mc' ms' (c0_G X) wc (.ref b :: As) P st0 rest L k n pc := by
  subst hst
  have hM := hM _ rfl
  obtain ⟨p, l, e, R, s, m, args, below, meth, c, nL, G, A, Q⟩ := X
  obtain ⟨hx, hb, hown, hts, hK, hA, hlk, hml, hR, hsf, hNw⟩ := hX
  cases hG9
  obtain ⟨hG, h1, h2, h3, h4, hy⟩ := hKk
  intro H locs ls hS hP hD hF hl
  have hts0 : ∀ w ∈ T0, w.before args s = true := hts
  refine va_runI (cc := cc) (nL := nL) (As := As) (rest := rest) ⟨hx, hb, hml, hown, hts0⟩ (hM H.size) (cwI na hts0 hG rfl rfl rfl (hts0 _ h1) (hts0 _ h2) (hts0 _ h3) h4 hy ⟨by show d9 + 1 ≤ R.frames; omega, by show 8 + (maxL + 11) + 40 * d9 ≤ R.locals; omega⟩) ⟨PreW_blind, fun U hU hW => ⟨rfl, by rw [hU], by rw [hU]; exact hP, va_K.moved hW.alike hK, hD, hsf.go hS hU hW hF, N0_warm hW hNw⟩⟩ rfl hna hl.1 rfl (lv_room hrm) hd ⟨Nat.le_trans hk9 hR.2.2.1, Nat.le_trans hn9 hR.2.2.2⟩
theorem r_runVX {C : String} {b : Nat} {PX : String → va_W → Prop} {index na maxL d9 mc' ms' : Nat} {y : MethodName} {cb : ByteArray} {ret : Option FieldType} {As : List Value} {G : xG} (hX : Ok SF X cc own d mc ms) (hd : decode cc pc = .ok (.invokevirtual index, 3)) (hKk : KV own index C y cb maxL ret na) (hM : ∀ l, c0_l X = l → MX l y cb maxL ret d9 mc' ms' G (.ref b :: As) wc P PX) (hG9 : c0_G X = G) (hrecv : ∃ (ci : Nat) (fs : List Value) (T : u_T) (N : Nat), (b, Sum.inr (ci, fs)) ∈ wc ∧ vwCl[ci]? = some (C, T, N)) (hna : As.length = na) (hst : st0 = As.reverse ++ .ref b :: rest) (hrm : (rest.map fun v => v.category).sum ≤ 8) (hd9 : d9 < d) (hmL : maxL ≤ 21) (hk9 : k + mc' ≤ mc) (hn9 : n + ms' ≤ ms) : Run1X X mc' ms' (c0_G X) wc (.ref b :: As) P PX st0 rest L k n pc := by
  subst hst
  have hM := hM _ rfl
  obtain ⟨p, l, e, R, s, m, args, below, meth, c, nL, G, A, Q⟩ := X
  obtain ⟨hx, hb, hown, hts, hK, hA, hlk, hml, hR, hsf, hNw⟩ := hX
  cases hG9
  obtain ⟨hG, hy⟩ := hKk
  intro H locs ls hS hP hD hF hl
  have hts0 : ∀ w ∈ T0, w.before args s = true := hts
  refine vx_runV (cc := cc) (nL := nL) (As := As) (rest := rest) ⟨hx, hb, hml, hown, hts0⟩ (hM H.size) (cwV na hts0 hG rfl rfl rfl hy ⟨by show d9 + 1 ≤ R.frames; omega, by show 8 + (maxL + 11) + 40 * d9 ≤ R.locals; omega⟩) ⟨PreW_blind, ?_, fun U hU hW => ⟨rfl, by rw [hU], by rw [hU]; exact hP, va_K.moved hW.alike hK, hD, hsf.go hS hU hW hF, N0_warm hW hNw⟩⟩ rfl hna hl.1 rfl (lv_room hrm) hd ⟨Nat.le_trans hk9 hR.2.2.1, Nat.le_trans hn9 hR.2.2.2⟩
  obtain ⟨ci, fs, T, N, hb1, hb2⟩ := hrecv
  obtain ⟨q0, hq0⟩ := List.getElem?_of_mem hb1
  exact va_recv hK hP hb2 hq0
theorem r_runSX {PX : String → va_W → Prop} {index na maxL d9 mc' ms' : Nat} {y : MethodName} {cb : ByteArray} {ret : Option FieldType} {As : List Value} {G : xG} (hX : Ok SF X cc own d mc ms) (hd : decode cc pc = .ok (.invokestatic index, 3)) (hKk : KS own index y cb maxL ret na) (hM : ∀ l, c0_l X = l → MX l y cb maxL ret d9 mc' ms' G As wc P PX) (hG9 : c0_G X = G) (hna : As.length = na) (hst : st0 = As.reverse ++ rest) (hrm : (rest.map fun v => v.category).sum ≤ 8) (hd9 : d9 < d) (hmL : maxL ≤ 21) (hk9 : k + mc' ≤ mc) (hn9 : n + ms' ≤ ms) : Run1X X mc' ms' (c0_G X) wc As P PX st0 rest L k n pc := by
  subst hst
  have hM := hM _ rfl
  obtain ⟨p, l, e, R, s, m, args, below, meth, c, nL, G, A, Q⟩ := X
  obtain ⟨hx, hb, hown, hts, hK, hA, hlk, hml, hR, hsf, hNw⟩ := hX
  cases hG9
  obtain ⟨hG, hy⟩ := hKk
  intro H locs ls hS hP hD hF hl
  have hts0 : ∀ w ∈ T0, w.before args s = true := hts
  refine vx_runS (cc := cc) (nL := nL) (As := As) (rest := rest) ⟨hx, hb, hml, hown, hts0⟩ (hM H.size) (va_cwS na hts0 hG rfl rfl rfl hy ⟨by show d9 + 1 ≤ R.frames; omega, by show 8 + (maxL + 11) + 40 * d9 ≤ R.locals; omega⟩) ⟨PreW_blind, fun U hU hW => ⟨rfl, by rw [hU], by rw [hU]; exact hP, va_K.moved hW.alike hK, hD, hsf.go hS hU hW hF, N0_warm hW hNw⟩⟩ rfl hna hl.1 rfl (lv_room hrm) hd ⟨Nat.le_trans hk9 hR.2.2.1, Nat.le_trans hn9 hR.2.2.2⟩
end VCALLS
end
section
/-! ===== 'throw new E("text")' where E's constructor calls its superclass's by any pool index (the kit's vx_throwS: 7 alone; NoSuchElementException: 13) ===== -/
section XSA
variable {p : Program} {l : Launch} {e : Env} {R : Room} {s : State} {m₀ : MethodId} {args : Array Value} {below : List Frame} {meth : Method} {c : Code} {W : State} {locs : List Loc} {cells slots : Nat}
set_option maxHeartbeats 1000000 in
theorem xs_ctorThrow (X : Stand p l e R s m₀ args below meth c W locs cells slots) (hexec : p.tables.exec = Jvm.exec) (htr : e.platform.stackTraces = false) {own cls : String} {names : List String} {ic ix : Nat} {rx : ByteArray} (x0 : decode rx 0 = .ok (.aload_n 0, 1)) (x1 : decode rx 1 = .ok (.aload_n 1, 1)) (x2 : decode rx 2 = .ok (.invokespecial ix, 3)) (x5 : decode rx 5 = .ok (.return_, 1))
    (hown : s.vm.findClass own = some m₀.cls) (hcls : Bundle.fit cls = true) (hnames : ∀ n ∈ names, Bundle.fit n = true)
    (h : ∀ a ∈ Bundle.ownAtomsX own ic cls ix rx names, a.before args s = true)
    (hlocs : ∀ x ∈ locs, ∀ cell, s.heap[x.base]? = some cell → cell.vm.isStatics = false)
    {a : Addr} {cX : ClassId} {kX : Class} (hfoundX : s.vm.findClass cls = some cX) (hkX : s.vm.classes[cX]? = some kX) (hcell : W.heap[a]? = some (freshCell cX kX)) (hnew : s.heap.size ≤ a)
    {msg : Value} (hmsg : msg.isRef = true)
    {g : JFrame} (hg : g.method = m₀) (hsize : g.locals.size = c.maxLocals) (hlocked : g.locked = none) (hentered : g.entered = []) {rest : List Value} (hstack : g.stack = msg :: .ref a :: .ref a :: rest)
    (hd6 : decode c.code g.pc = .ok (.invokespecial ic, 3)) (hd9 : decode c.code (g.pc + 3) = .ok (.athrow, 1)) (hout : ∀ x ∈ c.exceptionTable.toList, covers x (g.pc + 3) = false)
    (hRframes : names.length + 3 < R.frames) (hRlocals : 2 * g.monitorRoom + ((Value.ref a :: rest).map fun v => v.category).sum + (13 * (names.length + 1) + 42) ≤ R.locals) (hlocks : meth.locks = false := by first | assumption | exact BodyLoose.notSynchronized (by assumption) | exact Body.notSynchronized (by assumption)) :
    ∃ U : State, Steps p.tables e below (W.setTop g) U ∧ U.status = .running ∧ Ended U below (.threw a) ∧ s.WarmedH U.vm ∧ s.sameButNew ({ U with vm := s.vm } : State) locs cells slots ∧
      ∃ ce, U.heap[a]? = some ce ∧ s.vm.findClass cls = some ce.cls ∧ ce.vm = .none := by
  have howns : e.platform.frameOwnsMonitors = true := by rw [X.admits.platform]
  have hfin : e.platform.finalization = false := by rw [X.admits.platform]
  have hpl : e.platform.magicAccessors = ({} : Platform).magicAccessors := by rw [X.admits.platform]
  have a' : ∀ x, x ∈ Bundle.ownAtomsX own ic cls ix rx names → x.holds args s none s [] = true := fun x hx => h x hx
  obtain ⟨T, Z0, L, -, Y⟩ := ThrowableC.of_atoms (args := args) howns hfin hpl (fun x hx => h x (by simp [Bundle.ownAtomsX, hx]))
  obtain ⟨Z, M, LZ, LM, hnZ⟩ := Init0T.ofS_atoms (args := args) hpl L Y (fun x hx => h x (by simp [Bundle.ownAtomsX, hx]))
  obtain ⟨P1, Ps, hlen, L1, hL, hP1m, hlink1, hlink⟩ := Bundle.chainSX (args := args) hpl hnZ x0 x1 x2 x5 names cls hcls hnames (fun x hx => h x (by simp [Bundle.ownAtomsX, hx]))
  have hfound : s.vm.findClass cls = some P1.m.cls := findClass_of_methodNamed hP1m
  cases Option.some.inj (hfoundX.symm.trans hfound)
  obtain ⟨c1, kX', hc1, hk, hord, -, -, hn6⟩ := Cond.instantiable_spec (a' (.instantiable cls 6) (by simp [Bundle.ownAtomsX]))
  cases Option.some.inj (hc1.symm.trans hfound)
  cases Option.some.inj (hkX.symm.trans hk)
  have hsel0 : selectMethod e.platform s.vm P1.m.cls T.fill0 = .method T.fill0 := by
    obtain ⟨c2, r2, m2, q1, q2, q3, q4, -⟩ := Cond.selects_spec (a' (.selects cls Bundle.tFill0 Bundle.tFill0) (by simp [Bundle.ownAtomsX]))
    cases Option.some.inj (q1.symm.trans hfound)
    cases Option.some.inj (q2.symm.trans (State.methodFound?_of_named Y.fill0 (by decide)))
    cases Option.some.inj (q3.symm.trans Y.fill0)
    rw [Launch.admits_selectMethod X.admits]; exact q4
  have hselF : selectMethod e.platform s.vm P1.m.cls T.fill = .method T.fill := by
    obtain ⟨c2, r2, m2, q1, q2, q3, q4, -⟩ := Cond.selects_spec (a' (.selects cls Bundle.tFill Bundle.tFill) (by simp [Bundle.ownAtomsX]))
    cases Option.some.inj (q1.symm.trans hfound)
    cases Option.some.inj (q2.symm.trans (State.methodFound?_of_named Y.fill (by decide)))
    cases Option.some.inj (q3.symm.trans Y.fill)
    rw [Launch.admits_selectMethod X.admits]; exact q4
  obtain ⟨cellS0, hcS0, hiss⟩ := Y.statics
  obtain ⟨u0, hu0⟩ := Cond.staticRefV Y.unassigned L.unassignedStatic L.statics hcS0 hiss (a' (.isRef (.static Bundle.tN "UNASSIGNED_STACK" Bundle.steD)) (by simp [Bundle.ownAtomsX]))
  obtain ⟨sen, hsen⟩ := Cond.staticRefV Y.sentinel L.sentinelStatic L.statics hcS0 hiss (a' (.isRef (.static Bundle.tN "SUPPRESSED_SENTINEL" Bundle.listD)) (by simp [Bundle.ownAtomsX]))
  obtain ⟨ci198, i198, fB, hk198, hg198, ha198, hsB, -, hnB, htB, hffB⟩ := Cond.ownField (t := .object "java/lang/Object") Y.found L.cls (by decide +kernel) (a' (.fieldLink Bundle.tN 198 Bundle.tN "backtrace" "Ljava/lang/Object;") (by simp [Bundle.ownAtomsX])) (a' (.lays Bundle.tN Bundle.tN "backtrace" "Ljava/lang/Object;") (by simp [Bundle.ownAtomsX])) e.platform hpl
  obtain ⟨cellS, hcS', heS, -, hkeep⟩ := X.same.2.2.2.2.2 T.aS cellS0 hcS0
  have hcellS : W.heap[T.aS]? = some cellS := hcS'
  have hout' : ∀ i, (⟨T.aS, i⟩ : Loc) ∉ locs := fun i hmem => by
    have := hlocs _ hmem cellS0 hcS0
    rw [hiss] at this; cases this
  have hknownS : cellS.vm ≠ .unknown := by
    rw [heS]; intro hu
    rw [show cellS0.vm = .unknown from hu] at hiss
    cases hiss
  have hneS : T.aS ≠ a := Nat.ne_of_lt (Nat.lt_of_lt_of_le (Array.getElem?_eq_some_iff.mp hcS0).1 hnew)
  obtain ⟨iM, hffM⟩ := Y.msg
  obtain ⟨tyC, dC, hdC, hdnC⟩ := Cond.laysAt hfound hk Y.cause (a' (.lays cls Bundle.tN "cause" "Ljava/lang/Throwable;") (by simp [Bundle.ownAtomsX]))
  obtain ⟨tyS, dS, hdS, hdnS⟩ := Cond.laysAt hfound hk Y.stack (a' (.lays cls Bundle.tN "stackTrace" Bundle.steD) (by simp [Bundle.ownAtomsX]))
  obtain ⟨tyP, dP, hdP, hdnP⟩ := Cond.laysAt hfound hk Y.supp (a' (.lays cls Bundle.tN "suppressedExceptions" Bundle.listD) (by simp [Bundle.ownAtomsX]))
  obtain ⟨tyM, dM, hdM, hdnM⟩ := Cond.laysAt hfound hk hffM (a' (.lays cls Bundle.tN "detailMessage" "Ljava/lang/String;") (by simp [Bundle.ownAtomsX]))
  obtain ⟨tyB, dB, hdB, hdnB⟩ := Cond.laysAt hfound hk hffB (a' (.lays cls Bundle.tN "backtrace" "Ljava/lang/Object;") (by simp [Bundle.ownAtomsX]))
  have bC := Cond.laysApart hdB hdC hdnB hdnC (by rw [hnB, Y.causeName]; decide)
  have bS := Cond.laysApart hdB hdS hdnB hdnS (by rw [hnB, Y.stackName]; decide)
  have bP := Cond.laysApart hdB hdP hdnB hdnP (by rw [hnB, Y.suppName]; decide)
  have hskip : SkipFacts T e.platform s (fun u => u) u0 ((preparedCellV T.toThrowableT (freshCell P1.m.cls kX) a u0 sen).withEntry W.cur) :=
    ⟨{ ci198 := ci198, i198 := i198, fBack := fB }, ⟨hk198, hg198, ha198, hsB⟩, by
      have := fresh_default (c := P1.m.cls) tyB
      rw [htB] at this
      simpa [preparedCellV, Cell.setSlot, Cell.withEntry, Array.getElem?_setIfInBounds, bC, bS, bP, bC.symm, bS.symm, bP.symm, defaultValue] using this, fun _ _ => rfl⟩
  obtain ⟨tm, methC, cdC, kC, vm₁, hnC, -, -, -, -, -, -, -, hW₁, st1⟩ := Steps.initColdS (tb := p.tables) (e := e) (below := below) (s := s) (U := W) X.here hexec X.warmed hpl hown (t := Bundle.initS cls) rfl rfl (Bundle.fit_spec hcls).2
    (a' (.methodLink own ic (Bundle.initS cls)) (by simp [Bundle.ownAtomsX])) (h (.instanceMethod (Bundle.initS cls)) (by cases names <;> simp [Bundle.ownAtomsX, Bundle.chainSAtomsX, Bundle.passSAtoms])) (bytes := rx) (maxL := 2) (h (.code (Bundle.initS cls) rx 2 none) (by cases names <;> simp [Bundle.ownAtomsX, Bundle.chainSAtomsX, Bundle.passSAtoms]))
    (f := g) hg (a := a) (msg := msg) (rest := .ref a :: rest) hstack hd6
  cases Option.some.inj (hnC.symm.trans hP1m)
  have X₁ := X.noted hW₁
  obtain ⟨vm₂, X₂, st2⟩ := X₁.ctorMessageOffV hexec (g := { g with stack := .ref a :: rest }) hg hsize T L Z LZ M LM (P1 :: Ps)
    (fun P hP => by rcases List.mem_cons.mp hP with rfl | hP; exact L1; exact hL P hP) ⟨hlink1, hlink⟩ (u0 := u0) (sen := sen) (self := a) hmsg (cell := freshCell P1.m.cls kX) (cellS := cellS)
    hcell (fun _ => by simp) (by simp) rfl rfl hsel0 hselF hcellS hneS hknownS (by rw [hkeep _ (hout' _)]; exact hu0) (by rw [hkeep _ (hout' _)]; exact hsen)
    (Takes.of_laid hk hord tyC (by rw [Y.causeType]; rfl)) (Takes.of_laid hk hord tyS (by rw [Y.stackType]; exact fits_refV_array _ u0)) (Takes.of_laid hk hord tyP (by rw [Y.suppType]; exact fits_refV_object _ sen))
    (Takes.of_laid hk hord tyM (by rw [Y.msgType]; exact fits_refV_object _ ⟨msg, hmsg⟩)) Y.objLocals hskip htr [] hd6
    (by simp only [List.length_cons, hlen]; omega) (by simp only [List.length_cons, hlen]; exact hRlocals)
  obtain ⟨hwalk, hrun, hended, hWU, hsame⟩ := X₂.athrowLeaves hexec (g := { g with stack := .ref a :: rest, pc := g.pc + 3 }) hg hlocked hentered hout (a := a) (rest := rest) rfl hd9
  obtain ⟨c3, c4, hc3, hc4, hasg⟩ := Cond.castable_spec (a' (.castable cls cls) (by simp [Bundle.ownAtomsX]))
  cases Option.some.inj (hc3.symm.trans hfound)
  cases Option.some.inj (hc4.symm.trans hfound)
  have hlt : a < ((W.setVm vm₁).setVm vm₂).heap.size := (Array.getElem?_eq_some_iff.mp hcell).1
  have hU := heapAt_setCell_self (s := (W.setVm vm₁).setVm vm₂) (plainBareV T.toThrowableT (freshCell P1.m.cls kX) a u0 sen msg) hlt
  refine ⟨_, st1 _ (fun acts => ?_), hrun, hended, hWU, hsame.weaken (fun y hy hlt' => ?_) (Nat.le_refl _) (Nat.le_refl _), _, hU, ?_⟩
  · rw [doInvoke_state]
    exact st2 _ hwalk
  · rcases List.mem_append.mp hy with h1 | h1
    · exact h1
    · exfalso
      have hb : y.base = a := by
        simp only [List.mem_cons, List.not_mem_nil, or_false] at h1
        rcases h1 with rfl | rfl | rfl | rfl | rfl <;> rfl
      rw [hb] at hlt'
      exact Nat.not_lt.mpr hnew hlt'
  · exact ⟨hfound, rfl⟩
end XSA
def xs_at (own : String) (ic : Nat) (X : String) (ix : Nat) (rx : ByteArray) (names : List String) : List Cond := (Bundle.ownAtomsX own ic X ix rx names).filter vx_no
section XSB
variable {p : Program} {l : Launch} {e : Env} {R : Room} {s : State} {m : MethodId} {args : Array Value} {below : List Frame} {meth : Method} {c : Code} {H : Heap} {locs : List Loc} {cells slots : Nat} {Qc : Array Value → State → Outcome → State → Prop} {XC : String → State → State → Prop} {free : Addr → Prop} {ls : Array Slot} {rest : List Value}
theorem xs_throw {cc : ByteArray} {pc : Nat} (hexec : p.tables.exec = Jvm.exec) (hb : c.code = cc) (hl : l.stackTraces = false) {own cls text : String} {names : List String} {ik is ic ix mc ms sa : Nat} {rx : ByteArray} (x0 : decode rx 0 = .ok (.aload_n 0, 1)) (x1 : decode rx 1 = .ok (.aload_n 1, 1)) (x2 : decode rx 2 = .ok (.invokespecial ix, 3)) (x5 : decode rx 5 = .ok (.return_, 1)) {A : Nat → Prop}
    (hown : s.vm.findClass own = some m.cls) (hcls : Bundle.fit cls = true) (hnames : ∀ n ∈ names, Bundle.fit n = true)
    (hk : (Cond.classLink own ik cls).before args s = true) (hini : (Cond.initialized cls).before args s = true) (hstr : vk_R own is text sa s) (hat : ∀ w ∈ xs_at own ic cls ix rx names, w.before args s = true)
    (hgood : ∀ w ∈ Cond.classLink own ik cls :: Cond.initialized cls :: xs_at own ic cls ix rx names, vx_ot w = true)
    (hU : vx_Zq Bundle.tN "UNASSIGNED_STACK" Bundle.steD A s s.heap) (hN : vx_Zq Bundle.tN "SUPPRESSED_SENTINEL" Bundle.listD A s s.heap) (hS : va_S A s.heap H locs) (hsize : ls.size = c.maxLocals)
    (d0 : decode cc pc = .ok (.new ik, 3)) (d3 : decode cc (pc + 3) = .ok (.dup, 1)) (d4 : decode cc (pc + 4) = .ok (.ldc is, 2)) (d6 : decode cc (pc + 6) = .ok (.invokespecial ic, 3)) (d9 : decode cc (pc + 9) = .ok (.athrow, 1))
    (hout : ∀ x ∈ c.exceptionTable.toList, covers x (pc + 9) = false)
    (hRframes : names.length + 3 < R.frames) (hRlocals : (rest.map fun v => v.category).sum + (13 * (names.length + 1) + 43) ≤ R.locals) (hRcells : cells + 1 ≤ R.cells) (hRslots : slots + 6 ≤ R.slots) (hlocks : meth.locks = false)
    (hx : ∀ t : State, s.vm.Alike t.vm → H.size ≤ t.heap.size → (∀ q : Nat, q < H.size → t.heap[q]? = H[q]?) → XC cls s t)
    (hf : ∀ z ∈ locs, free z.base) (hc : cells + 1 ≤ mc) (hs : slots + 6 ≤ ms) :
    W p l e R s m args below meth c H locs cells slots (vx_MQ below Qc XC args s mc ms free) (F0 m pc ls rest) := by
  intro T hT X
  have htr : e.platform.stackTraces = false := (show e.platform.stackTraces = l.stackTraces by rw [X.admits.platform]).trans hl
  have Y := vx_rebase X (R' := { frames := R.frames, locals := R.locals, cells := 1, slots := 6 }) (Nat.le_refl _) (Nat.le_refl _) hRcells hRslots
  obtain ⟨s', hA⟩ : ∃ z, z = (T.setVm s.vm).setFrames (.invoking m args :: below) := ⟨_, rfl⟩
  rw [← hA] at Y
  have hvm : s'.vm = s.vm := by rw [hA]; rfl
  have hhp : s'.heap = H := by rw [hA]; exact hT
  have hW0 : s.WarmedH s'.vm := by rw [hvm]; exact State.WarmedH.refl s
  have hat' : ∀ w ∈ xs_at own ic cls ix rx names, w.before args s' = true := fun w hw => vx_ot_at hW0 hvm.symm (hgood w (List.mem_cons_of_mem _ (List.mem_cons_of_mem _ hw))) (hat w hw)
  have hk' : (Cond.classLink own ik cls).before args s' = true := vx_ot_at hW0 hvm.symm (hgood _ List.mem_cons_self) hk
  have hini' : (Cond.initialized cls).before args s' = true := vx_ot_at hW0 hvm.symm (hgood _ (List.mem_cons_of_mem _ List.mem_cons_self)) hini
  have hU' : vx_Zq Bundle.tN "UNASSIGNED_STACK" Bundle.steD A s' s'.heap := by rw [hhp]; exact vx_Zq.moved hW0.alike (hU.kept hS.2.1)
  have hN' : vx_Zq Bundle.tN "SUPPRESSED_SENTINEL" Bundle.listD A s' s'.heap := by rw [hhp]; exact vx_Zq.moved hW0.alike (hN.kept hS.2.1)
  have h : ∀ w ∈ Bundle.ownAtomsX own ic cls ix rx names, w.before args s' = true := vx_own hat' (vx_isRefq hU'.1) (vx_isRefq hN'.1) hU'.2.word hN'.2.word
  have hown' : s'.vm.findClass own = some m.cls := by rw [hvm]; exact hown
  have hins : (Cond.instantiable cls 6).before args s' = true := h _ (by simp [Bundle.ownAtomsX])
  obtain ⟨vm₁, cX, kX, hfX, hkX, -, -, X₁, st1⟩ := Y.newCold hexec (own := own) (C := cls) (index := ik) (n := 6) hown' hk' hins hini'
    (g := F0 m pc ls rest) rfl (by rw [hb]; exact d0) (Nat.le_refl _) (Nat.le_refl _)
  generalize hT1 : (T.setVm vm₁).pushCell { cls := cX, slots := kX.instanceTypes.map defaultValue, vm := .none } = T1 at X₁ st1
  have hcat : (Value.ref T.heap.size).category = 1 := rfl
  have hcellA : T1.heap[T.heap.size]? = some (freshCell cX kX) := by rw [← hT1]; exact State.heap_pushCell_size _ _
  have d3' : decode c.code (pc + 3) = .ok (.dup, 1) := by rw [hb]; exact d3
  have d4' : decode c.code (pc + 4) = .ok (.ldc is, 2) := by rw [hb]; exact d4
  have hstr' : vk_R own is text sa s' := vk_R.warm hW0 hstr
  obtain ⟨U, hsteps, hrun, hend, hW, hsame, ce, hce, hO, hOv⟩ := xs_ctorThrow X₁ hexec htr (own := own) (cls := cls) (names := names) (ic := ic) x0 x1 x2 x5 hown' hcls hnames h (fun x hx => nomatch hx) hfX hkX hcellA (by rw [hhp, hT]; exact Nat.le_refl _) (msg := .ref sa) rfl
    (g := { method := m, pc := pc + 6, locals := ls, stack := .ref sa :: .ref T.heap.size :: .ref T.heap.size :: rest, locked := none }) rfl hsize rfl rfl (rest := rest) rfl
    (by rw [hb]; exact d6) (by rw [hb]; exact d9) hout hRframes (by simp only [List.map_cons, List.sum_cons, hcat]; omega) hlocks
  obtain ⟨f1, f2⟩ := vx_frame hsame
  rw [hhp] at f1 f2
  have hWs : s.WarmedH U.vm := State.WarmedH.trans hW0 hW
  have hcl : s.vm.findClass cls = some ce.cls := by
    rw [hvm] at hO
    exact hO
  have hall : s.sameButNew ({ U with vm := s.vm } : State) locs mc ms := by
    subst hA
    obtain ⟨e1, e2⟩ := hsame
    rw [State.setFrames_setFrames] at e1
    have h2 : (T.setVm s.vm).sameButNew ({ U with vm := s.vm } : State) [] (0 + 1) (0 + 6) := ⟨e1, e2⟩
    have h3 := X.same.trans h2
    rw [List.append_nil] at h3
    exact h3.mono hc hs
  refine ⟨U, ?_, .threw T.heap.size, hrun, hend, Or.inr ⟨T.heap.size, rfl, cls, ce, locs, hx U hWs.alike f1 (fun q hq => f2 q hq (fun z hz => nomatch hz)), hce, hOv, hcl, hWs, hall, hf⟩⟩
  refine st1 _ ?_
  show Steps p.tables e below (T1.setTop { method := m, pc := pc + 3, locals := ls, stack := .ref T.heap.size :: rest, locked := none }) _
  jvm_step X₁.here [X₁.here.top, hexec, d3', Value.category]
  exact X₁.ldcString hexec (own := own) (text := text) (index := is) (a := sa) hown' hstr'.1 hstr'.2
    (g := { method := m, pc := pc + 4, locals := ls, stack := .ref T.heap.size :: .ref T.heap.size :: rest, locked := none }) rfl d4' _ hsteps
end XSB
/-- the words of 'throw new cls("..")' in class own -/
def TH (own : String) (ik ic ix : Nat) (rx : ByteArray) (cls : String) : Prop := Bundle.fit cls = true ∧ decode rx 0 = .ok (.aload_n 0, 1) ∧ decode rx 1 = .ok (.aload_n 1, 1) ∧ decode rx 2 = .ok (.invokespecial ix, 3) ∧ decode rx 5 = .ok (.return_, 1) ∧ Cond.classLink own ik cls ∈ T0 ∧ Cond.initialized cls ∈ T0 ∧ (∀ w ∈ xs_at own ic cls ix rx ["java/lang/RuntimeException", "java/lang/Exception"], w ∈ T0 ∨ (w ∈ N0 ∧ w.onTables = true)) ∧ ∀ w ∈ Cond.classLink own ik cls :: Cond.initialized cls :: xs_at own ic cls ix rx ["java/lang/RuntimeException", "java/lang/Exception"], vx_ot w = true
section XSC
variable {X : xC} {cc : ByteArray} {d mc ms : Nat} {k n : Nat} {ws ws0 : va_W} {L : List (Option Value)} {st : List Value} {pc : Nat} {PX : String → va_W → Prop}
theorem r_throw {ik is ic ix : Nat} {rx : ByteArray} {cls : String} (hX : Ok SF X cc "BowFoundry" d mc ms) (hO : Outs X mc ms ws0 PX) (hT : TH "BowFoundry" ik ic ix rx cls) (i : Nat) (hi : i < 17) (his : (msgL.getD i (0, "")).1 = is)
    (d0 : decode cc pc = .ok (.new ik, 3)) (d3 : decode cc (pc + 3) = .ok (.dup, 1)) (d4 : decode cc (pc + 4) = .ok (.ldc is, 2)) (d6 : decode cc (pc + 6) = .ok (.invokespecial ic, 3)) (d9 : decode cc (pc + 9) = .ok (.athrow, 1))
    (hd : 6 ≤ d) (hst : (st.map fun v => v.category).sum ≤ 8) (hP : PX cls ws) (hk : k + 1 ≤ mc) (hn : n + 6 ≤ ms) : V X k n ws L st pc := by
  obtain ⟨p, l, e, R, s, m, args, below, meth, c, nL, G, A, Q⟩ := X
  obtain ⟨hx, hb, hown, hts, hK, hA, hlk, hml, hR, hsf, hNw⟩ := hX
  obtain ⟨hstt, hTb, rfl, Qc, rfl⟩ := hO
  obtain ⟨t1, t2, t3, t4, t5, t6, t7, t8, t9⟩ := hT
  intro H locs ls hP1 hD hS hl
  have hmsg := hsf.2.2.2.2.2.2.2.2.2 i hi
  rw [his] at hmsg
  exact xs_throw (names := ["java/lang/RuntimeException", "java/lang/Exception"]) hx hb hstt t2 t3 t4 t5 hown t1 (by decide +kernel) (hts _ t6) (hts _ t7) hmsg (fun w hw => (t8 w hw).elim (fun h => hts _ h) (fun h => va_Nw.use h.2 (hNw _ h.1))) t9 hsf.2.2.2.2.2.2.1 hsf.2.2.2.2.2.2.2.1 hS (hl.1.trans hml.symm) d0 d3 d4 d6 d9 (fun x hx => by rw [hTb] at hx; nomatch hx)
    (by show 2 + 3 < R.frames; omega) (by show _ + (13 * (2 + 1) + 43) ≤ R.locals; omega) (Nat.le_trans hk hR.2.2.1) (Nat.le_trans hn hR.2.2.2) hlk
    (fun t hal h1 h2 => ⟨⟨ws, hP, hP1.kept (fun k q hq => h2 q.1 ((hP1 k q hq).lt)), va_K.moved hal hK, hD⟩, ⟨Nat.le_trans hS.1 h1, fun q h3 h4 => (h2 q (Nat.lt_of_lt_of_le h3 hS.1)).trans (hS.2.1 q h3 h4)⟩⟩) hS.2.2 hk hn
end XSC
end
section
-- what the pool entries of the own classes mean (laid by a program)
theorem in_X1 : ∀ w ∈ u_ws RX1 TX1 6, w ∈ T0 := by
  intro w h
  obtain ⟨k, hk, rfl⟩ := List.mem_map.mp h
  have hk := List.mem_range.mp hk
  match k, hk with
  | 0, _ => exact m1 (j := 70) rfl rfl
  | 1, _ => exact m1 (j := 72) rfl rfl
  | 2, _ => exact m1 (j := 74) rfl rfl
  | 3, _ => exact m1 (j := 76) rfl rfl
  | 4, _ => exact m1 (j := 78) rfl rfl
  | 5, _ => exact m1 (j := 80) rfl rfl
  | k + 6, h => exact absurd h (by omega)
theorem fw_X1_0 : FW 4 0 false .int := ⟨RX1, TX1, 6, rfl, tyX1, tyX1_ok, nmX1, rfl, by decide +kernel⟩
theorem fw_X1_1 : FW 4 1 false .int := ⟨RX1, TX1, 6, rfl, tyX1, tyX1_ok, nmX1, rfl, by decide +kernel⟩
theorem fw_X1_2 : FW 4 2 false .int := ⟨RX1, TX1, 6, rfl, tyX1, tyX1_ok, nmX1, rfl, by decide +kernel⟩
theorem fw_X1_3 : FW 4 3 false .int := ⟨RX1, TX1, 6, rfl, tyX1, tyX1_ok, nmX1, rfl, by decide +kernel⟩
theorem fw_X1_4 : FW 4 4 false .boolean := ⟨RX1, TX1, 6, rfl, tyX1, tyX1_ok, nmX1, rfl, by decide +kernel⟩
theorem fw_X1_5 : FW 4 5 true (.array .int) := ⟨RX1, TX1, 6, rfl, tyX1, tyX1_ok, nmX1, rfl, by decide +kernel⟩
theorem in_X3 : ∀ w ∈ u_ws RX3 TX3 5, w ∈ T0 := by
  intro w h
  obtain ⟨k, hk, rfl⟩ := List.mem_map.mp h
  have hk := List.mem_range.mp hk
  match k, hk with
  | 0, _ => exact m1 (j := 190) rfl rfl
  | 1, _ => exact m1 (j := 192) rfl rfl
  | 2, _ => exact m1 (j := 194) rfl rfl
  | 3, _ => exact m1 (j := 196) rfl rfl
  | 4, _ => exact m1 (j := 198) rfl rfl
  | k + 5, h => exact absurd h (by omega)
theorem fw_X3_0 : FW 5 0 true (.object "java/lang/StringBuilder") := ⟨RX3, TX3, 5, rfl, tyX3, tyX3_ok, nmX3, rfl, by decide +kernel⟩
theorem fw_X3_1 : FW 5 1 true (.array .int) := ⟨RX3, TX3, 5, rfl, tyX3, tyX3_ok, nmX3, rfl, by decide +kernel⟩
theorem fw_X3_2 : FW 5 2 false .int := ⟨RX3, TX3, 5, rfl, tyX3, tyX3_ok, nmX3, rfl, by decide +kernel⟩
theorem fw_X3_3 : FW 5 3 false .int := ⟨RX3, TX3, 5, rfl, tyX3, tyX3_ok, nmX3, rfl, by decide +kernel⟩
theorem fw_X3_4 : FW 5 4 false .int := ⟨RX3, TX3, 5, rfl, tyX3, tyX3_ok, nmX3, rfl, by decide +kernel⟩
theorem in_X4 : ∀ w ∈ u_ws RX4 TX4 17, w ∈ T0 := by
  intro w h
  obtain ⟨k, hk, rfl⟩ := List.mem_map.mp h
  have hk := List.mem_range.mp hk
  match k, hk with
  | 0, _ => exact m1 (j := 110) rfl rfl
  | 1, _ => exact m1 (j := 112) rfl rfl
  | 2, _ => exact m1 (j := 114) rfl rfl
  | 3, _ => exact m1 (j := 116) rfl rfl
  | 4, _ => exact m1 (j := 118) rfl rfl
  | 5, _ => exact m1 (j := 120) rfl rfl
  | 6, _ => exact m1 (j := 122) rfl rfl
  | 7, _ => exact m1 (j := 124) rfl rfl
  | 8, _ => exact m1 (j := 126) rfl rfl
  | 9, _ => exact m1 (j := 128) rfl rfl
  | 10, _ => exact m1 (j := 130) rfl rfl
  | 11, _ => exact m1 (j := 132) rfl rfl
  | 12, _ => exact m1 (j := 134) rfl rfl
  | 13, _ => exact m1 (j := 136) rfl rfl
  | 14, _ => exact m1 (j := 138) rfl rfl
  | 15, _ => exact m1 (j := 140) rfl rfl
  | 16, _ => exact m1 (j := 142) rfl rfl
  | k + 17, h => exact absurd h (by omega)
theorem fw_X4_0 : FW 6 0 false .int := ⟨RX4, TX4, 17, rfl, tyX4, tyX4_ok, nmX4, rfl, by decide +kernel⟩
theorem fw_X4_1 : FW 6 1 true (.array (.array .int)) := ⟨RX4, TX4, 17, rfl, tyX4, tyX4_ok, nmX4, rfl, by decide +kernel⟩
theorem fw_X4_2 : FW 6 2 false .int := ⟨RX4, TX4, 17, rfl, tyX4, tyX4_ok, nmX4, rfl, by decide +kernel⟩
theorem fw_X4_3 : FW 6 3 true (.array .int) := ⟨RX4, TX4, 17, rfl, tyX4, tyX4_ok, nmX4, rfl, by decide +kernel⟩
theorem fw_X4_4 : FW 6 4 true (.array .int) := ⟨RX4, TX4, 17, rfl, tyX4, tyX4_ok, nmX4, rfl, by decide +kernel⟩
theorem fw_X4_5 : FW 6 5 true (.array .int) := ⟨RX4, TX4, 17, rfl, tyX4, tyX4_ok, nmX4, rfl, by decide +kernel⟩
theorem fw_X4_6 : FW 6 6 true (.array .int) := ⟨RX4, TX4, 17, rfl, tyX4, tyX4_ok, nmX4, rfl, by decide +kernel⟩
theorem fw_X4_7 : FW 6 7 true (.array .int) := ⟨RX4, TX4, 17, rfl, tyX4, tyX4_ok, nmX4, rfl, by decide +kernel⟩
theorem fw_X4_8 : FW 6 8 true (.array .int) := ⟨RX4, TX4, 17, rfl, tyX4, tyX4_ok, nmX4, rfl, by decide +kernel⟩
theorem fw_X4_9 : FW 6 9 false .int := ⟨RX4, TX4, 17, rfl, tyX4, tyX4_ok, nmX4, rfl, by decide +kernel⟩
theorem fw_X4_10 : FW 6 10 false .int := ⟨RX4, TX4, 17, rfl, tyX4, tyX4_ok, nmX4, rfl, by decide +kernel⟩
theorem fw_X4_11 : FW 6 11 false .int := ⟨RX4, TX4, 17, rfl, tyX4, tyX4_ok, nmX4, rfl, by decide +kernel⟩
theorem fw_X4_12 : FW 6 12 true (.array (.object "BowFoundry$Batch")) := ⟨RX4, TX4, 17, rfl, tyX4, tyX4_ok, nmX4, rfl, by decide +kernel⟩
theorem fw_X4_13 : FW 6 13 false .int := ⟨RX4, TX4, 17, rfl, tyX4, tyX4_ok, nmX4, rfl, by decide +kernel⟩
theorem fw_X4_14 : FW 6 14 false .int := ⟨RX4, TX4, 17, rfl, tyX4, tyX4_ok, nmX4, rfl, by decide +kernel⟩
theorem fw_X4_15 : FW 6 15 false .int := ⟨RX4, TX4, 17, rfl, tyX4, tyX4_ok, nmX4, rfl, by decide +kernel⟩
theorem fw_X4_16 : FW 6 16 false .int := ⟨RX4, TX4, 17, rfl, tyX4, tyX4_ok, nmX4, rfl, by decide +kernel⟩
theorem in_X5 : ∀ w ∈ u_ws RX5 TX5 9, w ∈ T0 := by
  intro w h
  obtain ⟨k, hk, rfl⟩ := List.mem_map.mp h
  have hk := List.mem_range.mp hk
  match k, hk with
  | 0, _ => exact m1 (j := 212) rfl rfl
  | 1, _ => exact m1 (j := 214) rfl rfl
  | 2, _ => exact m1 (j := 216) rfl rfl
  | 3, _ => exact m1 (j := 218) rfl rfl
  | 4, _ => exact m1 (j := 220) rfl rfl
  | 5, _ => exact m1 (j := 222) rfl rfl
  | 6, _ => exact m1 (j := 224) rfl rfl
  | 7, _ => exact m1 (j := 226) rfl rfl
  | 8, _ => exact m1 (j := 228) rfl rfl
  | k + 9, h => exact absurd h (by omega)
theorem fw_X5_0 : FW 7 0 true (.array (.object "BowFoundry$State")) := ⟨RX5, TX5, 9, rfl, tyX5, tyX5_ok, nmX5, rfl, by decide +kernel⟩
theorem fw_X5_1 : FW 7 1 true (.object "BowFoundry$State") := ⟨RX5, TX5, 9, rfl, tyX5, tyX5_ok, nmX5, rfl, by decide +kernel⟩
theorem fw_X5_2 : FW 7 2 true (.object "BowFoundry$Script") := ⟨RX5, TX5, 9, rfl, tyX5, tyX5_ok, nmX5, rfl, by decide +kernel⟩
theorem fw_X5_3 : FW 7 3 true (.object "java/lang/StringBuilder") := ⟨RX5, TX5, 9, rfl, tyX5, tyX5_ok, nmX5, rfl, by decide +kernel⟩
theorem fw_X5_4 : FW 7 4 false .int := ⟨RX5, TX5, 9, rfl, tyX5, tyX5_ok, nmX5, rfl, by decide +kernel⟩
theorem fw_X5_5 : FW 7 5 false .int := ⟨RX5, TX5, 9, rfl, tyX5, tyX5_ok, nmX5, rfl, by decide +kernel⟩
theorem fw_X5_6 : FW 7 6 false .boolean := ⟨RX5, TX5, 9, rfl, tyX5, tyX5_ok, nmX5, rfl, by decide +kernel⟩
theorem fw_X5_7 : FW 7 7 false .int := ⟨RX5, TX5, 9, rfl, tyX5, tyX5_ok, nmX5, rfl, by decide +kernel⟩
theorem fw_X5_8 : FW 7 8 false .int := ⟨RX5, TX5, 9, rfl, tyX5, tyX5_ok, nmX5, rfl, by decide +kernel⟩
theorem in_X6 : ∀ w ∈ u_ws RX6 TX6 16, w ∈ T0 := by
  intro w h
  obtain ⟨k, hk, rfl⟩ := List.mem_map.mp h
  have hk := List.mem_range.mp hk
  match k, hk with
  | 0, _ => exact m6 (j := 176) rfl rfl
  | 1, _ => exact m6 (j := 178) rfl rfl
  | 2, _ => exact m6 (j := 180) rfl rfl
  | 3, _ => exact m6 (j := 182) rfl rfl
  | 4, _ => exact m6 (j := 184) rfl rfl
  | 5, _ => exact m6 (j := 186) rfl rfl
  | 6, _ => exact m6 (j := 188) rfl rfl
  | 7, _ => exact m6 (j := 190) rfl rfl
  | 8, _ => exact m6 (j := 192) rfl rfl
  | 9, _ => exact m6 (j := 194) rfl rfl
  | 10, _ => exact m6 (j := 196) rfl rfl
  | 11, _ => exact m6 (j := 198) rfl rfl
  | 12, _ => exact m6 (j := 200) rfl rfl
  | 13, _ => exact m6 (j := 202) rfl rfl
  | 14, _ => exact m6 (j := 204) rfl rfl
  | 15, _ => exact m6 (j := 206) rfl rfl
  | k + 16, h => exact absurd h (by omega)
theorem fw_X6_0 : FW 8 0 true (.array .int) := ⟨RX6, TX6, 16, rfl, tyX6, tyX6_ok, nmX6, rfl, by decide +kernel⟩
theorem fw_X6_1 : FW 8 1 true (.array .int) := ⟨RX6, TX6, 16, rfl, tyX6, tyX6_ok, nmX6, rfl, by decide +kernel⟩
theorem fw_X6_2 : FW 8 2 true (.array .int) := ⟨RX6, TX6, 16, rfl, tyX6, tyX6_ok, nmX6, rfl, by decide +kernel⟩
theorem fw_X6_3 : FW 8 3 false .int := ⟨RX6, TX6, 16, rfl, tyX6, tyX6_ok, nmX6, rfl, by decide +kernel⟩
theorem fw_X6_4 : FW 8 4 true (.array .int) := ⟨RX6, TX6, 16, rfl, tyX6, tyX6_ok, nmX6, rfl, by decide +kernel⟩
theorem fw_X6_5 : FW 8 5 false .boolean := ⟨RX6, TX6, 16, rfl, tyX6, tyX6_ok, nmX6, rfl, by decide +kernel⟩
theorem fw_X6_6 : FW 8 6 true (.array .char) := ⟨RX6, TX6, 16, rfl, tyX6, tyX6_ok, nmX6, rfl, by decide +kernel⟩
theorem fw_X6_7 : FW 8 7 false .int := ⟨RX6, TX6, 16, rfl, tyX6, tyX6_ok, nmX6, rfl, by decide +kernel⟩
theorem fw_X6_8 : FW 8 8 false .int := ⟨RX6, TX6, 16, rfl, tyX6, tyX6_ok, nmX6, rfl, by decide +kernel⟩
theorem fw_X6_9 : FW 8 9 false .int := ⟨RX6, TX6, 16, rfl, tyX6, tyX6_ok, nmX6, rfl, by decide +kernel⟩
theorem fw_X6_10 : FW 8 10 true (.array .char) := ⟨RX6, TX6, 16, rfl, tyX6, tyX6_ok, nmX6, rfl, by decide +kernel⟩
theorem fw_X6_11 : FW 8 11 false .int := ⟨RX6, TX6, 16, rfl, tyX6, tyX6_ok, nmX6, rfl, by decide +kernel⟩
theorem fw_X6_12 : FW 8 12 false .int := ⟨RX6, TX6, 16, rfl, tyX6, tyX6_ok, nmX6, rfl, by decide +kernel⟩
theorem fw_X6_13 : FW 8 13 false .int := ⟨RX6, TX6, 16, rfl, tyX6, tyX6_ok, nmX6, rfl, by decide +kernel⟩
theorem fw_X6_14 : FW 8 14 false .boolean := ⟨RX6, TX6, 16, rfl, tyX6, tyX6_ok, nmX6, rfl, by decide +kernel⟩
theorem fw_X6_15 : FW 8 15 true (.array .int) := ⟨RX6, TX6, 16, rfl, tyX6, tyX6_ok, nmX6, rfl, by decide +kernel⟩
theorem in_J4 : ∀ w ∈ u_ws RJ4 TJ4 4, w ∈ T0 := by
  intro w h
  obtain ⟨k, hk, rfl⟩ := List.mem_map.mp h
  have hk := List.mem_range.mp hk
  match k, hk with
  | 0, _ => exact m1 (j := 174) rfl rfl
  | 1, _ => exact m1 (j := 176) rfl rfl
  | 2, _ => exact m1 (j := 178) rfl rfl
  | 3, _ => exact m1 (j := 180) rfl rfl
  | k + 4, h => exact absurd h (by omega)
theorem fw_J4_0 : FW 1 0 false (.array .byte) := ⟨RJ4, TJ4, 4, rfl, tyJ4, tyJ4_ok, nmJ4, rfl, by decide +kernel⟩
theorem fw_J4_1 : FW 1 1 false .byte := ⟨RJ4, TJ4, 4, rfl, tyJ4, tyJ4_ok, nmJ4, rfl, by decide +kernel⟩
theorem fw_J4_2 : FW 1 2 false .boolean := ⟨RJ4, TJ4, 4, rfl, tyJ4, tyJ4_ok, nmJ4, rfl, by decide +kernel⟩
theorem fw_J4_3 : FW 1 3 false .int := ⟨RJ4, TJ4, 4, rfl, tyJ4, tyJ4_ok, nmJ4, rfl, by decide +kernel⟩
theorem f_X1_9 : FL RX1 9 4 0 := ⟨RX1, TX1, 6, rfl, in_X1, by decide, "BowFoundry$Batch", m1 (j := 54) rfl rfl, rfl⟩
theorem f_X1_15 : FL RX1 15 4 1 := ⟨RX1, TX1, 6, rfl, in_X1, by decide, "BowFoundry$Batch", m1 (j := 57) rfl rfl, rfl⟩
theorem f_X1_18 : FL RX1 18 4 2 := ⟨RX1, TX1, 6, rfl, in_X1, by decide, "BowFoundry$Batch", m1 (j := 60) rfl rfl, rfl⟩
theorem f_X1_21 : FL RX1 21 4 3 := ⟨RX1, TX1, 6, rfl, in_X1, by decide, "BowFoundry$Batch", m1 (j := 63) rfl rfl, rfl⟩
theorem f_X1_24 : FL RX1 24 4 4 := ⟨RX1, TX1, 6, rfl, in_X1, by decide, "BowFoundry$Batch", m1 (j := 65) rfl rfl, rfl⟩
theorem f_X1_28 : FL RX1 28 4 5 := ⟨RX1, TX1, 6, rfl, in_X1, by decide, "BowFoundry$Batch", m1 (j := 68) rfl rfl, rfl⟩
theorem k_X1_36 : KV RX1 36 RX1 yX1_goodSampled cX1_goodSampled 6 (some .int) 2 := KV_of (m2 (j := 43) rfl rfl) (m2 (j := 44) rfl rfl) (m2 (j := 45) rfl rfl) (m1 (j := 3) rfl rfl) (m2 (j := 46) rfl rfl) (by decide +kernel)
theorem k_X1_40 : KV RX1 40 RX1 yX1_sampled cX1_sampled 2 (some .int) 1 := KV_of (m2 (j := 47) rfl rfl) (m2 (j := 48) rfl rfl) (m2 (j := 49) rfl rfl) (m1 (j := 3) rfl rfl) (m2 (j := 50) rfl rfl) (by decide +kernel)
theorem k_X1_44 : KV RX1 44 RX1 yX1_passes cX1_passes 3 (some .boolean) 2 := KV_of (m2 (j := 39) rfl rfl) (m2 (j := 40) rfl rfl) (m2 (j := 41) rfl rfl) (m1 (j := 3) rfl rfl) (m2 (j := 42) rfl rfl) (by decide +kernel)
theorem k_X1_48 : KV RX1 48 RJ4 yJ4_append_bf812 cJ4_append_bf812 2 (some (.object "java/lang/StringBuilder")) 1 := KV_of (m6 (j := 0) rfl rfl) (m2 (j := 218) rfl rfl) (m2 (j := 219) rfl rfl) (m1 (j := 6) rfl rfl) (m2 (j := 220) rfl rfl) (by decide +kernel)
theorem k_X1_54 : KV RX1 54 RJ4 yJ4_append_cf468 cJ4_append_cf468 2 (some (.object "java/lang/StringBuilder")) 1 := KV_of (m6 (j := 1) rfl rfl) (m3 (j := 194) rfl rfl) (m3 (j := 195) rfl rfl) (m1 (j := 6) rfl rfl) (m3 (j := 196) rfl rfl) (by decide +kernel)
theorem cl_X3_9 : CL RX3 9 1 4 [.null, .int 0, .int 0, .int 0] := ⟨RJ4, TJ4, rfl, in_J4, ⟨tyJ4, tyJ4_ok, fun j hj => by
  match j, hj with
  | 0, _ => rfl
  | 1, _ => rfl
  | 2, _ => rfl
  | 3, _ => rfl
  | j + 4, h => exact absurd h (by omega)⟩, m1 (j := 151) rfl rfl, m1 (j := 152) rfl rfl, m1 (j := 6) rfl rfl⟩
theorem k_X3_11 : KI RX3 11 yJ4_init_da8c8 cJ4_init_da8c8 1 0 := KI_of (m1 (j := 153) rfl rfl) (m1 (j := 154) rfl rfl) (m1 (j := 6) rfl rfl) (m1 (j := 155) rfl rfl) (by decide +kernel)
theorem f_X3_12 : FL RX3 12 5 0 := ⟨RX3, TX3, 5, rfl, in_X3, by decide, "BowFoundry$Script", m1 (j := 184) rfl rfl, rfl⟩
theorem f_X3_18 : FL RX3 18 5 1 := ⟨RX3, TX3, 5, rfl, in_X3, by decide, "BowFoundry$Script", m1 (j := 185) rfl rfl, rfl⟩
theorem f_X3_22 : FL RX3 22 5 2 := ⟨RX3, TX3, 5, rfl, in_X3, by decide, "BowFoundry$Script", m1 (j := 186) rfl rfl, rfl⟩
theorem f_X3_26 : FL RX3 26 5 3 := ⟨RX3, TX3, 5, rfl, in_X3, by decide, "BowFoundry$Script", m1 (j := 187) rfl rfl, rfl⟩
theorem f_X3_29 : FL RX3 29 5 4 := ⟨RX3, TX3, 5, rfl, in_X3, by decide, "BowFoundry$Script", m1 (j := 188) rfl rfl, rfl⟩
theorem k_X3_32 : KV RX3 32 RJ4 yJ4_length_8abf5 cJ4_length_8abf5 1 (some .int) 0 := KV_of (m6 (j := 32) rfl rfl) (m3 (j := 24) rfl rfl) (m8 (j := 123) rfl rfl) (m1 (j := 6) rfl rfl) (m3 (j := 25) rfl rfl) (by decide +kernel)
theorem k_X3_36 : KV RX3 36 RJ4 yJ4_append_cf468 cJ4_append_cf468 2 (some (.object "java/lang/StringBuilder")) 1 := KV_of (m6 (j := 38) rfl rfl) (m3 (j := 194) rfl rfl) (m3 (j := 195) rfl rfl) (m1 (j := 6) rfl rfl) (m3 (j := 196) rfl rfl) (by decide +kernel)
theorem k_X3_40 : KV RX3 40 RJ4 yJ4_setLength_d00df cJ4_setLength_d00df 2 none 1 := KV_of (m6 (j := 94) rfl rfl) (m2 (j := 83) rfl rfl) (m2 (j := 84) rfl rfl) (m1 (j := 6) rfl rfl) (m2 (j := 85) rfl rfl) (by decide +kernel)
theorem k_X3_44 : KV RX3 44 RX3 yX3_nextCommand cX3_nextCommand 4 (some (.object "BowFoundry$Command")) 0 := KV_of (m6 (j := 50) rfl rfl) (m6 (j := 51) rfl rfl) (m6 (j := 52) rfl rfl) (m1 (j := 4) rfl rfl) (m6 (j := 53) rfl rfl) (by decide +kernel)
theorem k_X3_48 : KV RX3 48 RX3 yX3_takes cX3_takes 2 (some .boolean) 1 := KV_of (m6 (j := 85) rfl rfl) (m6 (j := 86) rfl rfl) (m6 (j := 87) rfl rfl) (m1 (j := 4) rfl rfl) (m6 (j := 88) rfl rfl) (by decide +kernel)
theorem k_X3_52 : KV RX3 52 RX3 yX3_run cX3_run 3 (some .int) 2 := KV_of (m6 (j := 100) rfl rfl) (m6 (j := 101) rfl rfl) (m6 (j := 102) rfl rfl) (m1 (j := 4) rfl rfl) (m6 (j := 103) rfl rfl) (by decide +kernel)
theorem k_X3_66 : KV RX3 66 RX4 yX4_mixAlloy cX4_mixAlloy 4 (some .int) 3 := KV_of (m6 (j := 112) rfl rfl) (m4 (j := 13) rfl rfl) (m4 (j := 14) rfl rfl) (m1 (j := 2) rfl rfl) (m4 (j := 15) rfl rfl) (by decide +kernel)
theorem k_X3_72 : KV RX3 72 RX4 yX4_placeMould cX4_placeMould 2 (some .int) 1 := KV_of (m6 (j := 113) rfl rfl) (m4 (j := 98) rfl rfl) (m4 (j := 99) rfl rfl) (m1 (j := 2) rfl rfl) (m4 (j := 100) rfl rfl) (by decide +kernel)
theorem k_X3_76 : KV RX3 76 RX4 yX4_takeIn cX4_takeIn 3 (some .int) 2 := KV_of (m6 (j := 114) rfl rfl) (m4 (j := 112) rfl rfl) (m4 (j := 113) rfl rfl) (m1 (j := 2) rfl rfl) (m4 (j := 114) rfl rfl) (by decide +kernel)
theorem k_X3_80 : KV RX3 80 RX4 yX4_pour cX4_pour 5 (some .int) 3 := KV_of (m6 (j := 115) rfl rfl) (m4 (j := 124) rfl rfl) (m4 (j := 125) rfl rfl) (m1 (j := 2) rfl rfl) (m4 (j := 126) rfl rfl) (by decide +kernel)
theorem k_X3_83 : KV RX3 83 RX4 yX4_examine cX4_examine 5 (some .int) 1 := KV_of (m6 (j := 116) rfl rfl) (m4 (j := 158) rfl rfl) (m4 (j := 159) rfl rfl) (m1 (j := 2) rfl rfl) (m4 (j := 160) rfl rfl) (by decide +kernel)
theorem k_X3_86 : KV RX3 86 RX4 yX4_meltDown cX4_meltDown 8 (some .int) 1 := KV_of (m6 (j := 117) rfl rfl) (m4 (j := 178) rfl rfl) (m4 (j := 179) rfl rfl) (m1 (j := 2) rfl rfl) (m4 (j := 180) rfl rfl) (by decide +kernel)
theorem k_X3_89 : KV RX3 89 RX4 yX4_resetUses cX4_resetUses 3 (some .int) 1 := KV_of (m6 (j := 118) rfl rfl) (m4 (j := 190) rfl rfl) (m4 (j := 191) rfl rfl) (m1 (j := 2) rfl rfl) (m4 (j := 192) rfl rfl) (by decide +kernel)
theorem k_X3_92 : KV RX3 92 RX4 yX4_changeTolerance cX4_changeTolerance 3 (some .int) 1 := KV_of (m6 (j := 119) rfl rfl) (m4 (j := 201) rfl rfl) (m4 (j := 202) rfl rfl) (m1 (j := 2) rfl rfl) (m4 (j := 203) rfl rfl) (by decide +kernel)
theorem k_X3_95 : KV RX3 95 RX4 yX4_changeStep cX4_changeStep 3 (some .int) 1 := KV_of (m6 (j := 120) rfl rfl) (m4 (j := 212) rfl rfl) (m4 (j := 213) rfl rfl) (m1 (j := 2) rfl rfl) (m4 (j := 214) rfl rfl) (by decide +kernel)
theorem k_X3_106 : KV RX3 106 RX3 yX3_takesForm cX3_takesForm 5 (some .boolean) 1 := KV_of (m6 (j := 56) rfl rfl) (m6 (j := 57) rfl rfl) (m6 (j := 58) rfl rfl) (m1 (j := 4) rfl rfl) (m6 (j := 59) rfl rfl) (by decide +kernel)
theorem k_X3_110 : KS RX3 110 yJ9_max_7cf53 cJ9_max_7cf53 2 (some .int) 2 := KS_of (m6 (j := 89) rfl rfl) (m2 (j := 120) rfl rfl) (m1 (j := 10) rfl rfl) (m2 (j := 121) rfl rfl) (by decide +kernel)
theorem k_X3_115 : KV RX3 115 RJ0 yJ0_length_8abf5 cJ0_length_8abf5 1 (some .int) 0 := KV_of (m6 (j := 60) rfl rfl) (m2 (j := 175) rfl rfl) (m2 (j := 176) rfl rfl) (m1 (j := 7) rfl rfl) (m2 (j := 177) rfl rfl) (by decide +kernel)
theorem k_X3_118 : KV RX3 118 RJ0 yJ0_charAt_5068e cJ0_charAt_5068e 2 (some .char) 1 := KV_of (m6 (j := 61) rfl rfl) (m6 (j := 62) rfl rfl) (m6 (j := 63) rfl rfl) (m1 (j := 7) rfl rfl) (m6 (j := 64) rfl rfl) (by decide +kernel)
theorem k_X3_122 : KV RX3 122 RX3 yX3_takesNumber cX3_takesNumber 4 (some .boolean) 1 := KV_of (m6 (j := 76) rfl rfl) (m6 (j := 77) rfl rfl) (m6 (j := 78) rfl rfl) (m1 (j := 4) rfl rfl) (m6 (j := 79) rfl rfl) (by decide +kernel)
theorem k_X3_126 : KV RX3 126 RJ4 yJ4_charAt_5068e cJ4_charAt_5068e 2 (some .char) 1 := KV_of (m6 (j := 84) rfl rfl) (m6 (j := 11) rfl rfl) (m6 (j := 12) rfl rfl) (m1 (j := 6) rfl rfl) (m6 (j := 13) rfl rfl) (by decide +kernel)
theorem k_X3_127 : KV RX3 127 RX3 yX3_digit cX3_digit 2 (some .int) 0 := KV_of (m6 (j := 80) rfl rfl) (m6 (j := 81) rfl rfl) (m6 (j := 82) rfl rfl) (m1 (j := 4) rfl rfl) (m6 (j := 83) rfl rfl) (by decide +kernel)
theorem f_X4_9 : FL RX4 9 6 0 := ⟨RX4, TX4, 17, rfl, in_X4, by decide, "BowFoundry$State", m1 (j := 84) rfl rfl, rfl⟩
theorem f_X4_17 : FL RX4 17 6 1 := ⟨RX4, TX4, 17, rfl, in_X4, by decide, "BowFoundry$State", m1 (j := 86) rfl rfl, rfl⟩
theorem f_X4_20 : FL RX4 20 6 2 := ⟨RX4, TX4, 17, rfl, in_X4, by decide, "BowFoundry$State", m1 (j := 87) rfl rfl, rfl⟩
theorem f_X4_23 : FL RX4 23 6 3 := ⟨RX4, TX4, 17, rfl, in_X4, by decide, "BowFoundry$State", m1 (j := 89) rfl rfl, rfl⟩
theorem f_X4_27 : FL RX4 27 6 4 := ⟨RX4, TX4, 17, rfl, in_X4, by decide, "BowFoundry$State", m1 (j := 90) rfl rfl, rfl⟩
theorem f_X4_30 : FL RX4 30 6 5 := ⟨RX4, TX4, 17, rfl, in_X4, by decide, "BowFoundry$State", m1 (j := 91) rfl rfl, rfl⟩
theorem f_X4_33 : FL RX4 33 6 6 := ⟨RX4, TX4, 17, rfl, in_X4, by decide, "BowFoundry$State", m1 (j := 92) rfl rfl, rfl⟩
theorem f_X4_36 : FL RX4 36 6 7 := ⟨RX4, TX4, 17, rfl, in_X4, by decide, "BowFoundry$State", m1 (j := 93) rfl rfl, rfl⟩
theorem f_X4_39 : FL RX4 39 6 8 := ⟨RX4, TX4, 17, rfl, in_X4, by decide, "BowFoundry$State", m1 (j := 94) rfl rfl, rfl⟩
theorem f_X4_42 : FL RX4 42 6 9 := ⟨RX4, TX4, 17, rfl, in_X4, by decide, "BowFoundry$State", m1 (j := 95) rfl rfl, rfl⟩
theorem f_X4_45 : FL RX4 45 6 10 := ⟨RX4, TX4, 17, rfl, in_X4, by decide, "BowFoundry$State", m1 (j := 97) rfl rfl, rfl⟩
theorem f_X4_48 : FL RX4 48 6 11 := ⟨RX4, TX4, 17, rfl, in_X4, by decide, "BowFoundry$State", m1 (j := 99) rfl rfl, rfl⟩
theorem f_X4_53 : FL RX4 53 6 12 := ⟨RX4, TX4, 17, rfl, in_X4, by decide, "BowFoundry$State", m1 (j := 101) rfl rfl, rfl⟩
theorem f_X4_57 : FL RX4 57 6 13 := ⟨RX4, TX4, 17, rfl, in_X4, by decide, "BowFoundry$State", m1 (j := 103) rfl rfl, rfl⟩
theorem f_X4_60 : FL RX4 60 6 14 := ⟨RX4, TX4, 17, rfl, in_X4, by decide, "BowFoundry$State", m1 (j := 104) rfl rfl, rfl⟩
theorem f_X4_63 : FL RX4 63 6 15 := ⟨RX4, TX4, 17, rfl, in_X4, by decide, "BowFoundry$State", m1 (j := 106) rfl rfl, rfl⟩
theorem f_X4_66 : FL RX4 66 6 16 := ⟨RX4, TX4, 17, rfl, in_X4, by decide, "BowFoundry$State", m1 (j := 108) rfl rfl, rfl⟩
theorem cl_X4_51 : CL RX4 51 4 6 [.int 0, .int 0, .int 0, .int 0, .int 0, .null] := ⟨RX1, TX1, rfl, in_X1, ⟨tyX1, tyX1_ok, fun j hj => by
  match j, hj with
  | 0, _ => rfl
  | 1, _ => rfl
  | 2, _ => rfl
  | 3, _ => rfl
  | 4, _ => rfl
  | 5, _ => rfl
  | j + 6, h => exact absurd h (by omega)⟩, m1 (j := 47) rfl rfl, m1 (j := 49) rfl rfl, m1 (j := 3) rfl rfl⟩
theorem k_X4_74 : KV RX4 74 RX1 yX1_copyFrom cX1_copyFrom 2 none 1 := KV_of (m3 (j := 230) rfl rfl) (m3 (j := 231) rfl rfl) (m3 (j := 232) rfl rfl) (m1 (j := 3) rfl rfl) (m3 (j := 233) rfl rfl) (by decide +kernel)
theorem k_X4_78 : KS RX4 78 yX4_isPart cX4_isPart 1 (some .boolean) 1 := KS_of (m4 (j := 16) rfl rfl) (m4 (j := 17) rfl rfl) (m1 (j := 2) rfl rfl) (m4 (j := 18) rfl rfl) (by decide +kernel)
theorem k_X4_82 : KS RX4 82 yX4_isMetal cX4_isMetal 1 (some .boolean) 1 := KS_of (m2 (j := 63) rfl rfl) (m2 (j := 64) rfl rfl) (m1 (j := 2) rfl rfl) (m2 (j := 65) rfl rfl) (by decide +kernel)
theorem k_X4_85 : KV RX4 85 RX4 yX4_hasAlloy cX4_hasAlloy 2 (some .boolean) 1 := KV_of (m4 (j := 127) rfl rfl) (m4 (j := 128) rfl rfl) (m4 (j := 129) rfl rfl) (m1 (j := 2) rfl rfl) (m4 (j := 130) rfl rfl) (by decide +kernel)
theorem k_X4_88 : KV RX4 88 RX4 yX4_hasMould cX4_hasMould 2 (some .boolean) 1 := KV_of (m4 (j := 131) rfl rfl) (m4 (j := 132) rfl rfl) (m4 (j := 133) rfl rfl) (m1 (j := 2) rfl rfl) (m4 (j := 134) rfl rfl) (by decide +kernel)
theorem k_X4_91 : KV RX4 91 RX4 yX4_bowsInStore cX4_bowsInStore 5 (some .int) 1 := KV_of (m4 (j := 135) rfl rfl) (m4 (j := 136) rfl rfl) (m4 (j := 137) rfl rfl) (m1 (j := 2) rfl rfl) (m4 (j := 138) rfl rfl) (by decide +kernel)
theorem k_X4_95 : KV RX4 95 RX4 yX4_fill cX4_fill 6 none 4 := KV_of (m4 (j := 141) rfl rfl) (m4 (j := 142) rfl rfl) (m4 (j := 143) rfl rfl) (m1 (j := 2) rfl rfl) (m4 (j := 144) rfl rfl) (by decide +kernel)
theorem f_X4_99 : FN RX4 99 4 0 := ⟨RX1, TX1, 6, rfl, in_X1, by decide, "BowFoundry$Batch", "BowFoundry", n1 (j := 55) rfl rfl, rfl⟩
theorem f_X4_102 : FN RX4 102 4 1 := ⟨RX1, TX1, 6, rfl, in_X1, by decide, "BowFoundry$Batch", "BowFoundry", n1 (j := 58) rfl rfl, rfl⟩
theorem f_X4_105 : FN RX4 105 4 2 := ⟨RX1, TX1, 6, rfl, in_X1, by decide, "BowFoundry$Batch", "BowFoundry", n1 (j := 61) rfl rfl, rfl⟩
theorem f_X4_108 : FN RX4 108 4 3 := ⟨RX1, TX1, 6, rfl, in_X1, by decide, "BowFoundry$Batch", "BowFoundry", n1 (j := 64) rfl rfl, rfl⟩
theorem f_X4_111 : FN RX4 111 4 4 := ⟨RX1, TX1, 6, rfl, in_X1, by decide, "BowFoundry$Batch", "BowFoundry", n1 (j := 66) rfl rfl, rfl⟩
theorem f_X4_115 : FN RX4 115 4 5 := ⟨RX1, TX1, 6, rfl, in_X1, by decide, "BowFoundry$Batch", "BowFoundry", n1 (j := 69) rfl rfl, rfl⟩
theorem k_X4_118 : KV RX4 118 RX4 yX4_squeakToCome cX4_squeakToCome 5 (some .int) 2 := KV_of (m4 (j := 145) rfl rfl) (m4 (j := 146) rfl rfl) (m4 (j := 147) rfl rfl) (m1 (j := 2) rfl rfl) (m4 (j := 148) rfl rfl) (by decide +kernel)
theorem k_X4_122 : KV RX4 122 RX4 yX4_placeWith cX4_placeWith 3 (some .int) 1 := KV_of (m4 (j := 161) rfl rfl) (m4 (j := 162) rfl rfl) (m4 (j := 163) rfl rfl) (m1 (j := 2) rfl rfl) (m4 (j := 164) rfl rfl) (by decide +kernel)
theorem k_X4_125 : KV RX4 125 RX1 yX1_passes cX1_passes 3 (some .boolean) 2 := KV_of (m4 (j := 165) rfl rfl) (m2 (j := 40) rfl rfl) (m2 (j := 41) rfl rfl) (m1 (j := 3) rfl rfl) (m2 (j := 42) rfl rfl) (by decide +kernel)
theorem k_X4_129 : KV RX4 129 RX4 yX4_remove cX4_remove 4 none 1 := KV_of (m4 (j := 166) rfl rfl) (m4 (j := 167) rfl rfl) (m4 (j := 168) rfl rfl) (m1 (j := 2) rfl rfl) (m4 (j := 169) rfl rfl) (by decide +kernel)
theorem k_X4_133 : KS RX4 133 yJ9_max_7cf53 cJ9_max_7cf53 2 (some .int) 2 := KS_of (m4 (j := 181) rfl rfl) (m2 (j := 120) rfl rfl) (m1 (j := 10) rfl rfl) (m2 (j := 121) rfl rfl) (by decide +kernel)
theorem k_X4_138 : KV RX4 138 RX1 yX1_contains cX1_contains 2 (some .boolean) 1 := KV_of (m5 (j := 68) rfl rfl) (m5 (j := 69) rfl rfl) (m5 (j := 70) rfl rfl) (m1 (j := 3) rfl rfl) (m5 (j := 71) rfl rfl) (by decide +kernel)
theorem k_X4_141 : KV RX4 141 RX4 yX4_placeWithBow cX4_placeWithBow 3 (some .int) 1 := KV_of (m5 (j := 64) rfl rfl) (m5 (j := 65) rfl rfl) (m5 (j := 66) rfl rfl) (m1 (j := 2) rfl rfl) (m5 (j := 67) rfl rfl) (by decide +kernel)
theorem k_X4_147 : KS RX4 147 yJ9_min_7cf53 cJ9_min_7cf53 2 (some .int) 2 := KS_of (m4 (j := 140) rfl rfl) (m2 (j := 138) rfl rfl) (m1 (j := 10) rfl rfl) (m2 (j := 139) rfl rfl) (by decide +kernel)
theorem k_X4_150 : KV RX4 150 RX4 yX4_rankAt cX4_rankAt 6 (some .int) 1 := KV_of (m5 (j := 173) rfl rfl) (m5 (j := 174) rfl rfl) (m5 (j := 175) rfl rfl) (m1 (j := 2) rfl rfl) (m5 (j := 176) rfl rfl) (by decide +kernel)
theorem k_X4_153 : KV RX4 153 RX1 yX1_squeakSum cX1_squeakSum 3 (some .int) 0 := KV_of (m5 (j := 177) rfl rfl) (m5 (j := 178) rfl rfl) (m5 (j := 179) rfl rfl) (m1 (j := 3) rfl rfl) (m5 (j := 180) rfl rfl) (by decide +kernel)
theorem k_X4_157 : KV RX4 157 RX1 yX1_leastPassingSqueak cX1_leastPassingSqueak 5 (some .int) 1 := KV_of (m2 (j := 35) rfl rfl) (m2 (j := 36) rfl rfl) (m2 (j := 37) rfl rfl) (m1 (j := 3) rfl rfl) (m2 (j := 38) rfl rfl) (by decide +kernel)
theorem k_X4_160 : KV RX4 160 RX1 yX1_leastPassingTry cX1_leastPassingTry 3 (some .int) 1 := KV_of (m2 (j := 51) rfl rfl) (m2 (j := 52) rfl rfl) (m2 (j := 53) rfl rfl) (m1 (j := 3) rfl rfl) (m2 (j := 54) rfl rfl) (by decide +kernel)
theorem k_X4_163 : KV RX4 163 RX4 yX4_metalByBows cX4_metalByBows 5 (some .int) 1 := KV_of (m2 (j := 59) rfl rfl) (m2 (j := 60) rfl rfl) (m2 (j := 61) rfl rfl) (m1 (j := 2) rfl rfl) (m2 (j := 62) rfl rfl) (by decide +kernel)
theorem k_X4_166 : KV RX4 166 RX4 yX4_metalByBooks cX4_metalByBooks 2 (some .int) 1 := KV_of (m2 (j := 66) rfl rfl) (m2 (j := 67) rfl rfl) (m2 (j := 68) rfl rfl) (m1 (j := 2) rfl rfl) (m2 (j := 69) rfl rfl) (by decide +kernel)
theorem k_X4_169 : KV RX4 169 RX4 yX4_bowsInBatches cX4_bowsInBatches 3 (some .int) 0 := KV_of (m2 (j := 74) rfl rfl) (m2 (j := 75) rfl rfl) (m2 (j := 76) rfl rfl) (m1 (j := 2) rfl rfl) (m2 (j := 77) rfl rfl) (by decide +kernel)
theorem k_X4_172 : KV RX4 172 RJ4 yJ4_append_cf468 cJ4_append_cf468 2 (some (.object "java/lang/StringBuilder")) 1 := KV_of (m3 (j := 193) rfl rfl) (m3 (j := 194) rfl rfl) (m3 (j := 195) rfl rfl) (m1 (j := 6) rfl rfl) (m3 (j := 196) rfl rfl) (by decide +kernel)
theorem k_X4_178 : KV RX4 178 RJ4 yJ4_append_bf812 cJ4_append_bf812 2 (some (.object "java/lang/StringBuilder")) 1 := KV_of (m3 (j := 215) rfl rfl) (m2 (j := 218) rfl rfl) (m2 (j := 219) rfl rfl) (m1 (j := 6) rfl rfl) (m2 (j := 220) rfl rfl) (by decide +kernel)
theorem f_X5_11 : FL RX5 11 7 0 := ⟨RX5, TX5, 9, rfl, in_X5, by decide, "BowFoundry", m1 (j := 203) rfl rfl, rfl⟩
theorem cl_X5_9 : CL RX5 9 6 17 [.int 0, .null, .int 0, .null, .null, .null, .null, .null, .null, .int 0, .int 0, .int 0, .null, .int 0, .int 0, .int 0, .int 0] := ⟨RX4, TX4, rfl, in_X4, ⟨tyX4, tyX4_ok, fun j hj => by
  match j, hj with
  | 0, _ => rfl
  | 1, _ => rfl
  | 2, _ => rfl
  | 3, _ => rfl
  | 4, _ => rfl
  | 5, _ => rfl
  | 6, _ => rfl
  | 7, _ => rfl
  | 8, _ => rfl
  | 9, _ => rfl
  | 10, _ => rfl
  | 11, _ => rfl
  | 12, _ => rfl
  | 13, _ => rfl
  | 14, _ => rfl
  | 15, _ => rfl
  | 16, _ => rfl
  | j + 17, h => exact absurd h (by omega)⟩, m1 (j := 38) rfl rfl, m1 (j := 40) rfl rfl, m1 (j := 2) rfl rfl⟩
theorem k_X5_15 : KI RX5 15 yX4_init cX4_init 2 0 := KI_of (m1 (j := 41) rfl rfl) (m1 (j := 42) rfl rfl) (m1 (j := 2) rfl rfl) (m1 (j := 43) rfl rfl) (by decide +kernel)
theorem f_X5_16 : FL RX5 16 7 1 := ⟨RX5, TX5, 9, rfl, in_X5, by decide, "BowFoundry", m1 (j := 204) rfl rfl, rfl⟩
theorem cl_X5_20 : CL RX5 20 5 5 [.null, .null, .int 0, .int 0, .int 0] := ⟨RX3, TX3, rfl, in_X3, ⟨tyX3, tyX3_ok, fun j hj => by
  match j, hj with
  | 0, _ => rfl
  | 1, _ => rfl
  | 2, _ => rfl
  | 3, _ => rfl
  | 4, _ => rfl
  | j + 5, h => exact absurd h (by omega)⟩, m1 (j := 145) rfl rfl, m1 (j := 146) rfl rfl, m1 (j := 4) rfl rfl⟩
theorem f_X5_23 : FL RX5 23 7 2 := ⟨RX5, TX5, 9, rfl, in_X5, by decide, "BowFoundry", m1 (j := 205) rfl rfl, rfl⟩
theorem cl_X5_27 : CL RX5 27 1 4 [.null, .int 0, .int 0, .int 0] := ⟨RJ4, TJ4, rfl, in_J4, ⟨tyJ4, tyJ4_ok, fun j hj => by
  match j, hj with
  | 0, _ => rfl
  | 1, _ => rfl
  | 2, _ => rfl
  | 3, _ => rfl
  | j + 4, h => exact absurd h (by omega)⟩, m1 (j := 201) rfl rfl, m1 (j := 152) rfl rfl, m1 (j := 6) rfl rfl⟩
theorem k_X5_29 : KI RX5 29 yJ4_init_da8c8 cJ4_init_da8c8 1 0 := KI_of (m1 (j := 202) rfl rfl) (m1 (j := 154) rfl rfl) (m1 (j := 6) rfl rfl) (m1 (j := 155) rfl rfl) (by decide +kernel)
theorem f_X5_30 : FL RX5 30 7 3 := ⟨RX5, TX5, 9, rfl, in_X5, by decide, "BowFoundry", m1 (j := 206) rfl rfl, rfl⟩
theorem f_X5_34 : FL RX5 34 7 4 := ⟨RX5, TX5, 9, rfl, in_X5, by decide, "BowFoundry", m1 (j := 207) rfl rfl, rfl⟩
theorem f_X5_38 : FL RX5 38 7 5 := ⟨RX5, TX5, 9, rfl, in_X5, by decide, "BowFoundry", m1 (j := 208) rfl rfl, rfl⟩
theorem f_X5_41 : FL RX5 41 7 6 := ⟨RX5, TX5, 9, rfl, in_X5, by decide, "BowFoundry", m1 (j := 209) rfl rfl, rfl⟩
theorem f_X5_45 : FL RX5 45 7 7 := ⟨RX5, TX5, 9, rfl, in_X5, by decide, "BowFoundry", m1 (j := 210) rfl rfl, rfl⟩
theorem f_X5_48 : FL RX5 48 7 8 := ⟨RX5, TX5, 9, rfl, in_X5, by decide, "BowFoundry", m1 (j := 211) rfl rfl, rfl⟩
theorem k_X5_51 : KV RX5 51 RX5 yX5_draft cX5_draft 2 (some (.object "BowFoundry$State")) 0 := KV_of (m4 (j := 4) rfl rfl) (m4 (j := 6) rfl rfl) (mp1 (j := 2) rfl) (m1 (j := 1) rfl rfl) (m4 (j := 7) rfl rfl) (by decide +kernel)
theorem k_X5_55 : KV RX5 55 RX4 yX4_mixAlloy cX4_mixAlloy 4 (some .int) 3 := KV_of (m4 (j := 12) rfl rfl) (m4 (j := 13) rfl rfl) (m4 (j := 14) rfl rfl) (m1 (j := 2) rfl rfl) (m4 (j := 15) rfl rfl) (by decide +kernel)
theorem k_X5_59 : KV RX5 59 RX5 yX5_kept cX5_kept 3 (some .int) 1 := KV_of (m4 (j := 19) rfl rfl) (m4 (j := 21) rfl rfl) (mp1 (j := 4) rfl) (m1 (j := 1) rfl rfl) (m4 (j := 22) rfl rfl) (by decide +kernel)
theorem k_X5_63 : KV RX5 63 RX4 yX4_placeMould cX4_placeMould 2 (some .int) 1 := KV_of (m4 (j := 97) rfl rfl) (m4 (j := 98) rfl rfl) (m4 (j := 99) rfl rfl) (m1 (j := 2) rfl rfl) (m4 (j := 100) rfl rfl) (by decide +kernel)
theorem k_X5_66 : KV RX5 66 RX4 yX4_takeIn cX4_takeIn 3 (some .int) 2 := KV_of (m4 (j := 111) rfl rfl) (m4 (j := 112) rfl rfl) (m4 (j := 113) rfl rfl) (m1 (j := 2) rfl rfl) (m4 (j := 114) rfl rfl) (by decide +kernel)
theorem k_X5_70 : KV RX5 70 RX4 yX4_pour cX4_pour 5 (some .int) 3 := KV_of (m4 (j := 123) rfl rfl) (m4 (j := 124) rfl rfl) (m4 (j := 125) rfl rfl) (m1 (j := 2) rfl rfl) (m4 (j := 126) rfl rfl) (by decide +kernel)
theorem k_X5_73 : KV RX5 73 RX4 yX4_examine cX4_examine 5 (some .int) 1 := KV_of (m4 (j := 157) rfl rfl) (m4 (j := 158) rfl rfl) (m4 (j := 159) rfl rfl) (m1 (j := 2) rfl rfl) (m4 (j := 160) rfl rfl) (by decide +kernel)
theorem k_X5_76 : KV RX5 76 RX4 yX4_meltDown cX4_meltDown 8 (some .int) 1 := KV_of (m4 (j := 177) rfl rfl) (m4 (j := 178) rfl rfl) (m4 (j := 179) rfl rfl) (m1 (j := 2) rfl rfl) (m4 (j := 180) rfl rfl) (by decide +kernel)
theorem k_X5_79 : KV RX5 79 RX4 yX4_resetUses cX4_resetUses 3 (some .int) 1 := KV_of (m4 (j := 189) rfl rfl) (m4 (j := 190) rfl rfl) (m4 (j := 191) rfl rfl) (m1 (j := 2) rfl rfl) (m4 (j := 192) rfl rfl) (by decide +kernel)
theorem k_X5_82 : KV RX5 82 RX4 yX4_changeTolerance cX4_changeTolerance 3 (some .int) 1 := KV_of (m4 (j := 200) rfl rfl) (m4 (j := 201) rfl rfl) (m4 (j := 202) rfl rfl) (m1 (j := 2) rfl rfl) (m4 (j := 203) rfl rfl) (by decide +kernel)
theorem k_X5_85 : KV RX5 85 RX4 yX4_changeStep cX4_changeStep 3 (some .int) 1 := KV_of (m4 (j := 211) rfl rfl) (m4 (j := 212) rfl rfl) (m4 (j := 213) rfl rfl) (m1 (j := 2) rfl rfl) (m4 (j := 214) rfl rfl) (by decide +kernel)
theorem k_X5_88 : KV RX5 88 RX5 yX5_now cX5_now 1 (some (.object "BowFoundry$State")) 0 := KV_of (m1 (j := 235) rfl rfl) (m1 (j := 237) rfl rfl) (mp1 (j := 0) rfl) (m1 (j := 1) rfl rfl) (m1 (j := 238) rfl rfl) (by decide +kernel)
theorem f_X5_91 : FN RX5 91 6 0 := ⟨RX4, TX4, 17, rfl, in_X4, by decide, "BowFoundry$State", "BowFoundry", n1 (j := 85) rfl rfl, rfl⟩
theorem k_X5_94 : KV RX5 94 RX4 yX4_partsOf cX4_partsOf 3 (some .int) 2 := KV_of (m4 (j := 222) rfl rfl) (m4 (j := 223) rfl rfl) (m4 (j := 224) rfl rfl) (m1 (j := 2) rfl rfl) (m4 (j := 225) rfl rfl) (by decide +kernel)
theorem k_X5_97 : KS RX5 97 yX5_answered cX5_answered 1 (some .int) 1 := KS_of (m4 (j := 23) rfl rfl) (m4 (j := 24) rfl rfl) (m1 (j := 1) rfl rfl) (m4 (j := 25) rfl rfl) (by decide +kernel)
theorem f_X5_100 : FN RX5 100 6 2 := ⟨RX4, TX4, 17, rfl, in_X4, by decide, "BowFoundry$State", "BowFoundry", n1 (j := 88) rfl rfl, rfl⟩
theorem k_X5_103 : KV RX5 103 RX4 yX4_lengthOf cX4_lengthOf 2 (some .int) 1 := KV_of (m4 (j := 233) rfl rfl) (m4 (j := 234) rfl rfl) (m4 (j := 235) rfl rfl) (m1 (j := 2) rfl rfl) (m4 (j := 236) rfl rfl) (by decide +kernel)
theorem k_X5_106 : KV RX5 106 RX4 yX4_usesOf cX4_usesOf 2 (some .int) 1 := KV_of (m5 (j := 4) rfl rfl) (m5 (j := 5) rfl rfl) (m5 (j := 6) rfl rfl) (m1 (j := 2) rfl rfl) (m5 (j := 7) rfl rfl) (by decide +kernel)
theorem k_X5_109 : KV RX5 109 RX4 yX4_stockOf cX4_stockOf 2 (some .int) 1 := KV_of (m5 (j := 15) rfl rfl) (m5 (j := 16) rfl rfl) (m5 (j := 17) rfl rfl) (m1 (j := 2) rfl rfl) (m5 (j := 18) rfl rfl) (by decide +kernel)
theorem f_X5_112 : FN RX5 112 6 9 := ⟨RX4, TX4, 17, rfl, in_X4, by decide, "BowFoundry$State", "BowFoundry", n1 (j := 96) rfl rfl, rfl⟩
theorem f_X5_115 : FN RX5 115 6 10 := ⟨RX4, TX4, 17, rfl, in_X4, by decide, "BowFoundry$State", "BowFoundry", n1 (j := 98) rfl rfl, rfl⟩
theorem f_X5_118 : FN RX5 118 6 11 := ⟨RX4, TX4, 17, rfl, in_X4, by decide, "BowFoundry$State", "BowFoundry", n1 (j := 100) rfl rfl, rfl⟩
theorem f_X5_128 : FN RX5 128 6 12 := ⟨RX4, TX4, 17, rfl, in_X4, by decide, "BowFoundry$State", "BowFoundry", n1 (j := 102) rfl rfl, rfl⟩
theorem f_X5_132 : FN RX5 132 4 0 := ⟨RX1, TX1, 6, rfl, in_X1, by decide, "BowFoundry$Batch", "BowFoundry", n1 (j := 56) rfl rfl, rfl⟩
theorem k_X5_137 : KV RX5 137 RX5 yX5_placeOf cX5_placeOf 2 (some .int) 1 := KV_of (m5 (j := 34) rfl rfl) (m5 (j := 36) rfl rfl) (mp1 (j := 5) rfl) (m1 (j := 1) rfl rfl) (m5 (j := 37) rfl rfl) (by decide +kernel)
theorem f_X5_140 : FN RX5 140 4 4 := ⟨RX1, TX1, 6, rfl, in_X1, by decide, "BowFoundry$Batch", "BowFoundry", n1 (j := 67) rfl rfl, rfl⟩
theorem f_X5_143 : FN RX5 143 4 2 := ⟨RX1, TX1, 6, rfl, in_X1, by decide, "BowFoundry$Batch", "BowFoundry", n1 (j := 62) rfl rfl, rfl⟩
theorem f_X5_146 : FN RX5 146 4 1 := ⟨RX1, TX1, 6, rfl, in_X1, by decide, "BowFoundry$Batch", "BowFoundry", n1 (j := 59) rfl rfl, rfl⟩
theorem k_X5_149 : KV RX5 149 RX4 yX4_squeakOf cX4_squeakOf 4 (some .int) 1 := KV_of (m5 (j := 60) rfl rfl) (m5 (j := 61) rfl rfl) (m5 (j := 62) rfl rfl) (m1 (j := 2) rfl rfl) (m5 (j := 63) rfl rfl) (by decide +kernel)
theorem k_X5_152 : KV RX5 152 RX4 yX4_batchWith cX4_batchWith 3 (some .int) 1 := KV_of (m5 (j := 86) rfl rfl) (m5 (j := 87) rfl rfl) (m5 (j := 88) rfl rfl) (m1 (j := 2) rfl rfl) (m5 (j := 89) rfl rfl) (by decide +kernel)
theorem k_X5_155 : KV RX5 155 RX1 yX1_goodSampled cX1_goodSampled 6 (some .int) 2 := KV_of (m5 (j := 97) rfl rfl) (m2 (j := 44) rfl rfl) (m2 (j := 45) rfl rfl) (m1 (j := 3) rfl rfl) (m2 (j := 46) rfl rfl) (by decide +kernel)
theorem k_X5_158 : KV RX5 158 RX1 yX1_sampled cX1_sampled 2 (some .int) 1 := KV_of (m5 (j := 105) rfl rfl) (m2 (j := 48) rfl rfl) (m2 (j := 49) rfl rfl) (m1 (j := 3) rfl rfl) (m2 (j := 50) rfl rfl) (by decide +kernel)
theorem k_X5_161 : KV RX5 161 RX1 yX1_passes cX1_passes 3 (some .boolean) 2 := KV_of (m5 (j := 113) rfl rfl) (m2 (j := 40) rfl rfl) (m2 (j := 41) rfl rfl) (m1 (j := 3) rfl rfl) (m2 (j := 42) rfl rfl) (by decide +kernel)
theorem k_X5_165 : KV RX5 165 RX1 yX1_leastPassingSqueak cX1_leastPassingSqueak 5 (some .int) 1 := KV_of (m5 (j := 121) rfl rfl) (m2 (j := 36) rfl rfl) (m2 (j := 37) rfl rfl) (m1 (j := 3) rfl rfl) (m2 (j := 38) rfl rfl) (by decide +kernel)
theorem k_X5_168 : KV RX5 168 RX1 yX1_leastPassingTry cX1_leastPassingTry 3 (some .int) 1 := KV_of (m5 (j := 129) rfl rfl) (m2 (j := 52) rfl rfl) (m2 (j := 53) rfl rfl) (m1 (j := 3) rfl rfl) (m2 (j := 54) rfl rfl) (by decide +kernel)
theorem k_X5_171 : KV RX5 171 RX4 yX4_squeakToCome cX4_squeakToCome 5 (some .int) 2 := KV_of (m5 (j := 137) rfl rfl) (m4 (j := 146) rfl rfl) (m4 (j := 147) rfl rfl) (m1 (j := 2) rfl rfl) (m4 (j := 148) rfl rfl) (by decide +kernel)
theorem k_X5_174 : KV RX5 174 RX4 yX4_bowsInStore cX4_bowsInStore 5 (some .int) 1 := KV_of (m5 (j := 145) rfl rfl) (m4 (j := 136) rfl rfl) (m4 (j := 137) rfl rfl) (m1 (j := 2) rfl rfl) (m4 (j := 138) rfl rfl) (by decide +kernel)
theorem k_X5_177 : KV RX5 177 RX4 yX4_metalByBows cX4_metalByBows 5 (some .int) 1 := KV_of (m5 (j := 153) rfl rfl) (m2 (j := 60) rfl rfl) (m2 (j := 61) rfl rfl) (m1 (j := 2) rfl rfl) (m2 (j := 62) rfl rfl) (by decide +kernel)
theorem k_X5_180 : KV RX5 180 RX4 yX4_metalByBooks cX4_metalByBooks 2 (some .int) 1 := KV_of (m5 (j := 161) rfl rfl) (m2 (j := 67) rfl rfl) (m2 (j := 68) rfl rfl) (m1 (j := 2) rfl rfl) (m2 (j := 69) rfl rfl) (by decide +kernel)
theorem k_X5_183 : KV RX5 183 RX4 yX4_batchRanked cX4_batchRanked 3 (some .int) 1 := KV_of (m5 (j := 169) rfl rfl) (m5 (j := 170) rfl rfl) (m5 (j := 171) rfl rfl) (m1 (j := 2) rfl rfl) (m5 (j := 172) rfl rfl) (by decide +kernel)
theorem f_X5_186 : FN RX5 186 6 14 := ⟨RX4, TX4, 17, rfl, in_X4, by decide, "BowFoundry$State", "BowFoundry", n1 (j := 105) rfl rfl, rfl⟩
theorem f_X5_189 : FN RX5 189 6 15 := ⟨RX4, TX4, 17, rfl, in_X4, by decide, "BowFoundry$State", "BowFoundry", n1 (j := 107) rfl rfl, rfl⟩
theorem f_X5_192 : FN RX5 192 6 16 := ⟨RX4, TX4, 17, rfl, in_X4, by decide, "BowFoundry$State", "BowFoundry", n1 (j := 109) rfl rfl, rfl⟩
theorem k_X5_195 : KV RX5 195 RX4 yX4_lostOf cX4_lostOf 2 (some .int) 1 := KV_of (m5 (j := 188) rfl rfl) (m5 (j := 189) rfl rfl) (m5 (j := 190) rfl rfl) (m1 (j := 2) rfl rfl) (m5 (j := 191) rfl rfl) (by decide +kernel)
theorem k_X5_198 : KV RX5 198 RX4 yX4_bowsInBatches cX4_bowsInBatches 3 (some .int) 0 := KV_of (m5 (j := 213) rfl rfl) (m2 (j := 75) rfl rfl) (m2 (j := 76) rfl rfl) (m1 (j := 2) rfl rfl) (m2 (j := 77) rfl rfl) (by decide +kernel)
theorem k_X5_207 : KV RX5 207 RX4 yX4_squeaksInBatches cX4_squeaksInBatches 3 (some .int) 0 := KV_of (m5 (j := 217) rfl rfl) (m5 (j := 218) rfl rfl) (m5 (j := 219) rfl rfl) (m1 (j := 2) rfl rfl) (m5 (j := 220) rfl rfl) (by decide +kernel)
theorem k_X5_212 : KV RX5 212 RX4 yX4_tolerancesAgree cX4_tolerancesAgree 2 (some .boolean) 0 := KV_of (m2 (j := 31) rfl rfl) (m2 (j := 32) rfl rfl) (m2 (j := 33) rfl rfl) (m1 (j := 2) rfl rfl) (m2 (j := 34) rfl rfl) (by decide +kernel)
theorem k_X5_216 : KV RX5 216 RX4 yX4_metalsAgree cX4_metalsAgree 2 (some .boolean) 0 := KV_of (m2 (j := 55) rfl rfl) (m2 (j := 56) rfl rfl) (m2 (j := 57) rfl rfl) (m1 (j := 2) rfl rfl) (m2 (j := 58) rfl rfl) (by decide +kernel)
theorem k_X5_219 : KV RX5 219 RX4 yX4_bowsAgree cX4_bowsAgree 1 (some .boolean) 0 := KV_of (m2 (j := 70) rfl rfl) (m2 (j := 71) rfl rfl) (m2 (j := 72) rfl rfl) (m1 (j := 2) rfl rfl) (m2 (j := 73) rfl rfl) (by decide +kernel)
theorem k_X5_222 : KV RX5 222 RJ4 yJ4_setLength_d00df cJ4_setLength_d00df 2 none 1 := KV_of (m2 (j := 82) rfl rfl) (m2 (j := 83) rfl rfl) (m2 (j := 84) rfl rfl) (m1 (j := 6) rfl rfl) (m2 (j := 85) rfl rfl) (by decide +kernel)
theorem k_X5_226 : KV RX5 226 RX1 yX1_describe cX1_describe 3 none 1 := KV_of (m5 (j := 236) rfl rfl) (m5 (j := 237) rfl rfl) (m5 (j := 238) rfl rfl) (m1 (j := 3) rfl rfl) (m5 (j := 239) rfl rfl) (by decide +kernel)
theorem k_X5_230 : KV RX5 230 RJ4 yJ4_length_8abf5 cJ4_length_8abf5 1 (some .int) 0 := KV_of (m3 (j := 216) rfl rfl) (m3 (j := 24) rfl rfl) (m8 (j := 123) rfl rfl) (m1 (j := 6) rfl rfl) (m3 (j := 25) rfl rfl) (by decide +kernel)
theorem k_X5_233 : KV RX5 233 RX4 yX4_describe cX4_describe 3 none 1 := KV_of (m3 (j := 189) rfl rfl) (m3 (j := 190) rfl rfl) (m3 (j := 191) rfl rfl) (m1 (j := 2) rfl rfl) (m3 (j := 192) rfl rfl) (by decide +kernel)
theorem k_X5_239 : KV RX5 239 RJ4 yJ4_charAt_5068e cJ4_charAt_5068e 2 (some .char) 1 := KV_of (m6 (j := 10) rfl rfl) (m6 (j := 11) rfl rfl) (m6 (j := 12) rfl rfl) (m1 (j := 6) rfl rfl) (m6 (j := 13) rfl rfl) (by decide +kernel)
theorem k_X5_248 : KV RX5 248 RX3 yX3_length cX3_length 1 (some .int) 0 := KV_of (m6 (j := 28) rfl rfl) (m6 (j := 29) rfl rfl) (m6 (j := 30) rfl rfl) (m1 (j := 4) rfl rfl) (m6 (j := 31) rfl rfl) (by decide +kernel)
theorem k_X5_254 : KV RX5 254 RX3 yX3_append cX3_append 2 (some .int) 1 := KV_of (m6 (j := 34) rfl rfl) (m6 (j := 35) rfl rfl) (m6 (j := 36) rfl rfl) (m1 (j := 4) rfl rfl) (m6 (j := 37) rfl rfl) (by decide +kernel)
theorem k_X5_258 : KV RX5 258 RX3 yX3_firstError cX3_firstError 2 (some .int) 0 := KV_of (m6 (j := 46) rfl rfl) (m6 (j := 47) rfl rfl) (m6 (j := 48) rfl rfl) (m1 (j := 4) rfl rfl) (m6 (j := 49) rfl rfl) (by decide +kernel)
theorem k_X5_261 : KV RX5 261 RX3 yX3_clear cX3_clear 1 none 0 := KV_of (m6 (j := 90) rfl rfl) (m6 (j := 91) rfl rfl) (m6 (j := 92) rfl rfl) (m1 (j := 4) rfl rfl) (m6 (j := 93) rfl rfl) (by decide +kernel)
theorem k_X5_266 : KV RX5 266 RX3 yX3_firstFailure cX3_firstFailure 4 (some .int) 1 := KV_of (m6 (j := 96) rfl rfl) (m6 (j := 97) rfl rfl) (m6 (j := 98) rfl rfl) (m1 (j := 4) rfl rfl) (m6 (j := 99) rfl rfl) (by decide +kernel)
theorem f_X5_270 : FN RX5 270 5 4 := ⟨RX3, TX3, 5, rfl, in_X3, by decide, "BowFoundry$Script", "BowFoundry", n1 (j := 189) rfl rfl, rfl⟩
theorem k_X5_281 : KV RX5 281 RX4 yX4_copyFrom cX4_copyFrom 3 none 1 := KV_of (m3 (j := 221) rfl rfl) (m3 (j := 222) rfl rfl) (m3 (j := 223) rfl rfl) (m1 (j := 2) rfl rfl) (m3 (j := 224) rfl rfl) (by decide +kernel)
theorem k_X5_287 : KV RX5 287 RX5 yX5_following cX5_following 1 (some .int) 0 := KV_of (m4 (j := 8) rfl rfl) (m4 (j := 10) rfl rfl) (mp1 (j := 3) rfl) (m1 (j := 1) rfl rfl) (m4 (j := 11) rfl rfl) (by decide +kernel)
theorem k_X5_290 : KS RX5 290 yJ9_min_7cf53 cJ9_min_7cf53 2 (some .int) 2 := KS_of (m3 (j := 228) rfl rfl) (m2 (j := 138) rfl rfl) (m1 (j := 10) rfl rfl) (m2 (j := 139) rfl rfl) (by decide +kernel)
theorem k_X5_295 : KV RX5 295 RX4 yX4_placeWith cX4_placeWith 3 (some .int) 1 := KV_of (m5 (j := 38) rfl rfl) (m4 (j := 162) rfl rfl) (m4 (j := 163) rfl rfl) (m1 (j := 2) rfl rfl) (m4 (j := 164) rfl rfl) (by decide +kernel)
theorem f_X6_7 : FL RX6 7 8 0 := ⟨RX6, TX6, 16, rfl, in_X6, by decide, "BowFoundryModel", m6 (j := 160) rfl rfl, rfl⟩
theorem f_X6_13 : FL RX6 13 8 1 := ⟨RX6, TX6, 16, rfl, in_X6, by decide, "BowFoundryModel", m6 (j := 161) rfl rfl, rfl⟩
theorem f_X6_16 : FL RX6 16 8 2 := ⟨RX6, TX6, 16, rfl, in_X6, by decide, "BowFoundryModel", m6 (j := 162) rfl rfl, rfl⟩
theorem f_X6_19 : FL RX6 19 8 4 := ⟨RX6, TX6, 16, rfl, in_X6, by decide, "BowFoundryModel", m6 (j := 164) rfl rfl, rfl⟩
theorem f_X6_22 : FL RX6 22 8 6 := ⟨RX6, TX6, 16, rfl, in_X6, by decide, "BowFoundryModel", m6 (j := 166) rfl rfl, rfl⟩
theorem f_X6_26 : FL RX6 26 8 8 := ⟨RX6, TX6, 16, rfl, in_X6, by decide, "BowFoundryModel", m6 (j := 168) rfl rfl, rfl⟩
theorem f_X6_30 : FL RX6 30 8 9 := ⟨RX6, TX6, 16, rfl, in_X6, by decide, "BowFoundryModel", m6 (j := 169) rfl rfl, rfl⟩
theorem f_X6_33 : FL RX6 33 8 10 := ⟨RX6, TX6, 16, rfl, in_X6, by decide, "BowFoundryModel", m6 (j := 170) rfl rfl, rfl⟩
theorem f_X6_36 : FL RX6 36 8 15 := ⟨RX6, TX6, 16, rfl, in_X6, by decide, "BowFoundryModel", m6 (j := 175) rfl rfl, rfl⟩
theorem f_X6_39 : FL RX6 39 8 12 := ⟨RX6, TX6, 16, rfl, in_X6, by decide, "BowFoundryModel", m6 (j := 172) rfl rfl, rfl⟩
theorem k_X6_42 : KS RX6 42 yX6_copy cX6_copy 5 none 4 := KS_of (m6 (j := 222) rfl rfl) (m6 (j := 223) rfl rfl) (m1 (j := 9) rfl rfl) (m6 (j := 224) rfl rfl) (by decide +kernel)
theorem f_X6_46 : FL RX6 46 8 3 := ⟨RX6, TX6, 16, rfl, in_X6, by decide, "BowFoundryModel", m6 (j := 163) rfl rfl, rfl⟩
theorem k_X6_49 : KS RX6 49 yX6_in cX6_in 3 (some .boolean) 3 := KS_of (m6 (j := 229) rfl rfl) (m6 (j := 230) rfl rfl) (m1 (j := 9) rfl rfl) (m6 (j := 231) rfl rfl) (by decide +kernel)
theorem k_X6_53 : KV RX6 53 RX6 yX6_part cX6_part 3 (some .int) 2 := KV_of (m7 (j := 43) rfl rfl) (m7 (j := 45) rfl rfl) (mp2 (j := 1) rfl) (m1 (j := 9) rfl rfl) (m7 (j := 46) rfl rfl) (by decide +kernel)
theorem k_X6_57 : KV RX6 57 RX6 yX6_squeakAt cX6_squeakAt 3 (some .int) 2 := KV_of (m7 (j := 71) rfl rfl) (m7 (j := 73) rfl rfl) (mp2 (j := 7) rfl) (m1 (j := 9) rfl rfl) (m7 (j := 74) rfl rfl) (by decide +kernel)
theorem k_X6_60 : KV RX6 60 RX6 yX6_goodOnes cX6_goodOnes 5 (some .int) 2 := KV_of (m7 (j := 67) rfl rfl) (m7 (j := 69) rfl rfl) (mp2 (j := 6) rfl) (m1 (j := 9) rfl rfl) (m7 (j := 70) rfl rfl) (by decide +kernel)
theorem k_X6_63 : KV RX6 63 RX6 yX6_sampled cX6_sampled 2 (some .int) 1 := KV_of (m7 (j := 75) rfl rfl) (m7 (j := 77) rfl rfl) (mp2 (j := 8) rfl) (m1 (j := 9) rfl rfl) (m7 (j := 78) rfl rfl) (by decide +kernel)
theorem k_X6_67 : KV RX6 67 RX6 yX6_fails cX6_fails 2 (some .int) 1 := KV_of (m6 (j := 232) rfl rfl) (m6 (j := 234) rfl rfl) (mp1 (j := 8) rfl) (m1 (j := 9) rfl rfl) (m6 (j := 235) rfl rfl) (by decide +kernel)
theorem k_X6_70 : KV RX6 70 RX6 yX6_done cX6_done 2 (some .int) 1 := KV_of (m6 (j := 236) rfl rfl) (m6 (j := 238) rfl rfl) (mp1 (j := 9) rfl) (m1 (j := 9) rfl rfl) (m6 (j := 239) rfl rfl) (by decide +kernel)
theorem k_X6_73 : KV RX6 73 RX6 yX6_begin cX6_begin 1 none 0 := KV_of (m6 (j := 218) rfl rfl) (m6 (j := 220) rfl rfl) (mp1 (j := 6) rfl) (m1 (j := 9) rfl rfl) (m6 (j := 221) rfl rfl) (by decide +kernel)
theorem k_X6_76 : KV RX6 76 RX6 yX6_addsAlloy cX6_addsAlloy 5 (some .int) 3 := KV_of (m6 (j := 225) rfl rfl) (m6 (j := 227) rfl rfl) (mp1 (j := 7) rfl) (m1 (j := 9) rfl rfl) (m6 (j := 228) rfl rfl) (by decide +kernel)
theorem k_X6_80 : KV RX6 80 RX6 yX6_kept cX6_kept 3 (some .int) 1 := KV_of (m7 (j := 0) rfl rfl) (m7 (j := 2) rfl rfl) (mp1 (j := 10) rfl) (m1 (j := 9) rfl rfl) (m7 (j := 3) rfl rfl) (by decide +kernel)
theorem k_X6_83 : KV RX6 83 RX6 yX6_addsMould cX6_addsMould 3 (some .int) 1 := KV_of (m7 (j := 8) rfl rfl) (m7 (j := 10) rfl rfl) (mp1 (j := 11) rfl) (m1 (j := 9) rfl rfl) (m7 (j := 11) rfl rfl) (by decide +kernel)
theorem k_X6_86 : KS RX6 86 yX6_isMetal cX6_isMetal 1 (some .boolean) 1 := KS_of (m7 (j := 20) rfl rfl) (m7 (j := 21) rfl rfl) (m1 (j := 9) rfl rfl) (m7 (j := 22) rfl rfl) (by decide +kernel)
theorem k_X6_90 : KV RX6 90 RX6 yX6_buys cX6_buys 3 (some .int) 2 := KV_of (m7 (j := 16) rfl rfl) (m7 (j := 18) rfl rfl) (mp1 (j := 12) rfl) (m1 (j := 9) rfl rfl) (m7 (j := 19) rfl rfl) (by decide +kernel)
theorem k_X6_93 : KV RX6 93 RX6 yX6_isAlloy cX6_isAlloy 2 (some .boolean) 1 := KV_of (m7 (j := 31) rfl rfl) (m7 (j := 33) rfl rfl) (mp1 (j := 14) rfl) (m1 (j := 9) rfl rfl) (m7 (j := 34) rfl rfl) (by decide +kernel)
theorem k_X6_96 : KV RX6 96 RX6 yX6_isMould cX6_isMould 2 (some .boolean) 1 := KV_of (m7 (j := 35) rfl rfl) (m7 (j := 37) rfl rfl) (mp1 (j := 15) rfl) (m1 (j := 9) rfl rfl) (m7 (j := 38) rfl rfl) (by decide +kernel)
theorem k_X6_99 : KV RX6 99 RX6 yX6_hasMetal cX6_hasMetal 5 (some .boolean) 2 := KV_of (m7 (j := 39) rfl rfl) (m7 (j := 41) rfl rfl) (mp2 (j := 0) rfl) (m1 (j := 9) rfl rfl) (m7 (j := 42) rfl rfl) (by decide +kernel)
theorem k_X6_103 : KV RX6 103 RX6 yX6_squeakOf cX6_squeakOf 4 (some .int) 2 := KV_of (m7 (j := 47) rfl rfl) (m7 (j := 49) rfl rfl) (mp2 (j := 2) rfl) (m1 (j := 9) rfl rfl) (m7 (j := 50) rfl rfl) (by decide +kernel)
theorem k_X6_106 : KV RX6 106 RX6 yX6_casts cX6_casts 6 (some .int) 3 := KV_of (m7 (j := 27) rfl rfl) (m7 (j := 29) rfl rfl) (mp1 (j := 13) rfl) (m1 (j := 9) rfl rfl) (m7 (j := 30) rfl rfl) (by decide +kernel)
theorem k_X6_109 : KV RX6 109 RX6 yX6_drops cX6_drops 4 none 1 := KV_of (m7 (j := 83) rfl rfl) (m7 (j := 85) rfl rfl) (mp2 (j := 10) rfl) (m1 (j := 9) rfl rfl) (m7 (j := 86) rfl rfl) (by decide +kernel)
theorem k_X6_113 : KV RX6 113 RX6 yX6_placeOf cX6_placeOf 3 (some .int) 1 := KV_of (m7 (j := 59) rfl rfl) (m7 (j := 61) rfl rfl) (mp2 (j := 4) rfl) (m1 (j := 9) rfl rfl) (m7 (j := 62) rfl rfl) (by decide +kernel)
theorem k_X6_116 : KV RX6 116 RX6 yX6_passes cX6_passes 3 (some .boolean) 2 := KV_of (m7 (j := 63) rfl rfl) (m7 (j := 65) rfl rfl) (mp2 (j := 5) rfl) (m1 (j := 9) rfl rfl) (m7 (j := 66) rfl rfl) (by decide +kernel)
theorem k_X6_119 : KV RX6 119 RX6 yX6_sells cX6_sells 3 none 1 := KV_of (m7 (j := 79) rfl rfl) (m7 (j := 81) rfl rfl) (mp2 (j := 9) rfl) (m1 (j := 9) rfl rfl) (m7 (j := 82) rfl rfl) (by decide +kernel)
theorem k_X6_122 : KV RX6 122 RX6 yX6_inspects cX6_inspects 4 (some .int) 1 := KV_of (m7 (j := 55) rfl rfl) (m7 (j := 57) rfl rfl) (mp2 (j := 3) rfl) (m1 (j := 9) rfl rfl) (m7 (j := 58) rfl rfl) (by decide +kernel)
theorem k_X6_125 : KV RX6 125 RX6 yX6_melts cX6_melts 7 (some .int) 1 := KV_of (m7 (j := 91) rfl rfl) (m7 (j := 93) rfl rfl) (mp2 (j := 11) rfl) (m1 (j := 9) rfl rfl) (m7 (j := 94) rfl rfl) (by decide +kernel)
theorem k_X6_128 : KV RX6 128 RX6 yX6_renews cX6_renews 3 (some .int) 1 := KV_of (m7 (j := 99) rfl rfl) (m7 (j := 101) rfl rfl) (mp2 (j := 12) rfl) (m1 (j := 9) rfl rfl) (m7 (j := 102) rfl rfl) (by decide +kernel)
theorem k_X6_131 : KV RX6 131 RX6 yX6_sets cX6_sets 6 (some .int) 4 := KV_of (m7 (j := 107) rfl rfl) (m7 (j := 109) rfl rfl) (mp2 (j := 13) rfl) (m1 (j := 9) rfl rfl) (m7 (j := 110) rfl rfl) (by decide +kernel)
theorem k_X6_135 : KV RX6 135 RX6 yX6_batchNumber cX6_batchNumber 4 (some .int) 2 := KV_of (m7 (j := 159) rfl rfl) (m7 (j := 161) rfl rfl) (mp2 (j := 14) rfl) (m1 (j := 9) rfl rfl) (m7 (j := 162) rfl rfl) (by decide +kernel)
theorem k_X6_138 : KV RX6 138 RX6 yX6_placeWith cX6_placeWith 3 (some .int) 1 := KV_of (m7 (j := 175) rfl rfl) (m7 (j := 177) rfl rfl) (mp2 (j := 15) rfl) (m1 (j := 9) rfl rfl) (m7 (j := 178) rfl rfl) (by decide +kernel)
theorem k_X6_141 : KV RX6 141 RX6 yX6_squeak cX6_squeak 3 (some .int) 1 := KV_of (m7 (j := 183) rfl rfl) (m7 (j := 172) rfl rfl) (m7 (j := 173) rfl rfl) (m1 (j := 9) rfl rfl) (m7 (j := 174) rfl rfl) (by decide +kernel)
theorem k_X6_144 : KV RX6 144 RX6 yX6_neededTolerance cX6_neededTolerance 4 (some .int) 1 := KV_of (m7 (j := 208) rfl rfl) (m7 (j := 201) rfl rfl) (m7 (j := 202) rfl rfl) (m1 (j := 9) rfl rfl) (m7 (j := 203) rfl rfl) (by decide +kernel)
theorem k_X6_147 : KV RX6 147 RX6 yX6_metalInBatches cX6_metalInBatches 4 (some .int) 1 := KV_of (m7 (j := 225) rfl rfl) (m7 (j := 218) rfl rfl) (m7 (j := 219) rfl rfl) (m1 (j := 9) rfl rfl) (m7 (j := 220) rfl rfl) (by decide +kernel)
theorem k_X6_150 : KV RX6 150 RX6 yX6_sumOf cX6_sumOf 4 (some .int) 1 := KV_of (m7 (j := 230) rfl rfl) (m7 (j := 232) rfl rfl) (mp3 (j := 0) rfl) (m1 (j := 9) rfl rfl) (m7 (j := 233) rfl rfl) (by decide +kernel)
theorem f_X6_153 : FL RX6 153 8 11 := ⟨RX6, TX6, 16, rfl, in_X6, by decide, "BowFoundryModel", m6 (j := 171) rfl rfl, rfl⟩
theorem k_X6_156 : KV RX6 156 RX6 yX6_writes cX6_writes 2 none 1 := KV_of (m8 (j := 30) rfl rfl) (m8 (j := 32) rfl rfl) (mp3 (j := 2) rfl) (m1 (j := 9) rfl rfl) (m8 (j := 33) rfl rfl) (by decide +kernel)
theorem k_X6_159 : KV RX6 159 RX6 yX6_writesNumber cX6_writesNumber 3 none 1 := KV_of (m8 (j := 26) rfl rfl) (m8 (j := 28) rfl rfl) (mp3 (j := 1) rfl) (m1 (j := 9) rfl rfl) (m8 (j := 29) rfl rfl) (by decide +kernel)
theorem f_X6_162 : FL RX6 162 8 7 := ⟨RX6, TX6, 16, rfl, in_X6, by decide, "BowFoundryModel", m6 (j := 167) rfl rfl, rfl⟩
theorem f_X6_165 : FL RX6 165 8 13 := ⟨RX6, TX6, 16, rfl, in_X6, by decide, "BowFoundryModel", m6 (j := 173) rfl rfl, rfl⟩
theorem f_X6_168 : FL RX6 168 8 14 := ⟨RX6, TX6, 16, rfl, in_X6, by decide, "BowFoundryModel", m6 (j := 174) rfl rfl, rfl⟩
theorem k_X6_172 : KV RX6 172 RX6 yX6_here cX6_here 1 (some .int) 0 := KV_of (m8 (j := 54) rfl rfl) (m8 (j := 56) rfl rfl) (mp3 (j := 4) rfl) (m1 (j := 9) rfl rfl) (m8 (j := 57) rfl rfl) (by decide +kernel)
theorem k_X6_176 : KV RX6 176 RX6 yX6_needs cX6_needs 2 none 1 := KV_of (m8 (j := 66) rfl rfl) (m8 (j := 68) rfl rfl) (mp3 (j := 7) rfl) (m1 (j := 9) rfl rfl) (m8 (j := 69) rfl rfl) (by decide +kernel)
theorem k_X6_179 : KV RX6 179 RX6 yX6_digits cX6_digits 4 (some .int) 1 := KV_of (m8 (j := 74) rfl rfl) (m8 (j := 76) rfl rfl) (mp3 (j := 9) rfl) (m1 (j := 9) rfl rfl) (m8 (j := 77) rfl rfl) (by decide +kernel)
theorem k_X6_182 : KV RX6 182 RX6 yX6_needsThree cX6_needsThree 4 none 3 := KV_of (m8 (j := 62) rfl rfl) (m8 (j := 64) rfl rfl) (mp3 (j := 6) rfl) (m1 (j := 9) rfl rfl) (m8 (j := 65) rfl rfl) (by decide +kernel)
theorem k_X6_186 : KV RX6 186 RX6 yX6_behindBlank cX6_behindBlank 2 (some .int) 1 := KV_of (m8 (j := 70) rfl rfl) (m8 (j := 72) rfl rfl) (mp3 (j := 8) rfl) (m1 (j := 9) rfl rfl) (m8 (j := 73) rfl rfl) (by decide +kernel)
theorem k_X6_189 : KV RX6 189 RX6 yX6_parsesAlloy cX6_parsesAlloy 2 none 1 := KV_of (m8 (j := 58) rfl rfl) (m8 (j := 60) rfl rfl) (mp3 (j := 5) rfl) (m1 (j := 9) rfl rfl) (m8 (j := 61) rfl rfl) (by decide +kernel)
theorem k_X6_192 : KV RX6 192 RX6 yX6_parsesM cX6_parsesM 2 none 1 := KV_of (m8 (j := 78) rfl rfl) (m8 (j := 80) rfl rfl) (mp3 (j := 10) rfl) (m1 (j := 9) rfl rfl) (m8 (j := 81) rfl rfl) (by decide +kernel)
theorem k_X6_195 : KV RX6 195 RX6 yX6_parsesCast cX6_parsesCast 2 none 1 := KV_of (m8 (j := 82) rfl rfl) (m8 (j := 84) rfl rfl) (mp3 (j := 11) rfl) (m1 (j := 9) rfl rfl) (m8 (j := 85) rfl rfl) (by decide +kernel)
theorem k_X6_198 : KV RX6 198 RX6 yX6_parsesCommand cX6_parsesCommand 3 none 1 := KV_of (m8 (j := 50) rfl rfl) (m8 (j := 52) rfl rfl) (mp3 (j := 3) rfl) (m1 (j := 9) rfl rfl) (m8 (j := 53) rfl rfl) (by decide +kernel)
theorem k_X6_201 : KV RX6 201 RX6 yX6_carriesOut cX6_carriesOut 4 (some .int) 1 := KV_of (m8 (j := 86) rfl rfl) (m8 (j := 88) rfl rfl) (mp3 (j := 12) rfl) (m1 (j := 9) rfl rfl) (m8 (j := 89) rfl rfl) (by decide +kernel)
theorem f_X6_204 : FL RX6 204 8 5 := ⟨RX6, TX6, 16, rfl, in_X6, by decide, "BowFoundryModel", m6 (j := 165) rfl rfl, rfl⟩
theorem in_pos {ls : List Cond} (ps : List (Nat × Nat)) (h : ls.map some = ps.map (fun q => (match q.1 with | 1 => tables_1_1 | 2 => tables_1_2 | 3 => tables_1_3 | 4 => tables_1_4 | 5 => tables_1_5 | 6 => tables_1_6 | 7 => tables_1_7 | 8 => tables_1_8 | _ => k2_sels lw_privs)[q.2]?)) (hg : ls.all (fun w => goodWord w || (nwd w && w.onTables)) = true) : ∀ w ∈ ls, w ∈ T0 ∨ (w ∈ N0 ∧ w.onTables = true) := by
  intro w hw
  have g := List.all_eq_true.mp hg w hw
  have h1 : some w ∈ ls.map some := List.mem_map.mpr ⟨w, hw, rfl⟩
  rw [h] at h1
  obtain ⟨q, -, hq⟩ := List.mem_map.mp h1
  obtain ⟨a, b⟩ := q
  have hm : w ∈ lw_tbl := by
    match a, hq with
    | 1, hq => exact tm1 hq
    | 2, hq => exact tm2 hq
    | 3, hq => exact tm3 hq
    | 4, hq => exact tm4 hq
    | 5, hq => exact tm5 hq
    | 6, hq => exact tm6 hq
    | 7, hq => exact tm7 hq
    | 8, hq => exact tm8 hq
    | 0, hq => exact List.mem_append_left _ (List.mem_of_getElem? hq)
    | n + 9, hq => exact List.mem_append_left _ (List.mem_of_getElem? hq)
  rw [Bool.or_eq_true] at g
  exact g.elim (fun g => Or.inl (T0_of hm g)) (fun g => Or.inr ⟨N0_of hm (Bool.and_eq_true _ _ ▸ g).1, (Bool.and_eq_true _ _ ▸ g).2⟩)
theorem th_IOOB : TH "BowFoundry" 234 238 7 prog_21_method_2_code "java/lang/IndexOutOfBoundsException" := ⟨by decide +kernel, by decide +kernel, by decide +kernel, by decide +kernel, by decide +kernel, m4 (j := 26) rfl rfl, m1 (j := 15) rfl rfl, in_pos [(1, 12), (3, 60), (3, 69), (3, 78), (3, 81), (3, 83), (3, 61), (3, 62), (1, 36), (1, 37), (3, 63), (3, 68), (3, 79), (3, 104), (3, 50), (3, 105), (3, 52), (3, 106), (3, 54), (3, 64), (3, 66), (3, 56), (3, 100), (3, 101), (3, 103), (3, 56), (3, 140), (3, 141), (3, 142), (3, 94), (3, 42), (3, 94), (3, 95), (3, 96), (3, 97), (3, 44), (3, 97), (3, 98), (3, 99), (3, 100), (3, 46), (4, 36), (4, 27), (4, 28), (4, 29), (3, 74), (4, 30), (4, 31), (4, 32), (4, 33), (3, 59), (3, 58), (4, 34)] (by decide +kernel) (by decide +kernel), by decide +kernel⟩
theorem th_IAE : TH "BowFoundry" 243 247 7 prog_19_method_2_code "java/lang/IllegalArgumentException" := ⟨by decide +kernel, by decide +kernel, by decide +kernel, by decide +kernel, by decide +kernel, m4 (j := 39) rfl rfl, m1 (j := 16) rfl rfl, in_pos [(1, 12), (3, 60), (3, 69), (3, 78), (3, 81), (3, 83), (3, 61), (3, 62), (1, 36), (1, 37), (3, 63), (3, 68), (3, 79), (3, 104), (3, 50), (3, 105), (3, 52), (3, 106), (3, 54), (3, 64), (3, 66), (3, 56), (3, 100), (3, 101), (3, 103), (3, 56), (3, 91), (3, 92), (3, 93), (3, 94), (3, 42), (3, 94), (3, 95), (3, 96), (3, 97), (3, 44), (3, 97), (3, 98), (3, 99), (3, 100), (3, 46), (4, 41), (3, 39), (3, 40), (3, 47), (3, 48), (3, 49), (3, 51), (3, 53), (3, 55), (3, 59), (3, 58), (3, 57)] (by decide +kernel) (by decide +kernel), by decide +kernel⟩
theorem th_ISE : TH "BowFoundry" 249 253 7 prog_20_method_2_code "java/lang/IllegalStateException" := ⟨by decide +kernel, by decide +kernel, by decide +kernel, by decide +kernel, by decide +kernel, m4 (j := 42) rfl rfl, m1 (j := 17) rfl rfl, in_pos [(1, 12), (3, 60), (3, 69), (3, 78), (3, 81), (3, 83), (3, 61), (3, 62), (1, 36), (1, 37), (3, 63), (3, 68), (3, 79), (3, 104), (3, 50), (3, 105), (3, 52), (3, 106), (3, 54), (3, 64), (3, 66), (3, 56), (3, 100), (3, 101), (3, 103), (3, 56), (4, 53), (4, 54), (4, 55), (3, 94), (3, 42), (3, 94), (3, 95), (3, 96), (3, 97), (3, 44), (3, 97), (3, 98), (3, 99), (3, 100), (3, 46), (4, 52), (4, 43), (4, 44), (4, 45), (3, 73), (4, 46), (4, 47), (4, 48), (4, 49), (3, 59), (3, 58), (4, 50)] (by decide +kernel) (by decide +kernel), by decide +kernel⟩
theorem th_UOE : TH "BowFoundry" 304 308 7 prog_33_method_2_code "java/lang/UnsupportedOperationException" := ⟨by decide +kernel, by decide +kernel, by decide +kernel, by decide +kernel, by decide +kernel, m4 (j := 58) rfl rfl, m1 (j := 18) rfl rfl, in_pos [(1, 12), (3, 60), (3, 69), (3, 78), (3, 81), (3, 83), (3, 61), (3, 62), (1, 36), (1, 37), (3, 63), (3, 68), (3, 79), (3, 104), (3, 50), (3, 105), (3, 52), (3, 106), (3, 54), (3, 64), (3, 66), (3, 56), (3, 100), (3, 101), (3, 103), (3, 56), (4, 69), (4, 70), (4, 71), (3, 94), (3, 42), (3, 94), (3, 95), (3, 96), (3, 97), (3, 44), (3, 97), (3, 98), (3, 99), (3, 100), (3, 46), (4, 68), (4, 59), (4, 60), (4, 61), (3, 76), (4, 62), (4, 63), (4, 64), (4, 65), (3, 59), (3, 58), (4, 66)] (by decide +kernel) (by decide +kernel), by decide +kernel⟩
theorem th_NSE : TH "BowFoundry" 121 125 13 prog_37_method_4_code "java/util/NoSuchElementException" := ⟨by decide +kernel, by decide +kernel, by decide +kernel, by decide +kernel, by decide +kernel, m4 (j := 74) rfl rfl, m1 (j := 19) rfl rfl, in_pos [(1, 12), (3, 60), (3, 69), (3, 78), (3, 81), (3, 83), (3, 61), (3, 62), (1, 36), (1, 37), (3, 63), (3, 68), (3, 79), (3, 104), (3, 50), (3, 105), (3, 52), (3, 106), (3, 54), (3, 64), (3, 66), (3, 56), (3, 100), (3, 101), (3, 103), (3, 56), (4, 85), (4, 86), (4, 87), (3, 94), (3, 42), (3, 94), (3, 95), (3, 96), (3, 97), (3, 44), (3, 97), (3, 98), (3, 99), (3, 100), (3, 46), (4, 84), (4, 75), (4, 76), (4, 77), (3, 77), (4, 78), (4, 79), (4, 80), (4, 81), (3, 59), (3, 58), (4, 82)] (by decide +kernel) (by decide +kernel), by decide +kernel⟩
theorem th_AE : TH "BowFoundry" 202 206 7 prog_12_method_2_code "java/lang/ArithmeticException" := ⟨by decide +kernel, by decide +kernel, by decide +kernel, by decide +kernel, by decide +kernel, m5 (j := 214) rfl rfl, m1 (j := 21) rfl rfl, in_pos [(1, 12), (3, 60), (3, 69), (3, 78), (3, 81), (3, 83), (3, 61), (3, 62), (1, 36), (1, 37), (3, 63), (3, 68), (3, 79), (3, 104), (3, 50), (3, 105), (3, 52), (3, 106), (3, 54), (3, 64), (3, 66), (3, 56), (3, 100), (3, 101), (3, 103), (3, 56), (5, 197), (5, 198), (5, 199), (3, 94), (3, 42), (3, 94), (3, 95), (3, 96), (3, 97), (3, 44), (3, 97), (3, 98), (3, 99), (3, 100), (3, 46), (5, 216), (5, 196), (5, 207), (5, 208), (3, 71), (5, 202), (5, 203), (5, 205), (5, 201), (3, 59), (3, 58), (5, 200)] (by decide +kernel) (by decide +kernel), by decide +kernel⟩
end

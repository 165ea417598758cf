section
-- ===== PART A: goes FIRST, ahead of the names: the tables' words, and 'selects' of the private methods out of them =====
/-- a private method of a class that the tables say can be made, by its rows of tables_1 -/
def lw_okq (q : MethodName × Nat) : Prop := (q.1.cls ≠ "java/lang/invoke/MethodHandle" ∧ q.1.cls ≠ "java/lang/invoke/VarHandle") ∧ Cond.instantiable q.1.cls q.2 ∈ tables_1 ∧ Cond.privateMethod q.1 ∈ tables_1 ∧ Cond.instanceMethod q.1 ∈ tables_1
theorem lw_p0 : lw_okq (⟨"JournaledTables", "startAnew", "()V"⟩, 6) := ⟨⟨by decide +kernel, by decide +kernel⟩, List.mem_of_getElem? (i := 10) (by decide +kernel), List.mem_of_getElem? (i := 125) (by decide +kernel), List.mem_of_getElem? (i := 126) (by decide +kernel)⟩
theorem lw_p1 : lw_okq (⟨"JournaledTables", "refusalOfChange", "(I)I"⟩, 6) := ⟨⟨by decide +kernel, by decide +kernel⟩, List.mem_of_getElem? (i := 10) (by decide +kernel), List.mem_of_getElem? (i := 160) (by decide +kernel), List.mem_of_getElem? (i := 161) (by decide +kernel)⟩
theorem lw_p2 : lw_okq (⟨"JournaledTables", "refusalOutsideTransaction", "()I"⟩, 6) := ⟨⟨by decide +kernel, by decide +kernel⟩, List.mem_of_getElem? (i := 10) (by decide +kernel), List.mem_of_getElem? (i := 164) (by decide +kernel), List.mem_of_getElem? (i := 165) (by decide +kernel)⟩
theorem lw_p3 : lw_okq (⟨"JournaledTables$Memory", "isPageOf", "(II)Z"⟩, 1) := ⟨⟨by decide +kernel, by decide +kernel⟩, List.mem_of_getElem? (i := 39) (by decide +kernel), List.mem_of_getElem? (i := 176) (by decide +kernel), List.mem_of_getElem? (i := 177) (by decide +kernel)⟩
theorem lw_p4 : lw_okq (⟨"JournaledTables$Memory", "clear", "(II)V"⟩, 1) := ⟨⟨by decide +kernel, by decide +kernel⟩, List.mem_of_getElem? (i := 39) (by decide +kernel), List.mem_of_getElem? (i := 180) (by decide +kernel), List.mem_of_getElem? (i := 181) (by decide +kernel)⟩
theorem lw_p5 : lw_okq (⟨"JournaledTables", "voidScansOf", "(I)V"⟩, 6) := ⟨⟨by decide +kernel, by decide +kernel⟩, List.mem_of_getElem? (i := 10) (by decide +kernel), List.mem_of_getElem? (i := 184) (by decide +kernel), List.mem_of_getElem? (i := 185) (by decide +kernel)⟩
theorem lw_p6 : lw_okq (⟨"JournaledTables$Journal", "changedBlocks", "()I"⟩, 3) := ⟨⟨by decide +kernel, by decide +kernel⟩, List.mem_of_getElem? (i := 49) (by decide +kernel), List.mem_of_getElem? (i := 204) (by decide +kernel), List.mem_of_getElem? (i := 205) (by decide +kernel)⟩
theorem lw_p7 : lw_okq (⟨"JournaledTables$Journal", "keepImages", "(I)Z"⟩, 3) := ⟨⟨by decide +kernel, by decide +kernel⟩, List.mem_of_getElem? (i := 49) (by decide +kernel), List.mem_of_getElem? (i := 212) (by decide +kernel), List.mem_of_getElem? (i := 213) (by decide +kernel)⟩
theorem lw_p8 : lw_okq (⟨"JournaledTables$Journal", "writeHead", "(I)Z"⟩, 3) := ⟨⟨by decide +kernel, by decide +kernel⟩, List.mem_of_getElem? (i := 49) (by decide +kernel), List.mem_of_getElem? (i := 237) (by decide +kernel), List.mem_of_getElem? (i := 238) (by decide +kernel)⟩
theorem lw_p9 : lw_okq (⟨"JournaledTables$Journal", "checkOfImages", "(I)I"⟩, 3) := ⟨⟨by decide +kernel, by decide +kernel⟩, List.mem_of_getElem? (i := 49) (by decide +kernel), List.mem_of_getElem? (i := 241) (by decide +kernel), List.mem_of_getElem? (i := 242) (by decide +kernel)⟩
theorem lw_p10 : lw_okq (⟨"JournaledTables$Journal", "saveBlocks", "(I)Z"⟩, 3) := ⟨⟨by decide +kernel, by decide +kernel⟩, List.mem_of_getElem? (i := 49) (by decide +kernel), List.mem_of_getElem? (i := 250) (by decide +kernel), List.mem_of_getElem? (i := 251) (by decide +kernel)⟩
theorem lw_p11 : lw_okq (⟨"JournaledTables$Journal", "clearHead", "()Z"⟩, 3) := ⟨⟨by decide +kernel, by decide +kernel⟩, List.mem_of_getElem? (i := 49) (by decide +kernel), List.mem_of_getElem? (i := 259) (by decide +kernel), List.mem_of_getElem? (i := 260) (by decide +kernel)⟩
theorem lw_p12 : lw_okq (⟨"JournaledTables$Memory", "slots", "(I)I"⟩, 1) := ⟨⟨by decide +kernel, by decide +kernel⟩, List.mem_of_getElem? (i := 39) (by decide +kernel), List.mem_of_getElem? (i := 283) (by decide +kernel), List.mem_of_getElem? (i := 284) (by decide +kernel)⟩
theorem lw_p13 : lw_okq (⟨"JournaledTables$Memory", "rowAt", "(III)I"⟩, 1) := ⟨⟨by decide +kernel, by decide +kernel⟩, List.mem_of_getElem? (i := 39) (by decide +kernel), List.mem_of_getElem? (i := 292) (by decide +kernel), List.mem_of_getElem? (i := 293) (by decide +kernel)⟩
theorem lw_p14 : lw_okq (⟨"JournaledTables$Memory", "hasRow", "(II)Z"⟩, 1) := ⟨⟨by decide +kernel, by decide +kernel⟩, List.mem_of_getElem? (i := 39) (by decide +kernel), List.mem_of_getElem? (i := 296) (by decide +kernel), List.mem_of_getElem? (i := 297) (by decide +kernel)⟩
theorem lw_p15 : lw_okq (⟨"JournaledTables$Memory", "pageWithRoom", "(I)I"⟩, 1) := ⟨⟨by decide +kernel, by decide +kernel⟩, List.mem_of_getElem? (i := 39) (by decide +kernel), List.mem_of_getElem? (i := 304) (by decide +kernel), List.mem_of_getElem? (i := 305) (by decide +kernel)⟩
def lw_privs_1 : List (MethodName × Nat) := [(⟨"JournaledTables", "startAnew", "()V"⟩, 6), (⟨"JournaledTables", "refusalOfChange", "(I)I"⟩, 6), (⟨"JournaledTables", "refusalOutsideTransaction", "()I"⟩, 6), (⟨"JournaledTables$Memory", "isPageOf", "(II)Z"⟩, 1), (⟨"JournaledTables$Memory", "clear", "(II)V"⟩, 1), (⟨"JournaledTables", "voidScansOf", "(I)V"⟩, 6), (⟨"JournaledTables$Journal", "changedBlocks", "()I"⟩, 3), (⟨"JournaledTables$Journal", "keepImages", "(I)Z"⟩, 3), (⟨"JournaledTables$Journal", "writeHead", "(I)Z"⟩, 3), (⟨"JournaledTables$Journal", "checkOfImages", "(I)I"⟩, 3), (⟨"JournaledTables$Journal", "saveBlocks", "(I)Z"⟩, 3), (⟨"JournaledTables$Journal", "clearHead", "()Z"⟩, 3), (⟨"JournaledTables$Memory", "slots", "(I)I"⟩, 1), (⟨"JournaledTables$Memory", "rowAt", "(III)I"⟩, 1), (⟨"JournaledTables$Memory", "hasRow", "(II)Z"⟩, 1), (⟨"JournaledTables$Memory", "pageWithRoom", "(I)I"⟩, 1)]
theorem lw_r1 : ∀ q ∈ lw_privs_1, lw_okq q := List.forall_mem_cons.mpr ⟨lw_p0, List.forall_mem_cons.mpr ⟨lw_p1, List.forall_mem_cons.mpr ⟨lw_p2, List.forall_mem_cons.mpr ⟨lw_p3, List.forall_mem_cons.mpr ⟨lw_p4, List.forall_mem_cons.mpr ⟨lw_p5, List.forall_mem_cons.mpr ⟨lw_p6, List.forall_mem_cons.mpr ⟨lw_p7, List.forall_mem_cons.mpr ⟨lw_p8, List.forall_mem_cons.mpr ⟨lw_p9, List.forall_mem_cons.mpr ⟨lw_p10, List.forall_mem_cons.mpr ⟨lw_p11, List.forall_mem_cons.mpr ⟨lw_p12, List.forall_mem_cons.mpr ⟨lw_p13, List.forall_mem_cons.mpr ⟨lw_p14, List.forall_mem_cons.mpr ⟨lw_p15, fun _ h => absurd h List.not_mem_nil⟩⟩⟩⟩⟩⟩⟩⟩⟩⟩⟩⟩⟩⟩⟩⟩
theorem lw_p16 : lw_okq (⟨"JournaledTables$Memory", "freeSlot", "(II)I"⟩, 1) := ⟨⟨by decide +kernel, by decide +kernel⟩, List.mem_of_getElem? (i := 39) (by decide +kernel), List.mem_of_getElem? (i := 308) (by decide +kernel), List.mem_of_getElem? (i := 309) (by decide +kernel)⟩
theorem lw_p17 : lw_okq (⟨"JournaledTables$Memory", "putRow", "(III[I)V"⟩, 1) := ⟨⟨by decide +kernel, by decide +kernel⟩, List.mem_of_getElem? (i := 39) (by decide +kernel), List.mem_of_getElem? (i := 312) (by decide +kernel), List.mem_of_getElem? (i := 313) (by decide +kernel)⟩
theorem lw_p18 : lw_okq (⟨"JournaledTables$Memory", "freePage", "()I"⟩, 1) := ⟨⟨by decide +kernel, by decide +kernel⟩, List.mem_of_getElem? (i := 39) (by decide +kernel), List.mem_of_getElem? (i := 316) (by decide +kernel), List.mem_of_getElem? (i := 317) (by decide +kernel)⟩
theorem lw_p19 : lw_okq (⟨"JournaledTables$Memory", "linkTo", "(II)I"⟩, 1) := ⟨⟨by decide +kernel, by decide +kernel⟩, List.mem_of_getElem? (i := 39) (by decide +kernel), List.mem_of_getElem? (i := 320) (by decide +kernel), List.mem_of_getElem? (i := 321) (by decide +kernel)⟩
theorem lw_p20 : lw_okq (⟨"JournaledTables", "scanOf", "(I)LJournaledTables$Scan;"⟩, 6) := ⟨⟨by decide +kernel, by decide +kernel⟩, List.mem_of_getElem? (i := 10) (by decide +kernel), List.mem_of_getElem? (i := 370) (by decide +kernel), List.mem_of_getElem? (i := 371) (by decide +kernel)⟩
theorem lw_p21 : lw_okq (⟨"JournaledTables", "usableScan", "(I)LJournaledTables$Scan;"⟩, 6) := ⟨⟨by decide +kernel, by decide +kernel⟩, List.mem_of_getElem? (i := 10) (by decide +kernel), List.mem_of_getElem? (i := 386) (by decide +kernel), List.mem_of_getElem? (i := 387) (by decide +kernel)⟩
theorem lw_p22 : lw_okq (⟨"JournaledTables$Journal", "blocksToUndo", "()I"⟩, 3) := ⟨⟨by decide +kernel, by decide +kernel⟩, List.mem_of_getElem? (i := 49) (by decide +kernel), List.mem_of_getElem? (i := 433) (by decide +kernel), List.mem_of_getElem? (i := 434) (by decide +kernel)⟩
theorem lw_p23 : lw_okq (⟨"JournaledTables$Journal", "restoreBlocks", "(I)Z"⟩, 3) := ⟨⟨by decide +kernel, by decide +kernel⟩, List.mem_of_getElem? (i := 49) (by decide +kernel), List.mem_of_getElem? (i := 437) (by decide +kernel), List.mem_of_getElem? (i := 438) (by decide +kernel)⟩
theorem lw_p24 : lw_okq (⟨"JournaledTablesModel", "changed", "()I"⟩, 18) := ⟨⟨by decide +kernel, by decide +kernel⟩, List.mem_of_getElem? (i := 454) (by decide +kernel), List.mem_of_getElem? (i := 520) (by decide +kernel), List.mem_of_getElem? (i := 521) (by decide +kernel)⟩
theorem lw_p25 : lw_okq (⟨"JournaledTablesModel", "putFromDisk", "(II)Z"⟩, 18) := ⟨⟨by decide +kernel, by decide +kernel⟩, List.mem_of_getElem? (i := 454) (by decide +kernel), List.mem_of_getElem? (i := 524) (by decide +kernel), List.mem_of_getElem? (i := 525) (by decide +kernel)⟩
theorem lw_p26 : lw_okq (⟨"JournaledTablesModel", "put", "(I)Z"⟩, 18) := ⟨⟨by decide +kernel, by decide +kernel⟩, List.mem_of_getElem? (i := 454) (by decide +kernel), List.mem_of_getElem? (i := 528) (by decide +kernel), List.mem_of_getElem? (i := 529) (by decide +kernel)⟩
theorem lw_p27 : lw_okq (⟨"JournaledTablesModel", "putHead", "(II)Z"⟩, 18) := ⟨⟨by decide +kernel, by decide +kernel⟩, List.mem_of_getElem? (i := 454) (by decide +kernel), List.mem_of_getElem? (i := 532) (by decide +kernel), List.mem_of_getElem? (i := 533) (by decide +kernel)⟩
theorem lw_p28 : lw_okq (⟨"JournaledTablesModel", "check", "(I)I"⟩, 18) := ⟨⟨by decide +kernel, by decide +kernel⟩, List.mem_of_getElem? (i := 454) (by decide +kernel), List.mem_of_getElem? (i := 536) (by decide +kernel), List.mem_of_getElem? (i := 537) (by decide +kernel)⟩
theorem lw_p29 : lw_okq (⟨"JournaledTablesModel", "putFromMemory", "(I)Z"⟩, 18) := ⟨⟨by decide +kernel, by decide +kernel⟩, List.mem_of_getElem? (i := 454) (by decide +kernel), List.mem_of_getElem? (i := 540) (by decide +kernel), List.mem_of_getElem? (i := 541) (by decide +kernel)⟩
theorem lw_p30 : lw_okq (⟨"JournaledTablesModel", "isHead", "()Z"⟩, 18) := ⟨⟨by decide +kernel, by decide +kernel⟩, List.mem_of_getElem? (i := 454) (by decide +kernel), List.mem_of_getElem? (i := 548) (by decide +kernel), List.mem_of_getElem? (i := 549) (by decide +kernel)⟩
theorem lw_p31 : lw_okq (⟨"JournaledTablesModel", "copyBack", "()V"⟩, 18) := ⟨⟨by decide +kernel, by decide +kernel⟩, List.mem_of_getElem? (i := 454) (by decide +kernel), List.mem_of_getElem? (i := 556) (by decide +kernel), List.mem_of_getElem? (i := 557) (by decide +kernel)⟩
def lw_privs_2 : List (MethodName × Nat) := [(⟨"JournaledTables$Memory", "freeSlot", "(II)I"⟩, 1), (⟨"JournaledTables$Memory", "putRow", "(III[I)V"⟩, 1), (⟨"JournaledTables$Memory", "freePage", "()I"⟩, 1), (⟨"JournaledTables$Memory", "linkTo", "(II)I"⟩, 1), (⟨"JournaledTables", "scanOf", "(I)LJournaledTables$Scan;"⟩, 6), (⟨"JournaledTables", "usableScan", "(I)LJournaledTables$Scan;"⟩, 6), (⟨"JournaledTables$Journal", "blocksToUndo", "()I"⟩, 3), (⟨"JournaledTables$Journal", "restoreBlocks", "(I)Z"⟩, 3), (⟨"JournaledTablesModel", "changed", "()I"⟩, 18), (⟨"JournaledTablesModel", "putFromDisk", "(II)Z"⟩, 18), (⟨"JournaledTablesModel", "put", "(I)Z"⟩, 18), (⟨"JournaledTablesModel", "putHead", "(II)Z"⟩, 18), (⟨"JournaledTablesModel", "check", "(I)I"⟩, 18), (⟨"JournaledTablesModel", "putFromMemory", "(I)Z"⟩, 18), (⟨"JournaledTablesModel", "isHead", "()Z"⟩, 18), (⟨"JournaledTablesModel", "copyBack", "()V"⟩, 18)]
theorem lw_r2 : ∀ q ∈ lw_privs_2, lw_okq q := List.forall_mem_cons.mpr ⟨lw_p16, List.forall_mem_cons.mpr ⟨lw_p17, List.forall_mem_cons.mpr ⟨lw_p18, List.forall_mem_cons.mpr ⟨lw_p19, List.forall_mem_cons.mpr ⟨lw_p20, List.forall_mem_cons.mpr ⟨lw_p21, List.forall_mem_cons.mpr ⟨lw_p22, List.forall_mem_cons.mpr ⟨lw_p23, List.forall_mem_cons.mpr ⟨lw_p24, List.forall_mem_cons.mpr ⟨lw_p25, List.forall_mem_cons.mpr ⟨lw_p26, List.forall_mem_cons.mpr ⟨lw_p27, List.forall_mem_cons.mpr ⟨lw_p28, List.forall_mem_cons.mpr ⟨lw_p29, List.forall_mem_cons.mpr ⟨lw_p30, List.forall_mem_cons.mpr ⟨lw_p31, fun _ h => absurd h List.not_mem_nil⟩⟩⟩⟩⟩⟩⟩⟩⟩⟩⟩⟩⟩⟩⟩⟩
theorem lw_p32 : lw_okq (⟨"JournaledTablesModel", "noTable", "(I)Z"⟩, 18) := ⟨⟨by decide +kernel, by decide +kernel⟩, List.mem_of_getElem? (i := 454) (by decide +kernel), List.mem_of_getElem? (i := 592) (by decide +kernel), List.mem_of_getElem? (i := 593) (by decide +kernel)⟩
theorem lw_p33 : lw_okq (⟨"JournaledTablesModel", "clearPage", "(I)V"⟩, 18) := ⟨⟨by decide +kernel, by decide +kernel⟩, List.mem_of_getElem? (i := 454) (by decide +kernel), List.mem_of_getElem? (i := 596) (by decide +kernel), List.mem_of_getElem? (i := 597) (by decide +kernel)⟩
theorem lw_p34 : lw_okq (⟨"JournaledTablesModel", "change", "(I)V"⟩, 18) := ⟨⟨by decide +kernel, by decide +kernel⟩, List.mem_of_getElem? (i := 454) (by decide +kernel), List.mem_of_getElem? (i := 600) (by decide +kernel), List.mem_of_getElem? (i := 601) (by decide +kernel)⟩
theorem lw_p35 : lw_okq (⟨"JournaledTablesModel", "seek", "(II)I"⟩, 18) := ⟨⟨by decide +kernel, by decide +kernel⟩, List.mem_of_getElem? (i := 454) (by decide +kernel), List.mem_of_getElem? (i := 612) (by decide +kernel), List.mem_of_getElem? (i := 613) (by decide +kernel)⟩
theorem lw_p36 : lw_okq (⟨"JournaledTablesModel", "slots", "(I)I"⟩, 18) := ⟨⟨by decide +kernel, by decide +kernel⟩, List.mem_of_getElem? (i := 454) (by decide +kernel), List.mem_of_getElem? (i := 616) (by decide +kernel), List.mem_of_getElem? (i := 617) (by decide +kernel)⟩
theorem lw_p37 : lw_okq (⟨"JournaledTablesModel", "filled", "(II)Z"⟩, 18) := ⟨⟨by decide +kernel, by decide +kernel⟩, List.mem_of_getElem? (i := 454) (by decide +kernel), List.mem_of_getElem? (i := 620) (by decide +kernel), List.mem_of_getElem? (i := 621) (by decide +kernel)⟩
theorem lw_p38 : lw_okq (⟨"JournaledTablesModel", "wordOf", "(III)I"⟩, 18) := ⟨⟨by decide +kernel, by decide +kernel⟩, List.mem_of_getElem? (i := 454) (by decide +kernel), List.mem_of_getElem? (i := 624) (by decide +kernel), List.mem_of_getElem? (i := 625) (by decide +kernel)⟩
theorem lw_p39 : lw_okq (⟨"JournaledTablesModel", "lay", "(III)V"⟩, 18) := ⟨⟨by decide +kernel, by decide +kernel⟩, List.mem_of_getElem? (i := 454) (by decide +kernel), List.mem_of_getElem? (i := 628) (by decide +kernel), List.mem_of_getElem? (i := 629) (by decide +kernel)⟩
theorem lw_p40 : lw_okq (⟨"JournaledTablesModel", "freePage", "()I"⟩, 18) := ⟨⟨by decide +kernel, by decide +kernel⟩, List.mem_of_getElem? (i := 454) (by decide +kernel), List.mem_of_getElem? (i := 632) (by decide +kernel), List.mem_of_getElem? (i := 633) (by decide +kernel)⟩
theorem lw_p41 : lw_okq (⟨"JournaledTablesModel", "leads", "(II)I"⟩, 18) := ⟨⟨by decide +kernel, by decide +kernel⟩, List.mem_of_getElem? (i := 454) (by decide +kernel), List.mem_of_getElem? (i := 640) (by decide +kernel), List.mem_of_getElem? (i := 641) (by decide +kernel)⟩
theorem lw_p42 : lw_okq (⟨"JournaledTablesModel", "noScan", "(I)Z"⟩, 18) := ⟨⟨by decide +kernel, by decide +kernel⟩, List.mem_of_getElem? (i := 454) (by decide +kernel), List.mem_of_getElem? (i := 668) (by decide +kernel), List.mem_of_getElem? (i := 669) (by decide +kernel)⟩
theorem lw_p43 : lw_okq (⟨"JournaledTablesModel", "seekNext", "(I)Z"⟩, 18) := ⟨⟨by decide +kernel, by decide +kernel⟩, List.mem_of_getElem? (i := 454) (by decide +kernel), List.mem_of_getElem? (i := 672) (by decide +kernel), List.mem_of_getElem? (i := 673) (by decide +kernel)⟩
def lw_privs_3 : List (MethodName × Nat) := [(⟨"JournaledTablesModel", "noTable", "(I)Z"⟩, 18), (⟨"JournaledTablesModel", "clearPage", "(I)V"⟩, 18), (⟨"JournaledTablesModel", "change", "(I)V"⟩, 18), (⟨"JournaledTablesModel", "seek", "(II)I"⟩, 18), (⟨"JournaledTablesModel", "slots", "(I)I"⟩, 18), (⟨"JournaledTablesModel", "filled", "(II)Z"⟩, 18), (⟨"JournaledTablesModel", "wordOf", "(III)I"⟩, 18), (⟨"JournaledTablesModel", "lay", "(III)V"⟩, 18), (⟨"JournaledTablesModel", "freePage", "()I"⟩, 18), (⟨"JournaledTablesModel", "leads", "(II)I"⟩, 18), (⟨"JournaledTablesModel", "noScan", "(I)Z"⟩, 18), (⟨"JournaledTablesModel", "seekNext", "(I)Z"⟩, 18)]
theorem lw_r3 : ∀ q ∈ lw_privs_3, lw_okq q := List.forall_mem_cons.mpr ⟨lw_p32, List.forall_mem_cons.mpr ⟨lw_p33, List.forall_mem_cons.mpr ⟨lw_p34, List.forall_mem_cons.mpr ⟨lw_p35, List.forall_mem_cons.mpr ⟨lw_p36, List.forall_mem_cons.mpr ⟨lw_p37, List.forall_mem_cons.mpr ⟨lw_p38, List.forall_mem_cons.mpr ⟨lw_p39, List.forall_mem_cons.mpr ⟨lw_p40, List.forall_mem_cons.mpr ⟨lw_p41, List.forall_mem_cons.mpr ⟨lw_p42, List.forall_mem_cons.mpr ⟨lw_p43, fun _ h => absurd h List.not_mem_nil⟩⟩⟩⟩⟩⟩⟩⟩⟩⟩⟩⟩
def lw_privs : List (MethodName × Nat) := lw_privs_1 ++ (lw_privs_2 ++ (lw_privs_3))
def lw_tbl : List Cond := k2_sels lw_privs ++ tables_1
theorem lw_privs_ok : ∀ q ∈ lw_privs, lw_okq q := by
  show ∀ q ∈ lw_privs_1 ++ (lw_privs_2 ++ (lw_privs_3)), lw_okq q
  exact List.forall_mem_append.mpr ⟨lw_r1, List.forall_mem_append.mpr ⟨lw_r2, lw_r3⟩⟩
end
section
/-! ===== BEGIN words of one list among another's, by their places ===== -/
theorem goodIn_r {big : List Cond} (ws : List Cond) (ps : List Nat) (hp : ws = ps.filterMap (fun i => big[i]?)) (h : ws.all goodWord = true) : GoodIn big ws := by
  intro w hw
  have h1 := List.all_eq_true.mp h w hw
  rw [hp] at hw
  obtain ⟨i, -, hi⟩ := List.mem_filterMap.mp hw
  have hm : w ∈ big := by first | exact List.mem_of_getElem? hi | exact List.getElem?_mem hi
  exact ⟨hm, good_of_word h1⟩
theorem goodIn_app {big a b : List Cond} (ha : GoodIn big a) (hb : GoodIn big b) : GoodIn big (a ++ b) := fun w h => (List.mem_append.mp h).elim (ha w) (hb w)
theorem goodIn_ca {big a b : List Cond} {c : Cond} (ha : GoodIn big (c :: a)) (hb : GoodIn big b) : GoodIn big (c :: (a ++ b)) := fun w h => (List.mem_cons.mp h).elim (fun e => ha w (List.mem_cons.mpr (Or.inl e))) (fun h => (List.mem_append.mp h).elim (fun h => ha w (List.mem_cons.mpr (Or.inr h))) (hb w))
theorem goodIn_sub {big ws : List Cond} (hm : ∀ w ∈ ws, w ∈ big) (h : ws.all goodWord = true) : GoodIn big ws := fun w hw => ⟨hm w hw, good_of_word (List.all_eq_true.mp h w hw)⟩
/-! ===== END ===== -/

/-! ===== BEGIN printed: names, fields, word lists, decode rows ===== -/
def RX0 : String := "JournaledTables$Disk"
def TX0 : u_T := fun k => match k with
  | 0 => ("JournaledTables$Disk", "words", "[I", true)
  | 1 => ("JournaledTables$Disk", "powered", "Z", false)
  | 2 => ("JournaledTables$Disk", "writesLeft", "I", false)
  | _ => ("JournaledTables$Disk", "writesDone", "I", false)
def tyX0 : Nat → FieldType := fun k => match k with
  | 0 => .array .int
  | 1 => .boolean
  | 2 => .int
  | _ => .int
abbrev wsX00 : List Cond := u_ws RX0 TX0 4
theorem nmX0 : ∀ a, a < 4 → ∀ b, b < 4 → a ≠ b → (TX0 a).2.1 ≠ (TX0 b).2.1 := by decide +kernel
theorem tyX0_ok : ∀ k, k < 4 → parseFieldDescriptor (TX0 k).2.2.1 = some (tyX0 k) := by decide +kernel
abbrev cX0_init : ByteArray := prog_2_method_1_code
def yX0_init : MethodName := ⟨RX0, "<init>", "()V"⟩
abbrev cX0_powered : ByteArray := prog_2_method_2_code
def yX0_powered : MethodName := ⟨RX0, "powered", "()Z"⟩
abbrev cX0_writesDone : ByteArray := prog_2_method_3_code
def yX0_writesDone : MethodName := ⟨RX0, "writesDone", "()I"⟩
abbrev cX0_word : ByteArray := prog_2_method_4_code
def yX0_word : MethodName := ⟨RX0, "word", "(II)I"⟩
abbrev cX0_powerOn : ByteArray := prog_2_method_5_code
def yX0_powerOn : MethodName := ⟨RX0, "powerOn", "()V"⟩
abbrev cX0_failAfter : ByteArray := prog_2_method_6_code
def yX0_failAfter : MethodName := ⟨RX0, "failAfter", "(I)V"⟩
abbrev cX0_wipe : ByteArray := prog_2_method_7_code
def yX0_wipe : MethodName := ⟨RX0, "wipe", "()V"⟩
abbrev cX0_write : ByteArray := prog_2_method_8_code
def yX0_write : MethodName := ⟨RX0, "write", "(I[II)Z"⟩
abbrev cX0_copyBlock : ByteArray := prog_2_method_9_code
def yX0_copyBlock : MethodName := ⟨RX0, "copyBlock", "(II)Z"⟩
def RX1 : String := "JournaledTables$Journal"
def TX1 : u_T := fun k => match k with
  | 0 => ("JournaledTables$Journal", "disk", "LJournaledTables$Disk;", true)
  | 1 => ("JournaledTables$Journal", "memory", "LJournaledTables$Memory;", true)
  | _ => ("JournaledTables$Journal", "head", "[I", true)
def tyX1 : Nat → FieldType := fun k => match k with
  | 0 => .object "JournaledTables$Disk"
  | 1 => .object "JournaledTables$Memory"
  | _ => .array .int
abbrev wsX10 : List Cond := u_ws RX1 TX1 3
theorem nmX1 : ∀ a, a < 3 → ∀ b, b < 3 → a ≠ b → (TX1 a).2.1 ≠ (TX1 b).2.1 := by decide +kernel
theorem tyX1_ok : ∀ k, k < 3 → parseFieldDescriptor (TX1 k).2.2.1 = some (tyX1 k) := by decide +kernel
abbrev cX1_init : ByteArray := prog_3_method_1_code
def yX1_init : MethodName := ⟨RX1, "<init>", "(LJournaledTables$Disk;LJournaledTables$Memory;)V"⟩
abbrev cX1_carryOut : ByteArray := prog_3_method_2_code
def yX1_carryOut : MethodName := ⟨RX1, "carryOut", "()Z"⟩
abbrev cX1_undo : ByteArray := prog_3_method_3_code
def yX1_undo : MethodName := ⟨RX1, "undo", "()Z"⟩
abbrev cX1_changedBlocks : ByteArray := prog_3_method_4_code
def yX1_changedBlocks : MethodName := ⟨RX1, "changedBlocks", "()I"⟩
abbrev cX1_keepImages : ByteArray := prog_3_method_5_code
def yX1_keepImages : MethodName := ⟨RX1, "keepImages", "(I)Z"⟩
abbrev cX1_writeHead : ByteArray := prog_3_method_6_code
def yX1_writeHead : MethodName := ⟨RX1, "writeHead", "(I)Z"⟩
abbrev cX1_saveBlocks : ByteArray := prog_3_method_7_code
def yX1_saveBlocks : MethodName := ⟨RX1, "saveBlocks", "(I)Z"⟩
abbrev cX1_clearHead : ByteArray := prog_3_method_8_code
def yX1_clearHead : MethodName := ⟨RX1, "clearHead", "()Z"⟩
abbrev cX1_restoreBlocks : ByteArray := prog_3_method_9_code
def yX1_restoreBlocks : MethodName := ⟨RX1, "restoreBlocks", "(I)Z"⟩
abbrev cX1_blocksToUndo : ByteArray := prog_3_method_10_code
def yX1_blocksToUndo : MethodName := ⟨RX1, "blocksToUndo", "()I"⟩
abbrev cX1_checkOfImages : ByteArray := prog_3_method_11_code
def yX1_checkOfImages : MethodName := ⟨RX1, "checkOfImages", "(I)I"⟩
abbrev cX1_imageOf : ByteArray := prog_3_method_12_code
def yX1_imageOf : MethodName := ⟨RX1, "imageOf", "(II)I"⟩
abbrev cX1_contains : ByteArray := prog_3_method_13_code
def yX1_contains : MethodName := ⟨RX1, "contains", "(II)Z"⟩
def RX2 : String := "JournaledTables$Memory"
def TX2 : u_T := fun k => match k with
  | _ => ("JournaledTables$Memory", "words", "[I", true)
def tyX2 : Nat → FieldType := fun k => match k with
  | _ => .array .int
abbrev wsX20 : List Cond := u_ws RX2 TX2 1
theorem nmX2 : ∀ a, a < 1 → ∀ b, b < 1 → a ≠ b → (TX2 a).2.1 ≠ (TX2 b).2.1 := by decide +kernel
theorem tyX2_ok : ∀ k, k < 1 → parseFieldDescriptor (TX2 k).2.2.1 = some (tyX2 k) := by decide +kernel
abbrev cX2_init : ByteArray := prog_4_method_1_code
def yX2_init : MethodName := ⟨RX2, "<init>", "()V"⟩
abbrev cX2_load : ByteArray := prog_4_method_2_code
def yX2_load : MethodName := ⟨RX2, "load", "(LJournaledTables$Disk;)V"⟩
abbrev cX2_differs : ByteArray := prog_4_method_3_code
def yX2_differs : MethodName := ⟨RX2, "differs", "(LJournaledTables$Disk;I)Z"⟩
abbrev cX2_save : ByteArray := prog_4_method_4_code
def yX2_save : MethodName := ⟨RX2, "save", "(LJournaledTables$Disk;I)Z"⟩
abbrev cX2_word : ByteArray := prog_4_method_5_code
def yX2_word : MethodName := ⟨RX2, "word", "(I)I"⟩
abbrev cX2_setWord : ByteArray := prog_4_method_6_code
def yX2_setWord : MethodName := ⟨RX2, "setWord", "(II)V"⟩
abbrev cX2_hasTable : ByteArray := prog_4_method_7_code
def yX2_hasTable : MethodName := ⟨RX2, "hasTable", "(I)Z"⟩
abbrev cX2_width : ByteArray := prog_4_method_8_code
def yX2_width : MethodName := ⟨RX2, "width", "(I)I"⟩
abbrev cX2_hasCol : ByteArray := prog_4_method_9_code
def yX2_hasCol : MethodName := ⟨RX2, "hasCol", "(II)Z"⟩
abbrev cX2_freeTable : ByteArray := prog_4_method_10_code
def yX2_freeTable : MethodName := ⟨RX2, "freeTable", "()I"⟩
abbrev cX2_addTable : ByteArray := prog_4_method_11_code
def yX2_addTable : MethodName := ⟨RX2, "addTable", "(II)V"⟩
abbrev cX2_removeTable : ByteArray := prog_4_method_12_code
def yX2_removeTable : MethodName := ⟨RX2, "removeTable", "(I)V"⟩
abbrev cX2_rowOf : ByteArray := prog_4_method_13_code
def yX2_rowOf : MethodName := ⟨RX2, "rowOf", "(II)I"⟩
abbrev cX2_leastRow : ByteArray := prog_4_method_14_code
def yX2_leastRow : MethodName := ⟨RX2, "leastRow", "(IIIIJ)I"⟩
abbrev cX2_rowsOf : ByteArray := prog_4_method_15_code
def yX2_rowsOf : MethodName := ⟨RX2, "rowsOf", "(I)I"⟩
abbrev cX2_addRow : ByteArray := prog_4_method_16_code
def yX2_addRow : MethodName := ⟨RX2, "addRow", "(I[I)Z"⟩
abbrev cX2_putRow : ByteArray := prog_4_method_17_code
def yX2_putRow : MethodName := ⟨RX2, "putRow", "(III[I)V"⟩
abbrev cX2_removeRow : ByteArray := prog_4_method_18_code
def yX2_removeRow : MethodName := ⟨RX2, "removeRow", "(II)V"⟩
abbrev cX2_pageWithRoom : ByteArray := prog_4_method_19_code
def yX2_pageWithRoom : MethodName := ⟨RX2, "pageWithRoom", "(I)I"⟩
abbrev cX2_linkTo : ByteArray := prog_4_method_20_code
def yX2_linkTo : MethodName := ⟨RX2, "linkTo", "(II)I"⟩
abbrev cX2_freePage : ByteArray := prog_4_method_21_code
def yX2_freePage : MethodName := ⟨RX2, "freePage", "()I"⟩
abbrev cX2_freeSlot : ByteArray := prog_4_method_22_code
def yX2_freeSlot : MethodName := ⟨RX2, "freeSlot", "(II)I"⟩
abbrev cX2_isPageOf : ByteArray := prog_4_method_23_code
def yX2_isPageOf : MethodName := ⟨RX2, "isPageOf", "(II)Z"⟩
abbrev cX2_hasRow : ByteArray := prog_4_method_24_code
def yX2_hasRow : MethodName := ⟨RX2, "hasRow", "(II)Z"⟩
abbrev cX2_rowAt : ByteArray := prog_4_method_25_code
def yX2_rowAt : MethodName := ⟨RX2, "rowAt", "(III)I"⟩
abbrev cX2_slots : ByteArray := prog_4_method_26_code
def yX2_slots : MethodName := ⟨RX2, "slots", "(I)I"⟩
abbrev cX2_clear : ByteArray := prog_4_method_27_code
def yX2_clear : MethodName := ⟨RX2, "clear", "(II)V"⟩
def RX3 : String := "JournaledTables$Scan"
def TX3 : u_T := fun k => match k with
  | 0 => ("JournaledTables$Scan", "open", "Z", false)
  | 1 => ("JournaledTables$Scan", "isVoid", "Z", false)
  | 2 => ("JournaledTables$Scan", "table", "I", false)
  | 3 => ("JournaledTables$Scan", "col", "I", false)
  | 4 => ("JournaledTables$Scan", "lo", "I", false)
  | 5 => ("JournaledTables$Scan", "hi", "I", false)
  | 6 => ("JournaledTables$Scan", "passedKey", "J", false)
  | _ => ("JournaledTables$Scan", "row", "I", false)
def tyX3 : Nat → FieldType := fun k => match k with
  | 0 => .boolean
  | 1 => .boolean
  | 2 => .int
  | 3 => .int
  | 4 => .int
  | 5 => .int
  | 6 => .long
  | _ => .int
abbrev wsX30 : List Cond := u_ws RX3 TX3 8
theorem nmX3 : ∀ a, a < 8 → ∀ b, b < 8 → a ≠ b → (TX3 a).2.1 ≠ (TX3 b).2.1 := by decide +kernel
theorem tyX3_ok : ∀ k, k < 8 → parseFieldDescriptor (TX3 k).2.2.1 = some (tyX3 k) := by decide +kernel
abbrev cX3_init : ByteArray := prog_5_method_1_code
def yX3_init : MethodName := ⟨RX3, "<init>", "()V"⟩
abbrev cX3_isOpen : ByteArray := prog_5_method_2_code
def yX3_isOpen : MethodName := ⟨RX3, "isOpen", "()Z"⟩
abbrev cX3_isVoid : ByteArray := prog_5_method_3_code
def yX3_isVoid : MethodName := ⟨RX3, "isVoid", "()Z"⟩
abbrev cX3_start : ByteArray := prog_5_method_4_code
def yX3_start : MethodName := ⟨RX3, "start", "(IIII)V"⟩
abbrev cX3_end : ByteArray := prog_5_method_5_code
def yX3_end : MethodName := ⟨RX3, "end", "()V"⟩
abbrev cX3_tableChanged : ByteArray := prog_5_method_6_code
def yX3_tableChanged : MethodName := ⟨RX3, "tableChanged", "(I)V"⟩
abbrev cX3_move : ByteArray := prog_5_method_7_code
def yX3_move : MethodName := ⟨RX3, "move", "(LJournaledTables$Memory;)Z"⟩
abbrev cX3_wordAt : ByteArray := prog_5_method_8_code
def yX3_wordAt : MethodName := ⟨RX3, "wordAt", "(LJournaledTables$Memory;I)I"⟩
def RX4 : String := "JournaledTables"
def TX4 : u_T := fun k => match k with
  | 0 => ("JournaledTables", "disk", "LJournaledTables$Disk;", true)
  | 1 => ("JournaledTables", "memory", "LJournaledTables$Memory;", true)
  | 2 => ("JournaledTables", "journal", "LJournaledTables$Journal;", true)
  | 3 => ("JournaledTables", "scans", "[LJournaledTables$Scan;", true)
  | 4 => ("JournaledTables", "staged", "[I", true)
  | _ => ("JournaledTables", "inTransaction", "Z", false)
def tyX4 : Nat → FieldType := fun k => match k with
  | 0 => .object "JournaledTables$Disk"
  | 1 => .object "JournaledTables$Memory"
  | 2 => .object "JournaledTables$Journal"
  | 3 => .array (.object "JournaledTables$Scan")
  | 4 => .array .int
  | _ => .boolean
abbrev wsX40 : List Cond := u_ws RX4 TX4 6
theorem nmX4 : ∀ a, a < 6 → ∀ b, b < 6 → a ≠ b → (TX4 a).2.1 ≠ (TX4 b).2.1 := by decide +kernel
theorem tyX4_ok : ∀ k, k < 6 → parseFieldDescriptor (TX4 k).2.2.1 = some (tyX4 k) := by decide +kernel
abbrev cX4_init : ByteArray := prog_1_method_1_code
def yX4_init : MethodName := ⟨RX4, "<init>", "()V"⟩
abbrev cX4_format : ByteArray := prog_1_method_2_code
def yX4_format : MethodName := ⟨RX4, "format", "()I"⟩
abbrev cX4_createTable : ByteArray := prog_1_method_3_code
def yX4_createTable : MethodName := ⟨RX4, "createTable", "(I)I"⟩
abbrev cX4_dropTable : ByteArray := prog_1_method_4_code
def yX4_dropTable : MethodName := ⟨RX4, "dropTable", "(I)I"⟩
abbrev cX4_begin : ByteArray := prog_1_method_5_code
def yX4_begin : MethodName := ⟨RX4, "begin", "()I"⟩
abbrev cX4_commit : ByteArray := prog_1_method_6_code
def yX4_commit : MethodName := ⟨RX4, "commit", "()I"⟩
abbrev cX4_rollback : ByteArray := prog_1_method_7_code
def yX4_rollback : MethodName := ⟨RX4, "rollback", "()I"⟩
abbrev cX4_stage : ByteArray := prog_1_method_8_code
def yX4_stage : MethodName := ⟨RX4, "stage", "(II)I"⟩
abbrev cX4_insert : ByteArray := prog_1_method_9_code
def yX4_insert : MethodName := ⟨RX4, "insert", "(I)I"⟩
abbrev cX4_deleteKey : ByteArray := prog_1_method_10_code
def yX4_deleteKey : MethodName := ⟨RX4, "deleteKey", "(II)I"⟩
abbrev cX4_updateCol : ByteArray := prog_1_method_11_code
def yX4_updateCol : MethodName := ⟨RX4, "updateCol", "(IIII)I"⟩
abbrev cX4_lookup : ByteArray := prog_1_method_12_code
def yX4_lookup : MethodName := ⟨RX4, "lookup", "(III)I"⟩
abbrev cX4_has : ByteArray := prog_1_method_13_code
def yX4_has : MethodName := ⟨RX4, "has", "(II)Z"⟩
abbrev cX4_count : ByteArray := prog_1_method_14_code
def yX4_count : MethodName := ⟨RX4, "count", "(I)I"⟩
abbrev cX4_openScan : ByteArray := prog_1_method_15_code
def yX4_openScan : MethodName := ⟨RX4, "openScan", "(IIII)I"⟩
abbrev cX4_next : ByteArray := prog_1_method_16_code
def yX4_next : MethodName := ⟨RX4, "next", "(I)Z"⟩
abbrev cX4_col : ByteArray := prog_1_method_17_code
def yX4_col : MethodName := ⟨RX4, "col", "(II)I"⟩
abbrev cX4_closeScan : ByteArray := prog_1_method_18_code
def yX4_closeScan : MethodName := ⟨RX4, "closeScan", "(I)I"⟩
abbrev cX4_crashAfter : ByteArray := prog_1_method_19_code
def yX4_crashAfter : MethodName := ⟨RX4, "crashAfter", "(I)I"⟩
abbrev cX4_recover : ByteArray := prog_1_method_20_code
def yX4_recover : MethodName := ⟨RX4, "recover", "()I"⟩
abbrev cX4_peek : ByteArray := prog_1_method_21_code
def yX4_peek : MethodName := ⟨RX4, "peek", "(II)I"⟩
abbrev cX4_writes : ByteArray := prog_1_method_22_code
def yX4_writes : MethodName := ⟨RX4, "writes", "()I"⟩
abbrev cX4_startAnew : ByteArray := prog_1_method_23_code
def yX4_startAnew : MethodName := ⟨RX4, "startAnew", "()V"⟩
abbrev cX4_refusalOutsideTransaction : ByteArray := prog_1_method_24_code
def yX4_refusalOutsideTransaction : MethodName := ⟨RX4, "refusalOutsideTransaction", "()I"⟩
abbrev cX4_refusalOfChange : ByteArray := prog_1_method_25_code
def yX4_refusalOfChange : MethodName := ⟨RX4, "refusalOfChange", "(I)I"⟩
abbrev cX4_voidScansOf : ByteArray := prog_1_method_26_code
def yX4_voidScansOf : MethodName := ⟨RX4, "voidScansOf", "(I)V"⟩
abbrev cX4_scanOf : ByteArray := prog_1_method_27_code
def yX4_scanOf : MethodName := ⟨RX4, "scanOf", "(I)LJournaledTables$Scan;"⟩
abbrev cX4_usableScan : ByteArray := prog_1_method_28_code
def yX4_usableScan : MethodName := ⟨RX4, "usableScan", "(I)LJournaledTables$Scan;"⟩
def RX5 : String := "JournaledTablesModel"
def TX5 : u_T := fun k => match k with
  | 0 => ("JournaledTablesModel", "disk", "[I", true)
  | 1 => ("JournaledTablesModel", "memory", "[I", true)
  | 2 => ("JournaledTablesModel", "work", "[I", true)
  | 3 => ("JournaledTablesModel", "staged", "[I", true)
  | 4 => ("JournaledTablesModel", "off", "Z", false)
  | 5 => ("JournaledTablesModel", "open", "Z", false)
  | 6 => ("JournaledTablesModel", "crash", "I", false)
  | 7 => ("JournaledTablesModel", "writes", "I", false)
  | 8 => ("JournaledTablesModel", "tables", "[I", true)
  | 9 => ("JournaledTablesModel", "columns", "[I", true)
  | 10 => ("JournaledTablesModel", "lows", "[I", true)
  | 11 => ("JournaledTablesModel", "highs", "[I", true)
  | 12 => ("JournaledTablesModel", "used", "[Z", true)
  | 13 => ("JournaledTablesModel", "dead", "[Z", true)
  | 14 => ("JournaledTablesModel", "states", "[I", true)
  | 15 => ("JournaledTablesModel", "keys", "[I", true)
  | 16 => ("JournaledTablesModel", "foundPage", "I", false)
  | _ => ("JournaledTablesModel", "foundSlot", "I", false)
def tyX5 : Nat → FieldType := fun k => match k with
  | 0 => .array .int
  | 1 => .array .int
  | 2 => .array .int
  | 3 => .array .int
  | 4 => .boolean
  | 5 => .boolean
  | 6 => .int
  | 7 => .int
  | 8 => .array .int
  | 9 => .array .int
  | 10 => .array .int
  | 11 => .array .int
  | 12 => .array .boolean
  | 13 => .array .boolean
  | 14 => .array .int
  | 15 => .array .int
  | 16 => .int
  | _ => .int
abbrev wsX50 : List Cond := u_ws RX5 TX5 18
theorem nmX5 : ∀ a, a < 18 → ∀ b, b < 18 → a ≠ b → (TX5 a).2.1 ≠ (TX5 b).2.1 := by decide +kernel
theorem tyX5_ok : ∀ k, k < 18 → parseFieldDescriptor (TX5 k).2.2.1 = some (tyX5 k) := by decide +kernel
abbrev cX5_init : ByteArray := prog_7_method_1_code
def yX5_init : MethodName := ⟨RX5, "<init>", "()V"⟩
abbrev cX5_put : ByteArray := prog_7_method_2_code
def yX5_put : MethodName := ⟨RX5, "put", "(I)Z"⟩
abbrev cX5_putFromDisk : ByteArray := prog_7_method_3_code
def yX5_putFromDisk : MethodName := ⟨RX5, "putFromDisk", "(II)Z"⟩
abbrev cX5_putFromMemory : ByteArray := prog_7_method_4_code
def yX5_putFromMemory : MethodName := ⟨RX5, "putFromMemory", "(I)Z"⟩
abbrev cX5_putHead : ByteArray := prog_7_method_5_code
def yX5_putHead : MethodName := ⟨RX5, "putHead", "(II)Z"⟩
abbrev cX5_check : ByteArray := prog_7_method_6_code
def yX5_check : MethodName := ⟨RX5, "check", "(I)I"⟩
abbrev cX5_bits : ByteArray := prog_7_method_7_code
def yX5_bits : MethodName := ⟨RX5, "bits", "(I)I"⟩
abbrev cX5_changed : ByteArray := prog_7_method_8_code
def yX5_changed : MethodName := ⟨RX5, "changed", "()I"⟩
abbrev cX5_commit : ByteArray := prog_7_method_9_code
def yX5_commit : MethodName := ⟨RX5, "commit", "()I"⟩
abbrev cX5_isHead : ByteArray := prog_7_method_10_code
def yX5_isHead : MethodName := ⟨RX5, "isHead", "()Z"⟩
abbrev cX5_copyBack : ByteArray := prog_7_method_11_code
def yX5_copyBack : MethodName := ⟨RX5, "copyBack", "()V"⟩
abbrev cX5_recover : ByteArray := prog_7_method_12_code
def yX5_recover : MethodName := ⟨RX5, "recover", "()I"⟩
abbrev cX5_format : ByteArray := prog_7_method_13_code
def yX5_format : MethodName := ⟨RX5, "format", "()I"⟩
abbrev cX5_crashAfter : ByteArray := prog_7_method_14_code
def yX5_crashAfter : MethodName := ⟨RX5, "crashAfter", "(I)I"⟩
abbrev cX5_peek : ByteArray := prog_7_method_15_code
def yX5_peek : MethodName := ⟨RX5, "peek", "(II)I"⟩
abbrev cX5_writes : ByteArray := prog_7_method_16_code
def yX5_writes : MethodName := ⟨RX5, "writes", "()I"⟩
abbrev cX5_begin : ByteArray := prog_7_method_17_code
def yX5_begin : MethodName := ⟨RX5, "begin", "()I"⟩
abbrev cX5_rollback : ByteArray := prog_7_method_18_code
def yX5_rollback : MethodName := ⟨RX5, "rollback", "()I"⟩
abbrev cX5_noTable : ByteArray := prog_7_method_19_code
def yX5_noTable : MethodName := ⟨RX5, "noTable", "(I)Z"⟩
abbrev cX5_slots : ByteArray := prog_7_method_20_code
def yX5_slots : MethodName := ⟨RX5, "slots", "(I)I"⟩
abbrev cX5_change : ByteArray := prog_7_method_21_code
def yX5_change : MethodName := ⟨RX5, "change", "(I)V"⟩
abbrev cX5_clearPage : ByteArray := prog_7_method_22_code
def yX5_clearPage : MethodName := ⟨RX5, "clearPage", "(I)V"⟩
abbrev cX5_createTable : ByteArray := prog_7_method_23_code
def yX5_createTable : MethodName := ⟨RX5, "createTable", "(I)I"⟩
abbrev cX5_dropTable : ByteArray := prog_7_method_24_code
def yX5_dropTable : MethodName := ⟨RX5, "dropTable", "(I)I"⟩
abbrev cX5_stage : ByteArray := prog_7_method_25_code
def yX5_stage : MethodName := ⟨RX5, "stage", "(II)I"⟩
abbrev cX5_wordOf : ByteArray := prog_7_method_26_code
def yX5_wordOf : MethodName := ⟨RX5, "wordOf", "(III)I"⟩
abbrev cX5_filled : ByteArray := prog_7_method_27_code
def yX5_filled : MethodName := ⟨RX5, "filled", "(II)Z"⟩
abbrev cX5_seek : ByteArray := prog_7_method_28_code
def yX5_seek : MethodName := ⟨RX5, "seek", "(II)I"⟩
abbrev cX5_leads : ByteArray := prog_7_method_29_code
def yX5_leads : MethodName := ⟨RX5, "leads", "(II)I"⟩
abbrev cX5_lay : ByteArray := prog_7_method_30_code
def yX5_lay : MethodName := ⟨RX5, "lay", "(III)V"⟩
abbrev cX5_freePage : ByteArray := prog_7_method_31_code
def yX5_freePage : MethodName := ⟨RX5, "freePage", "()I"⟩
abbrev cX5_insert : ByteArray := prog_7_method_32_code
def yX5_insert : MethodName := ⟨RX5, "insert", "(I)I"⟩
abbrev cX5_deleteKey : ByteArray := prog_7_method_33_code
def yX5_deleteKey : MethodName := ⟨RX5, "deleteKey", "(II)I"⟩
abbrev cX5_updateCol : ByteArray := prog_7_method_34_code
def yX5_updateCol : MethodName := ⟨RX5, "updateCol", "(IIII)I"⟩
abbrev cX5_lookup : ByteArray := prog_7_method_35_code
def yX5_lookup : MethodName := ⟨RX5, "lookup", "(III)I"⟩
abbrev cX5_has : ByteArray := prog_7_method_36_code
def yX5_has : MethodName := ⟨RX5, "has", "(II)Z"⟩
abbrev cX5_count : ByteArray := prog_7_method_37_code
def yX5_count : MethodName := ⟨RX5, "count", "(I)I"⟩
abbrev cX5_openScan : ByteArray := prog_7_method_38_code
def yX5_openScan : MethodName := ⟨RX5, "openScan", "(IIII)I"⟩
abbrev cX5_noScan : ByteArray := prog_7_method_39_code
def yX5_noScan : MethodName := ⟨RX5, "noScan", "(I)Z"⟩
abbrev cX5_seekNext : ByteArray := prog_7_method_40_code
def yX5_seekNext : MethodName := ⟨RX5, "seekNext", "(I)Z"⟩
abbrev cX5_next : ByteArray := prog_7_method_41_code
def yX5_next : MethodName := ⟨RX5, "next", "(I)Z"⟩
abbrev cX5_col : ByteArray := prog_7_method_42_code
def yX5_col : MethodName := ⟨RX5, "col", "(II)I"⟩
abbrev cX5_closeScan : ByteArray := prog_7_method_43_code
def yX5_closeScan : MethodName := ⟨RX5, "closeScan", "(I)I"⟩
def RJ6 : String := "java/lang/Integer"
def TJ6 : u_T := fun k => match k with
  | _ => ("", "", "", false)
def tyJ6 : Nat → FieldType := fun k => match k with
  | _ => .int
abbrev wsJ60 : List Cond := u_ws RJ6 TJ6 0
theorem nmJ6 : ∀ a, a < 0 → ∀ b, b < 0 → a ≠ b → (TJ6 a).2.1 ≠ (TJ6 b).2.1 := by decide +kernel
theorem tyJ6_ok : ∀ k, k < 0 → parseFieldDescriptor (TJ6 k).2.2.1 = some (tyJ6 k) := by decide +kernel
abbrev cJ6_bitCount_0f7a4 : ByteArray := prog_8_method_49_code
def yJ6_bitCount_0f7a4 : MethodName := ⟨RJ6, "bitCount", "(I)I"⟩
def RJ10 : String := "java/lang/System"
def TJ10 : u_T := fun k => match k with
  | _ => ("", "", "", false)
def tyJ10 : Nat → FieldType := fun k => match k with
  | _ => .int
end
section
abbrev wsJ100 : List Cond := u_ws RJ10 TJ10 0
theorem nmJ10 : ∀ a, a < 0 → ∀ b, b < 0 → a ≠ b → (TJ10 a).2.1 ≠ (TJ10 b).2.1 := by decide +kernel
theorem tyJ10_ok : ∀ k, k < 0 → parseFieldDescriptor (TJ10 k).2.2.1 = some (tyJ10 k) := by decide +kernel
def RL : String := "JournaledTablesLaw"
abbrev cL_law : ByteArray := code
def yL_law : MethodName := ⟨RL, "law", "([I)Z"⟩
def wsX0_init : List Cond := .code yX0_init cX0_init 1 none :: ([.methodLink RX0 3 objectInit, .instanceMethod objectInit, .code objectInit ⟨#[0xb1]⟩ 1 none, .arrayClass .int, .fieldLink RX0 9 "JournaledTables$Disk" "words" "[I", .fieldLink RX0 15 "JournaledTables$Disk" "powered" "Z", .fieldLink RX0 19 "JournaledTables$Disk" "writesLeft" "I", .fieldLink RX0 23 "JournaledTables$Disk" "writesDone" "I"] ++ wsX00)
def wsX0_powered : List Cond := .code yX0_powered cX0_powered 1 (some .boolean) :: ([.fieldLink RX0 15 "JournaledTables$Disk" "powered" "Z"] ++ wsX00)
def wsX0_writesDone : List Cond := .code yX0_writesDone cX0_writesDone 1 (some .int) :: ([.fieldLink RX0 23 "JournaledTables$Disk" "writesDone" "I"] ++ wsX00)
def wsX0_word : List Cond := .code yX0_word cX0_word 3 (some .int) :: ([.fieldLink RX0 9 "JournaledTables$Disk" "words" "[I"] ++ wsX00)
def wsX0_powerOn : List Cond := .code yX0_powerOn cX0_powerOn 1 none :: ([.fieldLink RX0 15 "JournaledTables$Disk" "powered" "Z"] ++ wsX00)
def wsX0_failAfter : List Cond := .code yX0_failAfter cX0_failAfter 2 none :: ([.fieldLink RX0 19 "JournaledTables$Disk" "writesLeft" "I"] ++ wsX00)
def wsX0_wipe : List Cond := .code yX0_wipe cX0_wipe 2 none :: ([.fieldLink RX0 9 "JournaledTables$Disk" "words" "[I", .fieldLink RX0 15 "JournaledTables$Disk" "powered" "Z", .fieldLink RX0 19 "JournaledTables$Disk" "writesLeft" "I"] ++ wsX00)
def wsX0_write : List Cond := .code yX0_write cX0_write 4 (some .boolean) :: ([.fieldLink RX0 19 "JournaledTables$Disk" "writesLeft" "I", .fieldLink RX0 15 "JournaledTables$Disk" "powered" "Z", .fieldLink RX0 9 "JournaledTables$Disk" "words" "[I", .methodLink RX0 26 arraycopyName, .native arraycopyName, .static arraycopyName, .initialized "java/lang/System", .fieldLink RX0 23 "JournaledTables$Disk" "writesDone" "I"] ++ wsX00)
def wsX0_copyBlock : List Cond := .code yX0_copyBlock cX0_copyBlock 3 (some .boolean) :: ([.fieldLink RX0 9 "JournaledTables$Disk" "words" "[I", .methodLink RX0 32 yX0_write, .instanceMethod yX0_write, .selects RX0 yX0_write yX0_write, .initialized RX0, .code yX0_write cX0_write 4 (some .boolean), .fieldLink RX0 19 "JournaledTables$Disk" "writesLeft" "I", .fieldLink RX0 15 "JournaledTables$Disk" "powered" "Z", .methodLink RX0 26 arraycopyName, .native arraycopyName, .static arraycopyName, .initialized "java/lang/System", .fieldLink RX0 23 "JournaledTables$Disk" "writesDone" "I"] ++ wsX00)
def wsX1_init : List Cond := .code yX1_init cX1_init 3 none :: ([.methodLink RX1 3 objectInit, .instanceMethod objectInit, .code objectInit ⟨#[0xb1]⟩ 1 none, .arrayClass .int, .fieldLink RX1 9 "JournaledTables$Journal" "head" "[I", .fieldLink RX1 15 "JournaledTables$Journal" "disk" "LJournaledTables$Disk;", .fieldLink RX1 19 "JournaledTables$Journal" "memory" "LJournaledTables$Memory;"] ++ wsX10)
def wsX2_differs : List Cond := .code yX2_differs cX2_differs 5 (some .boolean) :: ([.fieldLink RX2 9 "JournaledTables$Memory" "words" "[I"] ++ wsX20 ++ wsX00)
def wsX1_changedBlocks : List Cond := .code yX1_changedBlocks cX1_changedBlocks 3 (some .int) :: ([.fieldLink RX1 19 "JournaledTables$Journal" "memory" "LJournaledTables$Memory;", .fieldLink RX1 15 "JournaledTables$Journal" "disk" "LJournaledTables$Disk;", .methodLink RX1 47 yX2_differs, .instanceMethod yX2_differs, .selects RX2 yX2_differs yX2_differs, .initialized RX2, .code yX2_differs cX2_differs 5 (some .boolean), .fieldLink RX2 9 "JournaledTables$Memory" "words" "[I"] ++ wsX10 ++ wsX20 ++ wsX00)
def wsX1_contains : List Cond := .code yX1_contains cX1_contains 2 (some .boolean) :: ([])
def wsJ6_bitCount_0f7a4 : List Cond := .code yJ6_bitCount_0f7a4 cJ6_bitCount_0f7a4 1 (some .int) :: ([.constant RJ6 265 (1431655765), .constant RJ6 266 (858993459), .constant RJ6 267 (252645135)])
def wsX1_imageOf : List Cond := .code yX1_imageOf cX1_imageOf 2 (some .int) :: ([.methodLink RX1 66 yJ6_bitCount_0f7a4, .static yJ6_bitCount_0f7a4, .initialized RJ6, .code yJ6_bitCount_0f7a4 cJ6_bitCount_0f7a4 1 (some .int), .constant RJ6 265 (1431655765), .constant RJ6 266 (858993459), .constant RJ6 267 (252645135)])
def wsX1_keepImages_r1 : List Cond := [Cond.fieldLink RX1 15 "JournaledTables$Journal" "disk" "LJournaledTables$Disk;", Cond.methodLink RX1 53 yX1_contains, Cond.static yX1_contains, Cond.initialized RX1, Cond.code yX1_contains cX1_contains 2 (some .boolean), Cond.methodLink RX1 57 yX1_imageOf, Cond.static yX1_imageOf, Cond.code yX1_imageOf cX1_imageOf 2 (some .int), Cond.methodLink RX1 66 yJ6_bitCount_0f7a4, Cond.static yJ6_bitCount_0f7a4, Cond.initialized RJ6, Cond.code yJ6_bitCount_0f7a4 cJ6_bitCount_0f7a4 1 (some .int), Cond.constant RJ6 265 (1431655765), Cond.constant RJ6 266 (858993459), Cond.constant RJ6 267 (252645135), Cond.methodLink RX1 61 yX0_copyBlock, Cond.instanceMethod yX0_copyBlock, Cond.selects RX0 yX0_copyBlock yX0_copyBlock, Cond.initialized RX0, Cond.code yX0_copyBlock cX0_copyBlock 3 (some .boolean), Cond.fieldLink RX0 9 "JournaledTables$Disk" "words" "[I", Cond.methodLink RX0 32 yX0_write, Cond.instanceMethod yX0_write, Cond.selects RX0 yX0_write yX0_write]
def wsX1_keepImages_r2 : List Cond := [Cond.code yX0_write cX0_write 4 (some .boolean), Cond.fieldLink RX0 19 "JournaledTables$Disk" "writesLeft" "I", Cond.fieldLink RX0 15 "JournaledTables$Disk" "powered" "Z", Cond.methodLink RX0 26 arraycopyName, Cond.native arraycopyName, Cond.static arraycopyName, Cond.initialized "java/lang/System", Cond.fieldLink RX0 23 "JournaledTables$Disk" "writesDone" "I"]
def wsX1_keepImages : List Cond := .code yX1_keepImages cX1_keepImages 3 (some .boolean) :: ((wsX1_keepImages_r1 ++ wsX1_keepImages_r2) ++ wsX10 ++ wsX00)
def wsX1_checkOfImages : List Cond := .code yX1_checkOfImages cX1_checkOfImages 5 (some .int) :: ([.fieldLink RX1 15 "JournaledTables$Journal" "disk" "LJournaledTables$Disk;", .methodLink RX1 82 yX0_word, .instanceMethod yX0_word, .selects RX0 yX0_word yX0_word, .initialized RX0, .code yX0_word cX0_word 3 (some .int), .fieldLink RX0 9 "JournaledTables$Disk" "words" "[I"] ++ wsX10 ++ wsX00)
def wsX1_writeHead_r1 : List Cond := [Cond.fieldLink RX1 9 "JournaledTables$Journal" "head" "[I", Cond.fieldLink RX1 15 "JournaledTables$Journal" "disk" "LJournaledTables$Disk;", Cond.methodLink RX1 66 yJ6_bitCount_0f7a4, Cond.static yJ6_bitCount_0f7a4, Cond.initialized RJ6, Cond.code yJ6_bitCount_0f7a4 cJ6_bitCount_0f7a4 1 (some .int), Cond.constant RJ6 265 (1431655765), Cond.constant RJ6 266 (858993459), Cond.constant RJ6 267 (252645135), Cond.methodLink RX1 72 yX1_checkOfImages, Cond.instanceMethod yX1_checkOfImages, Cond.selects RX1 yX1_checkOfImages yX1_checkOfImages, Cond.initialized RX1, Cond.code yX1_checkOfImages cX1_checkOfImages 5 (some .int), Cond.methodLink RX1 82 yX0_word, Cond.instanceMethod yX0_word, Cond.selects RX0 yX0_word yX0_word, Cond.initialized RX0, Cond.code yX0_word cX0_word 3 (some .int), Cond.fieldLink RX0 9 "JournaledTables$Disk" "words" "[I", Cond.methodLink RX1 75 yX0_write, Cond.instanceMethod yX0_write, Cond.selects RX0 yX0_write yX0_write, Cond.code yX0_write cX0_write 4 (some .boolean)]
def wsX1_writeHead_r2 : List Cond := [Cond.fieldLink RX0 19 "JournaledTables$Disk" "writesLeft" "I", Cond.fieldLink RX0 15 "JournaledTables$Disk" "powered" "Z", Cond.methodLink RX0 26 arraycopyName, Cond.native arraycopyName, Cond.static arraycopyName, Cond.initialized "java/lang/System", Cond.fieldLink RX0 23 "JournaledTables$Disk" "writesDone" "I"]
def wsX1_writeHead : List Cond := .code yX1_writeHead cX1_writeHead 3 (some .boolean) :: ((wsX1_writeHead_r1 ++ wsX1_writeHead_r2) ++ wsX10 ++ wsX00)
def wsX2_save : List Cond := .code yX2_save cX2_save 3 (some .boolean) :: ([.fieldLink RX2 9 "JournaledTables$Memory" "words" "[I", .methodLink RX2 24 yX0_write, .instanceMethod yX0_write, .selects RX0 yX0_write yX0_write, .initialized RX0, .code yX0_write cX0_write 4 (some .boolean), .fieldLink RX0 19 "JournaledTables$Disk" "writesLeft" "I", .fieldLink RX0 15 "JournaledTables$Disk" "powered" "Z", .fieldLink RX0 9 "JournaledTables$Disk" "words" "[I", .methodLink RX0 26 arraycopyName, .native arraycopyName, .static arraycopyName, .initialized "java/lang/System", .fieldLink RX0 23 "JournaledTables$Disk" "writesDone" "I"] ++ wsX20 ++ wsX00)
def wsX1_saveBlocks_r1 : List Cond := [Cond.fieldLink RX1 19 "JournaledTables$Journal" "memory" "LJournaledTables$Memory;", Cond.fieldLink RX1 15 "JournaledTables$Journal" "disk" "LJournaledTables$Disk;", Cond.methodLink RX1 53 yX1_contains, Cond.static yX1_contains, Cond.initialized RX1, Cond.code yX1_contains cX1_contains 2 (some .boolean), Cond.methodLink RX1 79 yX2_save, Cond.instanceMethod yX2_save, Cond.selects RX2 yX2_save yX2_save, Cond.initialized RX2, Cond.code yX2_save cX2_save 3 (some .boolean), Cond.fieldLink RX2 9 "JournaledTables$Memory" "words" "[I", Cond.methodLink RX2 24 yX0_write, Cond.instanceMethod yX0_write, Cond.selects RX0 yX0_write yX0_write, Cond.initialized RX0, Cond.code yX0_write cX0_write 4 (some .boolean), Cond.fieldLink RX0 19 "JournaledTables$Disk" "writesLeft" "I", Cond.fieldLink RX0 15 "JournaledTables$Disk" "powered" "Z", Cond.fieldLink RX0 9 "JournaledTables$Disk" "words" "[I", Cond.methodLink RX0 26 arraycopyName, Cond.native arraycopyName, Cond.static arraycopyName, Cond.initialized "java/lang/System"]
def wsX1_saveBlocks_r2 : List Cond := [Cond.fieldLink RX0 23 "JournaledTables$Disk" "writesDone" "I"]
def wsX1_saveBlocks : List Cond := .code yX1_saveBlocks cX1_saveBlocks 3 (some .boolean) :: ((wsX1_saveBlocks_r1 ++ wsX1_saveBlocks_r2) ++ wsX10 ++ wsX20 ++ wsX00)
def wsX1_clearHead : List Cond := .code yX1_clearHead cX1_clearHead 2 (some .boolean) :: ([.fieldLink RX1 9 "JournaledTables$Journal" "head" "[I", .fieldLink RX1 15 "JournaledTables$Journal" "disk" "LJournaledTables$Disk;", .methodLink RX1 75 yX0_write, .instanceMethod yX0_write, .selects RX0 yX0_write yX0_write, .initialized RX0, .code yX0_write cX0_write 4 (some .boolean), .fieldLink RX0 19 "JournaledTables$Disk" "writesLeft" "I", .fieldLink RX0 15 "JournaledTables$Disk" "powered" "Z", .fieldLink RX0 9 "JournaledTables$Disk" "words" "[I", .methodLink RX0 26 arraycopyName, .native arraycopyName, .static arraycopyName, .initialized "java/lang/System", .fieldLink RX0 23 "JournaledTables$Disk" "writesDone" "I"] ++ wsX10 ++ wsX00)
def wsX1_carryOut_r1 : List Cond := [Cond.methodLink RX1 23 yX1_changedBlocks, Cond.instanceMethod yX1_changedBlocks, Cond.selects RX1 yX1_changedBlocks yX1_changedBlocks, Cond.initialized RX1, Cond.code yX1_changedBlocks cX1_changedBlocks 3 (some .int), Cond.fieldLink RX1 19 "JournaledTables$Journal" "memory" "LJournaledTables$Memory;", Cond.fieldLink RX1 15 "JournaledTables$Journal" "disk" "LJournaledTables$Disk;", Cond.methodLink RX1 47 yX2_differs, Cond.instanceMethod yX2_differs, Cond.selects RX2 yX2_differs yX2_differs, Cond.initialized RX2, Cond.code yX2_differs cX2_differs 5 (some .boolean), Cond.fieldLink RX2 9 "JournaledTables$Memory" "words" "[I", Cond.methodLink RX1 27 yX1_keepImages, Cond.instanceMethod yX1_keepImages, Cond.selects RX1 yX1_keepImages yX1_keepImages, Cond.code yX1_keepImages cX1_keepImages 3 (some .boolean), Cond.methodLink RX1 53 yX1_contains, Cond.static yX1_contains, Cond.code yX1_contains cX1_contains 2 (some .boolean), Cond.methodLink RX1 57 yX1_imageOf, Cond.static yX1_imageOf, Cond.code yX1_imageOf cX1_imageOf 2 (some .int), Cond.methodLink RX1 66 yJ6_bitCount_0f7a4]
def wsX1_carryOut_r2 : List Cond := [Cond.static yJ6_bitCount_0f7a4, Cond.initialized RJ6, Cond.code yJ6_bitCount_0f7a4 cJ6_bitCount_0f7a4 1 (some .int), Cond.constant RJ6 265 (1431655765), Cond.constant RJ6 266 (858993459), Cond.constant RJ6 267 (252645135), Cond.methodLink RX1 61 yX0_copyBlock, Cond.instanceMethod yX0_copyBlock, Cond.selects RX0 yX0_copyBlock yX0_copyBlock, Cond.initialized RX0, Cond.code yX0_copyBlock cX0_copyBlock 3 (some .boolean), Cond.fieldLink RX0 9 "JournaledTables$Disk" "words" "[I", Cond.methodLink RX0 32 yX0_write, Cond.instanceMethod yX0_write, Cond.selects RX0 yX0_write yX0_write, Cond.code yX0_write cX0_write 4 (some .boolean), Cond.fieldLink RX0 19 "JournaledTables$Disk" "writesLeft" "I", Cond.fieldLink RX0 15 "JournaledTables$Disk" "powered" "Z", Cond.methodLink RX0 26 arraycopyName, Cond.native arraycopyName, Cond.static arraycopyName, Cond.initialized "java/lang/System", Cond.fieldLink RX0 23 "JournaledTables$Disk" "writesDone" "I", Cond.methodLink RX1 31 yX1_writeHead]
def wsX1_carryOut_r3 : List Cond := [Cond.instanceMethod yX1_writeHead, Cond.selects RX1 yX1_writeHead yX1_writeHead, Cond.code yX1_writeHead cX1_writeHead 3 (some .boolean), Cond.fieldLink RX1 9 "JournaledTables$Journal" "head" "[I", Cond.methodLink RX1 72 yX1_checkOfImages, Cond.instanceMethod yX1_checkOfImages, Cond.selects RX1 yX1_checkOfImages yX1_checkOfImages, Cond.code yX1_checkOfImages cX1_checkOfImages 5 (some .int), Cond.methodLink RX1 82 yX0_word, Cond.instanceMethod yX0_word, Cond.selects RX0 yX0_word yX0_word, Cond.code yX0_word cX0_word 3 (some .int), Cond.methodLink RX1 75 yX0_write, Cond.methodLink RX1 34 yX1_saveBlocks, Cond.instanceMethod yX1_saveBlocks, Cond.selects RX1 yX1_saveBlocks yX1_saveBlocks, Cond.code yX1_saveBlocks cX1_saveBlocks 3 (some .boolean), Cond.methodLink RX1 79 yX2_save, Cond.instanceMethod yX2_save, Cond.selects RX2 yX2_save yX2_save, Cond.code yX2_save cX2_save 3 (some .boolean), Cond.methodLink RX2 24 yX0_write, Cond.methodLink RX1 37 yX1_clearHead, Cond.instanceMethod yX1_clearHead]
def wsX1_carryOut_r4 : List Cond := [Cond.selects RX1 yX1_clearHead yX1_clearHead, Cond.code yX1_clearHead cX1_clearHead 2 (some .boolean)]
def wsX1_carryOut : List Cond := .code yX1_carryOut cX1_carryOut 2 (some .boolean) :: ((wsX1_carryOut_r1 ++ (wsX1_carryOut_r2 ++ (wsX1_carryOut_r3 ++ wsX1_carryOut_r4))) ++ wsX10 ++ wsX20 ++ wsX00)
def wsX1_blocksToUndo : List Cond := .code yX1_blocksToUndo cX1_blocksToUndo 4 (some .int) :: ([.fieldLink RX1 15 "JournaledTables$Journal" "disk" "LJournaledTables$Disk;", .methodLink RX1 82 yX0_word, .instanceMethod yX0_word, .selects RX0 yX0_word yX0_word, .initialized RX0, .code yX0_word cX0_word 3 (some .int), .fieldLink RX0 9 "JournaledTables$Disk" "words" "[I", .methodLink RX1 66 yJ6_bitCount_0f7a4, .static yJ6_bitCount_0f7a4, .initialized RJ6, .code yJ6_bitCount_0f7a4 cJ6_bitCount_0f7a4 1 (some .int), .constant RJ6 265 (1431655765), .constant RJ6 266 (858993459), .constant RJ6 267 (252645135), .methodLink RX1 72 yX1_checkOfImages, .instanceMethod yX1_checkOfImages, .selects RX1 yX1_checkOfImages yX1_checkOfImages, .initialized RX1, .code yX1_checkOfImages cX1_checkOfImages 5 (some .int)] ++ wsX10 ++ wsX00)
def wsX1_restoreBlocks_r1 : List Cond := [Cond.fieldLink RX1 15 "JournaledTables$Journal" "disk" "LJournaledTables$Disk;", Cond.methodLink RX1 53 yX1_contains, Cond.static yX1_contains, Cond.initialized RX1, Cond.code yX1_contains cX1_contains 2 (some .boolean), Cond.methodLink RX1 57 yX1_imageOf, Cond.static yX1_imageOf, Cond.code yX1_imageOf cX1_imageOf 2 (some .int), Cond.methodLink RX1 66 yJ6_bitCount_0f7a4, Cond.static yJ6_bitCount_0f7a4, Cond.initialized RJ6, Cond.code yJ6_bitCount_0f7a4 cJ6_bitCount_0f7a4 1 (some .int), Cond.constant RJ6 265 (1431655765), Cond.constant RJ6 266 (858993459), Cond.constant RJ6 267 (252645135), Cond.methodLink RX1 61 yX0_copyBlock, Cond.instanceMethod yX0_copyBlock, Cond.selects RX0 yX0_copyBlock yX0_copyBlock, Cond.initialized RX0, Cond.code yX0_copyBlock cX0_copyBlock 3 (some .boolean), Cond.fieldLink RX0 9 "JournaledTables$Disk" "words" "[I", Cond.methodLink RX0 32 yX0_write, Cond.instanceMethod yX0_write, Cond.selects RX0 yX0_write yX0_write]
def wsX1_restoreBlocks_r2 : List Cond := [Cond.code yX0_write cX0_write 4 (some .boolean), Cond.fieldLink RX0 19 "JournaledTables$Disk" "writesLeft" "I", Cond.fieldLink RX0 15 "JournaledTables$Disk" "powered" "Z", Cond.methodLink RX0 26 arraycopyName, Cond.native arraycopyName, Cond.static arraycopyName, Cond.initialized "java/lang/System", Cond.fieldLink RX0 23 "JournaledTables$Disk" "writesDone" "I"]
def wsX1_restoreBlocks : List Cond := .code yX1_restoreBlocks cX1_restoreBlocks 3 (some .boolean) :: ((wsX1_restoreBlocks_r1 ++ wsX1_restoreBlocks_r2) ++ wsX10 ++ wsX00)
def wsX1_undo_r1 : List Cond := [Cond.methodLink RX1 41 yX1_blocksToUndo, Cond.instanceMethod yX1_blocksToUndo, Cond.selects RX1 yX1_blocksToUndo yX1_blocksToUndo, Cond.initialized RX1, Cond.code yX1_blocksToUndo cX1_blocksToUndo 4 (some .int), Cond.fieldLink RX1 15 "JournaledTables$Journal" "disk" "LJournaledTables$Disk;", Cond.methodLink RX1 82 yX0_word, Cond.instanceMethod yX0_word, Cond.selects RX0 yX0_word yX0_word, Cond.initialized RX0, Cond.code yX0_word cX0_word 3 (some .int), Cond.fieldLink RX0 9 "JournaledTables$Disk" "words" "[I", Cond.methodLink RX1 66 yJ6_bitCount_0f7a4, Cond.static yJ6_bitCount_0f7a4, Cond.initialized RJ6, Cond.code yJ6_bitCount_0f7a4 cJ6_bitCount_0f7a4 1 (some .int), Cond.constant RJ6 265 (1431655765), Cond.constant RJ6 266 (858993459), Cond.constant RJ6 267 (252645135), Cond.methodLink RX1 72 yX1_checkOfImages, Cond.instanceMethod yX1_checkOfImages, Cond.selects RX1 yX1_checkOfImages yX1_checkOfImages, Cond.code yX1_checkOfImages cX1_checkOfImages 5 (some .int), Cond.methodLink RX1 44 yX1_restoreBlocks]
def wsX1_undo_r2 : List Cond := [Cond.instanceMethod yX1_restoreBlocks, Cond.selects RX1 yX1_restoreBlocks yX1_restoreBlocks, Cond.code yX1_restoreBlocks cX1_restoreBlocks 3 (some .boolean), Cond.methodLink RX1 53 yX1_contains, Cond.static yX1_contains, Cond.code yX1_contains cX1_contains 2 (some .boolean), Cond.methodLink RX1 57 yX1_imageOf, Cond.static yX1_imageOf, Cond.code yX1_imageOf cX1_imageOf 2 (some .int), Cond.methodLink RX1 61 yX0_copyBlock, Cond.instanceMethod yX0_copyBlock, Cond.selects RX0 yX0_copyBlock yX0_copyBlock, Cond.code yX0_copyBlock cX0_copyBlock 3 (some .boolean), Cond.methodLink RX0 32 yX0_write, Cond.instanceMethod yX0_write, Cond.selects RX0 yX0_write yX0_write, Cond.code yX0_write cX0_write 4 (some .boolean), Cond.fieldLink RX0 19 "JournaledTables$Disk" "writesLeft" "I", Cond.fieldLink RX0 15 "JournaledTables$Disk" "powered" "Z", Cond.methodLink RX0 26 arraycopyName, Cond.native arraycopyName, Cond.static arraycopyName, Cond.initialized "java/lang/System", Cond.fieldLink RX0 23 "JournaledTables$Disk" "writesDone" "I"]
def wsX1_undo_r3 : List Cond := [Cond.methodLink RX1 37 yX1_clearHead, Cond.instanceMethod yX1_clearHead, Cond.selects RX1 yX1_clearHead yX1_clearHead, Cond.code yX1_clearHead cX1_clearHead 2 (some .boolean), Cond.fieldLink RX1 9 "JournaledTables$Journal" "head" "[I", Cond.methodLink RX1 75 yX0_write]
def wsX1_undo : List Cond := .code yX1_undo cX1_undo 2 (some .boolean) :: ((wsX1_undo_r1 ++ (wsX1_undo_r2 ++ wsX1_undo_r3)) ++ wsX10 ++ wsX00)
def wsX2_init : List Cond := .code yX2_init cX2_init 1 none :: ([.methodLink RX2 3 objectInit, .instanceMethod objectInit, .code objectInit ⟨#[0xb1]⟩ 1 none, .arrayClass .int, .fieldLink RX2 9 "JournaledTables$Memory" "words" "[I"] ++ wsX20)
def wsX2_load : List Cond := .code yX2_load cX2_load 2 none :: ([.fieldLink RX2 9 "JournaledTables$Memory" "words" "[I", .methodLink RX2 18 arraycopyName, .native arraycopyName, .static arraycopyName, .initialized "java/lang/System"] ++ wsX00 ++ wsX20)
def wsX2_word : List Cond := .code yX2_word cX2_word 2 (some .int) :: ([.fieldLink RX2 9 "JournaledTables$Memory" "words" "[I"] ++ wsX20)
def wsX2_setWord : List Cond := .code yX2_setWord cX2_setWord 3 none :: ([.fieldLink RX2 9 "JournaledTables$Memory" "words" "[I"] ++ wsX20)
def wsX2_hasTable : List Cond := .code yX2_hasTable cX2_hasTable 2 (some .boolean) :: ([.fieldLink RX2 9 "JournaledTables$Memory" "words" "[I"] ++ wsX20)
def wsX2_width : List Cond := .code yX2_width cX2_width 2 (some .int) :: ([.fieldLink RX2 9 "JournaledTables$Memory" "words" "[I", .methodLink RX2 28 yX2_hasTable, .instanceMethod yX2_hasTable, .selects RX2 yX2_hasTable yX2_hasTable, .initialized RX2, .code yX2_hasTable cX2_hasTable 2 (some .boolean)] ++ wsX20)
def wsX2_hasCol : List Cond := .code yX2_hasCol cX2_hasCol 3 (some .boolean) :: ([.methodLink RX2 32 yX2_width, .instanceMethod yX2_width, .selects RX2 yX2_width yX2_width, .initialized RX2, .code yX2_width cX2_width 2 (some .int), .fieldLink RX2 9 "JournaledTables$Memory" "words" "[I", .methodLink RX2 28 yX2_hasTable, .instanceMethod yX2_hasTable, .selects RX2 yX2_hasTable yX2_hasTable, .code yX2_hasTable cX2_hasTable 2 (some .boolean)] ++ wsX20)
def wsX2_freeTable : List Cond := .code yX2_freeTable cX2_freeTable 2 (some .int) :: ([.fieldLink RX2 9 "JournaledTables$Memory" "words" "[I"] ++ wsX20)
def wsX2_addTable : List Cond := .code yX2_addTable cX2_addTable 3 none :: ([.fieldLink RX2 9 "JournaledTables$Memory" "words" "[I"] ++ wsX20)
def wsX2_isPageOf : List Cond := .code yX2_isPageOf cX2_isPageOf 3 (some .boolean) :: ([.fieldLink RX2 9 "JournaledTables$Memory" "words" "[I"] ++ wsX20)
def wsX2_clear : List Cond := .code yX2_clear cX2_clear 4 none :: ([.fieldLink RX2 9 "JournaledTables$Memory" "words" "[I"] ++ wsX20)
def wsX2_removeTable : List Cond := .code yX2_removeTable cX2_removeTable 3 none :: ([.fieldLink RX2 9 "JournaledTables$Memory" "words" "[I", .methodLink RX2 36 yX2_isPageOf, .instanceMethod yX2_isPageOf, .selects RX2 yX2_isPageOf yX2_isPageOf, .initialized RX2, .code yX2_isPageOf cX2_isPageOf 3 (some .boolean), .methodLink RX2 40 yX2_clear, .instanceMethod yX2_clear, .selects RX2 yX2_clear yX2_clear, .code yX2_clear cX2_clear 4 none] ++ wsX20)
def wsX2_slots : List Cond := .code yX2_slots cX2_slots 3 (some .int) :: ([.methodLink RX2 32 yX2_width, .instanceMethod yX2_width, .selects RX2 yX2_width yX2_width, .initialized RX2, .code yX2_width cX2_width 2 (some .int), .fieldLink RX2 9 "JournaledTables$Memory" "words" "[I", .methodLink RX2 28 yX2_hasTable, .instanceMethod yX2_hasTable, .selects RX2 yX2_hasTable yX2_hasTable, .code yX2_hasTable cX2_hasTable 2 (some .boolean)] ++ wsX20)
def wsX2_rowAt : List Cond := .code yX2_rowAt cX2_rowAt 4 (some .int) :: ([.methodLink RX2 32 yX2_width, .instanceMethod yX2_width, .selects RX2 yX2_width yX2_width, .initialized RX2, .code yX2_width cX2_width 2 (some .int), .fieldLink RX2 9 "JournaledTables$Memory" "words" "[I", .methodLink RX2 28 yX2_hasTable, .instanceMethod yX2_hasTable, .selects RX2 yX2_hasTable yX2_hasTable, .code yX2_hasTable cX2_hasTable 2 (some .boolean)] ++ wsX20)
def wsX2_hasRow : List Cond := .code yX2_hasRow cX2_hasRow 3 (some .boolean) :: ([.fieldLink RX2 9 "JournaledTables$Memory" "words" "[I"] ++ wsX20)
def wsX2_leastRow_r1 : List Cond := [Cond.fieldLink RX2 9 "JournaledTables$Memory" "words" "[I", Cond.methodLink RX2 48 yX2_slots, Cond.instanceMethod yX2_slots, Cond.selects RX2 yX2_slots yX2_slots, Cond.initialized RX2, Cond.code yX2_slots cX2_slots 3 (some .int), Cond.methodLink RX2 32 yX2_width, Cond.instanceMethod yX2_width, Cond.selects RX2 yX2_width yX2_width, Cond.code yX2_width cX2_width 2 (some .int), Cond.methodLink RX2 28 yX2_hasTable, Cond.instanceMethod yX2_hasTable, Cond.selects RX2 yX2_hasTable yX2_hasTable, Cond.code yX2_hasTable cX2_hasTable 2 (some .boolean), Cond.methodLink RX2 36 yX2_isPageOf, Cond.instanceMethod yX2_isPageOf, Cond.selects RX2 yX2_isPageOf yX2_isPageOf, Cond.code yX2_isPageOf cX2_isPageOf 3 (some .boolean), Cond.methodLink RX2 51 yX2_rowAt, Cond.instanceMethod yX2_rowAt, Cond.selects RX2 yX2_rowAt yX2_rowAt, Cond.code yX2_rowAt cX2_rowAt 4 (some .int), Cond.methodLink RX2 55 yX2_hasRow, Cond.instanceMethod yX2_hasRow]
def wsX2_leastRow_r2 : List Cond := [Cond.selects RX2 yX2_hasRow yX2_hasRow, Cond.code yX2_hasRow cX2_hasRow 3 (some .boolean)]
def wsX2_leastRow : List Cond := .code yX2_leastRow cX2_leastRow 14 (some .int) :: ((wsX2_leastRow_r1 ++ wsX2_leastRow_r2) ++ wsX20)
def wsX2_rowOf_r1 : List Cond := [Cond.methodLink RX2 44 yX2_leastRow, Cond.instanceMethod yX2_leastRow, Cond.selects RX2 yX2_leastRow yX2_leastRow, Cond.initialized RX2, Cond.code yX2_leastRow cX2_leastRow 14 (some .int), Cond.fieldLink RX2 9 "JournaledTables$Memory" "words" "[I", Cond.methodLink RX2 48 yX2_slots, Cond.instanceMethod yX2_slots, Cond.selects RX2 yX2_slots yX2_slots, Cond.code yX2_slots cX2_slots 3 (some .int), Cond.methodLink RX2 32 yX2_width, Cond.instanceMethod yX2_width, Cond.selects RX2 yX2_width yX2_width, Cond.code yX2_width cX2_width 2 (some .int), Cond.methodLink RX2 28 yX2_hasTable, Cond.instanceMethod yX2_hasTable, Cond.selects RX2 yX2_hasTable yX2_hasTable, Cond.code yX2_hasTable cX2_hasTable 2 (some .boolean), Cond.methodLink RX2 36 yX2_isPageOf, Cond.instanceMethod yX2_isPageOf, Cond.selects RX2 yX2_isPageOf yX2_isPageOf, Cond.code yX2_isPageOf cX2_isPageOf 3 (some .boolean), Cond.methodLink RX2 51 yX2_rowAt, Cond.instanceMethod yX2_rowAt]
def wsX2_rowOf_r2 : List Cond := [Cond.selects RX2 yX2_rowAt yX2_rowAt, Cond.code yX2_rowAt cX2_rowAt 4 (some .int), Cond.methodLink RX2 55 yX2_hasRow, Cond.instanceMethod yX2_hasRow, Cond.selects RX2 yX2_hasRow yX2_hasRow, Cond.code yX2_hasRow cX2_hasRow 3 (some .boolean)]
def wsX2_rowOf : List Cond := .code yX2_rowOf cX2_rowOf 3 (some .int) :: ((wsX2_rowOf_r1 ++ wsX2_rowOf_r2) ++ wsX20)
def wsX2_rowsOf : List Cond := .code yX2_rowsOf cX2_rowsOf 4 (some .int) :: ([.fieldLink RX2 9 "JournaledTables$Memory" "words" "[I", .methodLink RX2 36 yX2_isPageOf, .instanceMethod yX2_isPageOf, .selects RX2 yX2_isPageOf yX2_isPageOf, .initialized RX2, .code yX2_isPageOf cX2_isPageOf 3 (some .boolean), .methodLink RX2 58 yJ6_bitCount_0f7a4, .static yJ6_bitCount_0f7a4, .initialized RJ6, .code yJ6_bitCount_0f7a4 cJ6_bitCount_0f7a4 1 (some .int), .constant RJ6 265 (1431655765), .constant RJ6 266 (858993459), .constant RJ6 267 (252645135)] ++ wsX20)
def wsX2_freeSlot : List Cond := .code yX2_freeSlot cX2_freeSlot 4 (some .int) :: ([.methodLink RX2 48 yX2_slots, .instanceMethod yX2_slots, .selects RX2 yX2_slots yX2_slots, .initialized RX2, .code yX2_slots cX2_slots 3 (some .int), .methodLink RX2 32 yX2_width, .instanceMethod yX2_width, .selects RX2 yX2_width yX2_width, .code yX2_width cX2_width 2 (some .int), .fieldLink RX2 9 "JournaledTables$Memory" "words" "[I", .methodLink RX2 28 yX2_hasTable, .instanceMethod yX2_hasTable, .selects RX2 yX2_hasTable yX2_hasTable, .code yX2_hasTable cX2_hasTable 2 (some .boolean), .methodLink RX2 55 yX2_hasRow, .instanceMethod yX2_hasRow, .selects RX2 yX2_hasRow yX2_hasRow, .code yX2_hasRow cX2_hasRow 3 (some .boolean)] ++ wsX20)
def wsX2_pageWithRoom_r1 : List Cond := [Cond.fieldLink RX2 9 "JournaledTables$Memory" "words" "[I", Cond.methodLink RX2 36 yX2_isPageOf, Cond.instanceMethod yX2_isPageOf, Cond.selects RX2 yX2_isPageOf yX2_isPageOf, Cond.initialized RX2, Cond.code yX2_isPageOf cX2_isPageOf 3 (some .boolean), Cond.methodLink RX2 66 yX2_freeSlot, Cond.instanceMethod yX2_freeSlot, Cond.selects RX2 yX2_freeSlot yX2_freeSlot, Cond.code yX2_freeSlot cX2_freeSlot 4 (some .int), Cond.methodLink RX2 48 yX2_slots, Cond.instanceMethod yX2_slots, Cond.selects RX2 yX2_slots yX2_slots, Cond.code yX2_slots cX2_slots 3 (some .int), Cond.methodLink RX2 32 yX2_width, Cond.instanceMethod yX2_width, Cond.selects RX2 yX2_width yX2_width, Cond.code yX2_width cX2_width 2 (some .int), Cond.methodLink RX2 28 yX2_hasTable, Cond.instanceMethod yX2_hasTable, Cond.selects RX2 yX2_hasTable yX2_hasTable, Cond.code yX2_hasTable cX2_hasTable 2 (some .boolean), Cond.methodLink RX2 55 yX2_hasRow, Cond.instanceMethod yX2_hasRow]
def wsX2_pageWithRoom_r2 : List Cond := [Cond.selects RX2 yX2_hasRow yX2_hasRow, Cond.code yX2_hasRow cX2_hasRow 3 (some .boolean)]
def wsX2_pageWithRoom : List Cond := .code yX2_pageWithRoom cX2_pageWithRoom 4 (some .int) :: ((wsX2_pageWithRoom_r1 ++ wsX2_pageWithRoom_r2) ++ wsX20)
def wsX2_putRow : List Cond := .code yX2_putRow cX2_putRow 5 none :: ([.fieldLink RX2 9 "JournaledTables$Memory" "words" "[I", .methodLink RX2 18 arraycopyName, .native arraycopyName, .static arraycopyName, .initialized "java/lang/System", .methodLink RX2 51 yX2_rowAt, .instanceMethod yX2_rowAt, .selects RX2 yX2_rowAt yX2_rowAt, .initialized RX2, .code yX2_rowAt cX2_rowAt 4 (some .int), .methodLink RX2 32 yX2_width, .instanceMethod yX2_width, .selects RX2 yX2_width yX2_width, .code yX2_width cX2_width 2 (some .int), .methodLink RX2 28 yX2_hasTable, .instanceMethod yX2_hasTable, .selects RX2 yX2_hasTable yX2_hasTable, .code yX2_hasTable cX2_hasTable 2 (some .boolean)] ++ wsX20)
def wsX2_freePage : List Cond := .code yX2_freePage cX2_freePage 2 (some .int) :: ([.fieldLink RX2 9 "JournaledTables$Memory" "words" "[I"] ++ wsX20)
def wsX2_linkTo : List Cond := .code yX2_linkTo cX2_linkTo 5 (some .int) :: ([.fieldLink RX2 9 "JournaledTables$Memory" "words" "[I", .methodLink RX2 36 yX2_isPageOf, .instanceMethod yX2_isPageOf, .selects RX2 yX2_isPageOf yX2_isPageOf, .initialized RX2, .code yX2_isPageOf cX2_isPageOf 3 (some .boolean)] ++ wsX20)
def wsX2_addRow_r1 : List Cond := [Cond.fieldLink RX2 9 "JournaledTables$Memory" "words" "[I", Cond.methodLink RX2 63 yX2_pageWithRoom, Cond.instanceMethod yX2_pageWithRoom, Cond.selects RX2 yX2_pageWithRoom yX2_pageWithRoom, Cond.initialized RX2, Cond.code yX2_pageWithRoom cX2_pageWithRoom 4 (some .int), Cond.methodLink RX2 36 yX2_isPageOf, Cond.instanceMethod yX2_isPageOf, Cond.selects RX2 yX2_isPageOf yX2_isPageOf, Cond.code yX2_isPageOf cX2_isPageOf 3 (some .boolean), Cond.methodLink RX2 66 yX2_freeSlot, Cond.instanceMethod yX2_freeSlot, Cond.selects RX2 yX2_freeSlot yX2_freeSlot, Cond.code yX2_freeSlot cX2_freeSlot 4 (some .int), Cond.methodLink RX2 48 yX2_slots, Cond.instanceMethod yX2_slots, Cond.selects RX2 yX2_slots yX2_slots, Cond.code yX2_slots cX2_slots 3 (some .int), Cond.methodLink RX2 32 yX2_width, Cond.instanceMethod yX2_width, Cond.selects RX2 yX2_width yX2_width, Cond.code yX2_width cX2_width 2 (some .int), Cond.methodLink RX2 28 yX2_hasTable, Cond.instanceMethod yX2_hasTable]
def wsX2_addRow_r2 : List Cond := [Cond.selects RX2 yX2_hasTable yX2_hasTable, Cond.code yX2_hasTable cX2_hasTable 2 (some .boolean), Cond.methodLink RX2 55 yX2_hasRow, Cond.instanceMethod yX2_hasRow, Cond.selects RX2 yX2_hasRow yX2_hasRow, Cond.code yX2_hasRow cX2_hasRow 3 (some .boolean), Cond.methodLink RX2 70 yX2_putRow, Cond.instanceMethod yX2_putRow, Cond.selects RX2 yX2_putRow yX2_putRow, Cond.code yX2_putRow cX2_putRow 5 none, Cond.methodLink RX2 18 arraycopyName, Cond.native arraycopyName, Cond.static arraycopyName, Cond.initialized "java/lang/System", Cond.methodLink RX2 51 yX2_rowAt, Cond.instanceMethod yX2_rowAt, Cond.selects RX2 yX2_rowAt yX2_rowAt, Cond.code yX2_rowAt cX2_rowAt 4 (some .int), Cond.methodLink RX2 74 yX2_freePage, Cond.instanceMethod yX2_freePage, Cond.selects RX2 yX2_freePage yX2_freePage, Cond.code yX2_freePage cX2_freePage 2 (some .int), Cond.methodLink RX2 78 yX2_linkTo, Cond.instanceMethod yX2_linkTo]
def wsX2_addRow_r3 : List Cond := [Cond.selects RX2 yX2_linkTo yX2_linkTo, Cond.code yX2_linkTo cX2_linkTo 5 (some .int)]
def wsX2_addRow : List Cond := .code yX2_addRow cX2_addRow 4 (some .boolean) :: ((wsX2_addRow_r1 ++ (wsX2_addRow_r2 ++ wsX2_addRow_r3)) ++ wsX20)
def wsX2_removeRow_r1 : List Cond := [Cond.fieldLink RX2 9 "JournaledTables$Memory" "words" "[I", Cond.methodLink RX2 48 yX2_slots, Cond.instanceMethod yX2_slots, Cond.selects RX2 yX2_slots yX2_slots, Cond.initialized RX2, Cond.code yX2_slots cX2_slots 3 (some .int), Cond.methodLink RX2 32 yX2_width, Cond.instanceMethod yX2_width, Cond.selects RX2 yX2_width yX2_width, Cond.code yX2_width cX2_width 2 (some .int), Cond.methodLink RX2 28 yX2_hasTable, Cond.instanceMethod yX2_hasTable, Cond.selects RX2 yX2_hasTable yX2_hasTable, Cond.code yX2_hasTable cX2_hasTable 2 (some .boolean), Cond.methodLink RX2 51 yX2_rowAt, Cond.instanceMethod yX2_rowAt, Cond.selects RX2 yX2_rowAt yX2_rowAt, Cond.code yX2_rowAt cX2_rowAt 4 (some .int), Cond.methodLink RX2 40 yX2_clear, Cond.instanceMethod yX2_clear, Cond.selects RX2 yX2_clear yX2_clear, Cond.code yX2_clear cX2_clear 4 none, Cond.methodLink RX2 78 yX2_linkTo, Cond.instanceMethod yX2_linkTo]
def wsX2_removeRow_r2 : List Cond := [Cond.selects RX2 yX2_linkTo yX2_linkTo, Cond.code yX2_linkTo cX2_linkTo 5 (some .int), Cond.methodLink RX2 36 yX2_isPageOf, Cond.instanceMethod yX2_isPageOf, Cond.selects RX2 yX2_isPageOf yX2_isPageOf, Cond.code yX2_isPageOf cX2_isPageOf 3 (some .boolean)]
def wsX2_removeRow : List Cond := .code yX2_removeRow cX2_removeRow 6 none :: ((wsX2_removeRow_r1 ++ wsX2_removeRow_r2) ++ wsX20)
def wsX3_init : List Cond := .code yX3_init cX3_init 1 none :: ([.methodLink RX3 5 objectInit, .instanceMethod objectInit, .code objectInit ⟨#[0xb1]⟩ 1 none, .fieldLink RX3 11 "JournaledTables$Scan" "open" "Z", .fieldLink RX3 17 "JournaledTables$Scan" "isVoid" "Z", .fieldLink RX3 20 "JournaledTables$Scan" "table" "I", .fieldLink RX3 24 "JournaledTables$Scan" "col" "I", .fieldLink RX3 27 "JournaledTables$Scan" "lo" "I", .fieldLink RX3 30 "JournaledTables$Scan" "hi" "I", .constantLong RX3 33 (-2147483649), .fieldLink RX3 35 "JournaledTables$Scan" "passedKey" "J", .fieldLink RX3 39 "JournaledTables$Scan" "row" "I"] ++ wsX30)
def wsX3_isOpen : List Cond := .code yX3_isOpen cX3_isOpen 1 (some .boolean) :: ([.fieldLink RX3 11 "JournaledTables$Scan" "open" "Z"] ++ wsX30)
def wsX3_isVoid : List Cond := .code yX3_isVoid cX3_isVoid 1 (some .boolean) :: ([.fieldLink RX3 17 "JournaledTables$Scan" "isVoid" "Z"] ++ wsX30)
def wsX3_start : List Cond := .code yX3_start cX3_start 5 none :: ([.fieldLink RX3 11 "JournaledTables$Scan" "open" "Z", .fieldLink RX3 17 "JournaledTables$Scan" "isVoid" "Z", .fieldLink RX3 20 "JournaledTables$Scan" "table" "I", .fieldLink RX3 24 "JournaledTables$Scan" "col" "I", .fieldLink RX3 27 "JournaledTables$Scan" "lo" "I", .fieldLink RX3 30 "JournaledTables$Scan" "hi" "I", .constantLong RX3 33 (-2147483649), .fieldLink RX3 35 "JournaledTables$Scan" "passedKey" "J", .fieldLink RX3 39 "JournaledTables$Scan" "row" "I"] ++ wsX30)
def wsX3_end : List Cond := .code yX3_end cX3_end 1 none :: ([.fieldLink RX3 11 "JournaledTables$Scan" "open" "Z"] ++ wsX30)
def wsX3_tableChanged : List Cond := .code yX3_tableChanged cX3_tableChanged 2 none :: ([.fieldLink RX3 20 "JournaledTables$Scan" "table" "I", .fieldLink RX3 17 "JournaledTables$Scan" "isVoid" "Z"] ++ wsX30)
def wsX3_move_r1 : List Cond := [Cond.fieldLink RX3 20 "JournaledTables$Scan" "table" "I", Cond.fieldLink RX3 24 "JournaledTables$Scan" "col" "I", Cond.fieldLink RX3 27 "JournaledTables$Scan" "lo" "I", Cond.fieldLink RX3 30 "JournaledTables$Scan" "hi" "I", Cond.fieldLink RX3 35 "JournaledTables$Scan" "passedKey" "J", Cond.fieldLink RX3 39 "JournaledTables$Scan" "row" "I", Cond.methodLink RX3 42 yX2_leastRow, Cond.instanceMethod yX2_leastRow, Cond.selects RX2 yX2_leastRow yX2_leastRow, Cond.initialized RX2, Cond.code yX2_leastRow cX2_leastRow 14 (some .int), Cond.fieldLink RX2 9 "JournaledTables$Memory" "words" "[I", Cond.methodLink RX2 48 yX2_slots, Cond.instanceMethod yX2_slots, Cond.selects RX2 yX2_slots yX2_slots, Cond.code yX2_slots cX2_slots 3 (some .int), Cond.methodLink RX2 32 yX2_width, Cond.instanceMethod yX2_width, Cond.selects RX2 yX2_width yX2_width, Cond.code yX2_width cX2_width 2 (some .int), Cond.methodLink RX2 28 yX2_hasTable, Cond.instanceMethod yX2_hasTable, Cond.selects RX2 yX2_hasTable yX2_hasTable, Cond.code yX2_hasTable cX2_hasTable 2 (some .boolean)]
def wsX3_move_r2 : List Cond := [Cond.methodLink RX2 36 yX2_isPageOf, Cond.instanceMethod yX2_isPageOf, Cond.selects RX2 yX2_isPageOf yX2_isPageOf, Cond.code yX2_isPageOf cX2_isPageOf 3 (some .boolean), Cond.methodLink RX2 51 yX2_rowAt, Cond.instanceMethod yX2_rowAt, Cond.selects RX2 yX2_rowAt yX2_rowAt, Cond.code yX2_rowAt cX2_rowAt 4 (some .int), Cond.methodLink RX2 55 yX2_hasRow, Cond.instanceMethod yX2_hasRow, Cond.selects RX2 yX2_hasRow yX2_hasRow, Cond.code yX2_hasRow cX2_hasRow 3 (some .boolean), Cond.methodLink RX3 48 yX2_word, Cond.instanceMethod yX2_word, Cond.selects RX2 yX2_word yX2_word, Cond.code yX2_word cX2_word 2 (some .int)]
def wsX3_move : List Cond := .code yX3_move cX3_move 2 (some .boolean) :: ((wsX3_move_r1 ++ wsX3_move_r2) ++ wsX30 ++ wsX20)
def wsX3_wordAt : List Cond := .code yX3_wordAt cX3_wordAt 3 (some .int) :: ([.fieldLink RX3 39 "JournaledTables$Scan" "row" "I", .fieldLink RX3 20 "JournaledTables$Scan" "table" "I", .methodLink RX3 52 yX2_hasCol, .instanceMethod yX2_hasCol, .selects RX2 yX2_hasCol yX2_hasCol, .initialized RX2, .code yX2_hasCol cX2_hasCol 3 (some .boolean), .methodLink RX2 32 yX2_width, .instanceMethod yX2_width, .selects RX2 yX2_width yX2_width, .code yX2_width cX2_width 2 (some .int), .fieldLink RX2 9 "JournaledTables$Memory" "words" "[I", .methodLink RX2 28 yX2_hasTable, .instanceMethod yX2_hasTable, .selects RX2 yX2_hasTable yX2_hasTable, .code yX2_hasTable cX2_hasTable 2 (some .boolean), .methodLink RX3 48 yX2_word, .instanceMethod yX2_word, .selects RX2 yX2_word yX2_word, .code yX2_word cX2_word 2 (some .int)] ++ wsX30 ++ wsX20)
def wsX4_init_r1 : List Cond := [Cond.methodLink RX4 1 objectInit, Cond.instanceMethod objectInit, Cond.code objectInit ⟨#[0xb1]⟩ 1 none, Cond.classLink RX4 7 RX0, Cond.instantiable RX0 4, Cond.initialized RX0, Cond.fieldLink RX4 10 "JournaledTables" "disk" "LJournaledTables$Disk;", Cond.classLink RX4 16 RX2, Cond.instantiable RX2 1, Cond.initialized RX2, Cond.fieldLink RX4 19 "JournaledTables" "memory" "LJournaledTables$Memory;", Cond.classLink RX4 23 RX1, Cond.instantiable RX1 3, Cond.initialized RX1, Cond.fieldLink RX4 28 "JournaledTables" "journal" "LJournaledTables$Journal;", Cond.classLink RX4 32 RX3, Cond.fieldLink RX4 34 "JournaledTables" "scans" "[LJournaledTables$Scan;", Cond.instantiable RX3 8, Cond.initialized RX3, Cond.arrayClass .int, Cond.fieldLink RX4 39 "JournaledTables" "staged" "[I", Cond.fieldLink RX4 43 "JournaledTables" "inTransaction" "Z", Cond.instanceMethod yX0_init, Cond.code yX0_init cX0_init 1 none]
def wsX4_init_r2 : List Cond := [Cond.methodLink RX0 3 objectInit, Cond.fieldLink RX0 9 "JournaledTables$Disk" "words" "[I", Cond.fieldLink RX0 15 "JournaledTables$Disk" "powered" "Z", Cond.fieldLink RX0 19 "JournaledTables$Disk" "writesLeft" "I", Cond.fieldLink RX0 23 "JournaledTables$Disk" "writesDone" "I", Cond.instanceMethod yX2_init, Cond.code yX2_init cX2_init 1 none, Cond.methodLink RX2 3 objectInit, Cond.fieldLink RX2 9 "JournaledTables$Memory" "words" "[I", Cond.methodLink RX4 25 yX1_init, Cond.instanceMethod yX1_init, Cond.code yX1_init cX1_init 3 none, Cond.methodLink RX1 3 objectInit, Cond.fieldLink RX1 9 "JournaledTables$Journal" "head" "[I", Cond.fieldLink RX1 15 "JournaledTables$Journal" "disk" "LJournaledTables$Disk;", Cond.fieldLink RX1 19 "JournaledTables$Journal" "memory" "LJournaledTables$Memory;", Cond.instanceMethod yX3_init, Cond.code yX3_init cX3_init 1 none, Cond.methodLink RX3 5 objectInit, Cond.fieldLink RX3 11 "JournaledTables$Scan" "open" "Z", Cond.fieldLink RX3 17 "JournaledTables$Scan" "isVoid" "Z", Cond.fieldLink RX3 20 "JournaledTables$Scan" "table" "I", Cond.fieldLink RX3 24 "JournaledTables$Scan" "col" "I", Cond.fieldLink RX3 27 "JournaledTables$Scan" "lo" "I"]
def wsX4_init_r3 : List Cond := [Cond.fieldLink RX3 30 "JournaledTables$Scan" "hi" "I", Cond.constantLong RX3 33 (-2147483649), Cond.fieldLink RX3 35 "JournaledTables$Scan" "passedKey" "J", Cond.fieldLink RX3 39 "JournaledTables$Scan" "row" "I"]
def wsX4_init : List Cond := .code yX4_init cX4_init 2 none :: ((wsX4_init_r1 ++ (wsX4_init_r2 ++ wsX4_init_r3)) ++ wsX00 ++ wsX40 ++ wsX20 ++ wsX10 ++ wsX30)
def wsX4_startAnew : List Cond := .code yX4_startAnew cX4_startAnew 2 none :: ([.fieldLink RX4 19 "JournaledTables" "memory" "LJournaledTables$Memory;", .fieldLink RX4 10 "JournaledTables" "disk" "LJournaledTables$Disk;", .fieldLink RX4 43 "JournaledTables" "inTransaction" "Z", .fieldLink RX4 34 "JournaledTables" "scans" "[LJournaledTables$Scan;", .methodLink RX4 82 yX2_load, .instanceMethod yX2_load, .selects RX2 yX2_load yX2_load, .initialized RX2, .code yX2_load cX2_load 2 none, .fieldLink RX2 9 "JournaledTables$Memory" "words" "[I", .methodLink RX2 18 arraycopyName, .native arraycopyName, .static arraycopyName, .initialized "java/lang/System", .methodLink RX4 136 yX3_end, .instanceMethod yX3_end, .selects RX3 yX3_end yX3_end, .initialized RX3, .code yX3_end cX3_end 1 none, .fieldLink RX3 11 "JournaledTables$Scan" "open" "Z"] ++ wsX40 ++ wsX00 ++ wsX20 ++ wsX30)
def wsX4_format_r1 : List Cond := [Cond.fieldLink RX4 10 "JournaledTables" "disk" "LJournaledTables$Disk;", Cond.methodLink RX4 47 yX0_wipe, Cond.instanceMethod yX0_wipe, Cond.selects RX0 yX0_wipe yX0_wipe, Cond.initialized RX0, Cond.code yX0_wipe cX0_wipe 2 none, Cond.fieldLink RX0 9 "JournaledTables$Disk" "words" "[I", Cond.fieldLink RX0 15 "JournaledTables$Disk" "powered" "Z", Cond.fieldLink RX0 19 "JournaledTables$Disk" "writesLeft" "I", Cond.methodLink RX4 50 yX4_startAnew, Cond.instanceMethod yX4_startAnew, Cond.selects RX4 yX4_startAnew yX4_startAnew, Cond.initialized RX4, Cond.code yX4_startAnew cX4_startAnew 2 none, Cond.fieldLink RX4 19 "JournaledTables" "memory" "LJournaledTables$Memory;", Cond.fieldLink RX4 43 "JournaledTables" "inTransaction" "Z", Cond.fieldLink RX4 34 "JournaledTables" "scans" "[LJournaledTables$Scan;", Cond.methodLink RX4 82 yX2_load, Cond.instanceMethod yX2_load, Cond.selects RX2 yX2_load yX2_load, Cond.initialized RX2, Cond.code yX2_load cX2_load 2 none, Cond.fieldLink RX2 9 "JournaledTables$Memory" "words" "[I", Cond.methodLink RX2 18 arraycopyName]
def wsX4_format_r2 : List Cond := [Cond.native arraycopyName, Cond.static arraycopyName, Cond.initialized "java/lang/System", Cond.methodLink RX4 136 yX3_end, Cond.instanceMethod yX3_end, Cond.selects RX3 yX3_end yX3_end, Cond.initialized RX3, Cond.code yX3_end cX3_end 1 none, Cond.fieldLink RX3 11 "JournaledTables$Scan" "open" "Z"]
def wsX4_format : List Cond := .code yX4_format cX4_format 1 (some .int) :: ((wsX4_format_r1 ++ wsX4_format_r2) ++ wsX40 ++ wsX00 ++ wsX20 ++ wsX30)
def wsX4_createTable : List Cond := .code yX4_createTable cX4_createTable 3 (some .int) :: ([.fieldLink RX4 10 "JournaledTables" "disk" "LJournaledTables$Disk;", .fieldLink RX4 43 "JournaledTables" "inTransaction" "Z", .fieldLink RX4 19 "JournaledTables" "memory" "LJournaledTables$Memory;", .methodLink RX4 53 yX0_powered, .instanceMethod yX0_powered, .selects RX0 yX0_powered yX0_powered, .initialized RX0, .code yX0_powered cX0_powered 1 (some .boolean), .fieldLink RX0 15 "JournaledTables$Disk" "powered" "Z", .methodLink RX4 57 yX2_freeTable, .instanceMethod yX2_freeTable, .selects RX2 yX2_freeTable yX2_freeTable, .initialized RX2, .code yX2_freeTable cX2_freeTable 2 (some .int), .fieldLink RX2 9 "JournaledTables$Memory" "words" "[I", .methodLink RX4 61 yX2_addTable, .instanceMethod yX2_addTable, .selects RX2 yX2_addTable yX2_addTable, .code yX2_addTable cX2_addTable 3 none] ++ wsX40 ++ wsX00 ++ wsX20)
def wsX4_refusalOutsideTransaction : List Cond := .code yX4_refusalOutsideTransaction cX4_refusalOutsideTransaction 1 (some .int) :: ([.fieldLink RX4 10 "JournaledTables" "disk" "LJournaledTables$Disk;", .fieldLink RX4 43 "JournaledTables" "inTransaction" "Z", .methodLink RX4 53 yX0_powered, .instanceMethod yX0_powered, .selects RX0 yX0_powered yX0_powered, .initialized RX0, .code yX0_powered cX0_powered 1 (some .boolean), .fieldLink RX0 15 "JournaledTables$Disk" "powered" "Z"] ++ wsX40 ++ wsX00)
def wsX4_refusalOfChange : List Cond := .code yX4_refusalOfChange cX4_refusalOfChange 3 (some .int) :: ([.fieldLink RX4 19 "JournaledTables" "memory" "LJournaledTables$Memory;", .methodLink RX4 76 yX4_refusalOutsideTransaction, .instanceMethod yX4_refusalOutsideTransaction, .selects RX4 yX4_refusalOutsideTransaction yX4_refusalOutsideTransaction, .initialized RX4, .code yX4_refusalOutsideTransaction cX4_refusalOutsideTransaction 1 (some .int), .fieldLink RX4 10 "JournaledTables" "disk" "LJournaledTables$Disk;", .fieldLink RX4 43 "JournaledTables" "inTransaction" "Z", .methodLink RX4 53 yX0_powered, .instanceMethod yX0_powered, .selects RX0 yX0_powered yX0_powered, .initialized RX0, .code yX0_powered cX0_powered 1 (some .boolean), .fieldLink RX0 15 "JournaledTables$Disk" "powered" "Z", .methodLink RX4 110 yX2_hasTable, .instanceMethod yX2_hasTable, .selects RX2 yX2_hasTable yX2_hasTable, .initialized RX2, .code yX2_hasTable cX2_hasTable 2 (some .boolean), .fieldLink RX2 9 "JournaledTables$Memory" "words" "[I"] ++ wsX40 ++ wsX00 ++ wsX20)
def wsX4_voidScansOf : List Cond := .code yX4_voidScansOf cX4_voidScansOf 3 none :: ([.fieldLink RX4 34 "JournaledTables" "scans" "[LJournaledTables$Scan;", .methodLink RX4 153 yX3_tableChanged, .instanceMethod yX3_tableChanged, .selects RX3 yX3_tableChanged yX3_tableChanged, .initialized RX3, .code yX3_tableChanged cX3_tableChanged 2 none, .fieldLink RX3 20 "JournaledTables$Scan" "table" "I", .fieldLink RX3 17 "JournaledTables$Scan" "isVoid" "Z"] ++ wsX40 ++ wsX30)
def wsX4_dropTable_r1 : List Cond := [Cond.fieldLink RX4 19 "JournaledTables" "memory" "LJournaledTables$Memory;", Cond.methodLink RX4 65 yX4_refusalOfChange, Cond.instanceMethod yX4_refusalOfChange, Cond.selects RX4 yX4_refusalOfChange yX4_refusalOfChange, Cond.initialized RX4, Cond.code yX4_refusalOfChange cX4_refusalOfChange 3 (some .int), Cond.methodLink RX4 76 yX4_refusalOutsideTransaction, Cond.instanceMethod yX4_refusalOutsideTransaction, Cond.selects RX4 yX4_refusalOutsideTransaction yX4_refusalOutsideTransaction, Cond.code yX4_refusalOutsideTransaction cX4_refusalOutsideTransaction 1 (some .int), Cond.fieldLink RX4 10 "JournaledTables" "disk" "LJournaledTables$Disk;", Cond.fieldLink RX4 43 "JournaledTables" "inTransaction" "Z", Cond.methodLink RX4 53 yX0_powered, Cond.instanceMethod yX0_powered, Cond.selects RX0 yX0_powered yX0_powered, Cond.initialized RX0, Cond.code yX0_powered cX0_powered 1 (some .boolean), Cond.fieldLink RX0 15 "JournaledTables$Disk" "powered" "Z", Cond.methodLink RX4 110 yX2_hasTable, Cond.instanceMethod yX2_hasTable, Cond.selects RX2 yX2_hasTable yX2_hasTable, Cond.initialized RX2, Cond.code yX2_hasTable cX2_hasTable 2 (some .boolean), Cond.fieldLink RX2 9 "JournaledTables$Memory" "words" "[I"]
def wsX4_dropTable_r2 : List Cond := [Cond.methodLink RX4 69 yX2_removeTable, Cond.instanceMethod yX2_removeTable, Cond.selects RX2 yX2_removeTable yX2_removeTable, Cond.code yX2_removeTable cX2_removeTable 3 none, Cond.methodLink RX2 36 yX2_isPageOf, Cond.instanceMethod yX2_isPageOf, Cond.selects RX2 yX2_isPageOf yX2_isPageOf, Cond.code yX2_isPageOf cX2_isPageOf 3 (some .boolean), Cond.methodLink RX2 40 yX2_clear, Cond.instanceMethod yX2_clear, Cond.selects RX2 yX2_clear yX2_clear, Cond.code yX2_clear cX2_clear 4 none, Cond.methodLink RX4 73 yX4_voidScansOf, Cond.instanceMethod yX4_voidScansOf, Cond.selects RX4 yX4_voidScansOf yX4_voidScansOf, Cond.code yX4_voidScansOf cX4_voidScansOf 3 none, Cond.fieldLink RX4 34 "JournaledTables" "scans" "[LJournaledTables$Scan;", Cond.methodLink RX4 153 yX3_tableChanged, Cond.instanceMethod yX3_tableChanged, Cond.selects RX3 yX3_tableChanged yX3_tableChanged, Cond.initialized RX3, Cond.code yX3_tableChanged cX3_tableChanged 2 none, Cond.fieldLink RX3 20 "JournaledTables$Scan" "table" "I", Cond.fieldLink RX3 17 "JournaledTables$Scan" "isVoid" "Z"]
def wsX4_dropTable : List Cond := .code yX4_dropTable cX4_dropTable 3 (some .int) :: ((wsX4_dropTable_r1 ++ wsX4_dropTable_r2) ++ wsX40 ++ wsX00 ++ wsX20 ++ wsX30)
def wsX4_begin : List Cond := .code yX4_begin cX4_begin 1 (some .int) :: ([.fieldLink RX4 10 "JournaledTables" "disk" "LJournaledTables$Disk;", .fieldLink RX4 43 "JournaledTables" "inTransaction" "Z", .methodLink RX4 53 yX0_powered, .instanceMethod yX0_powered, .selects RX0 yX0_powered yX0_powered, .initialized RX0, .code yX0_powered cX0_powered 1 (some .boolean), .fieldLink RX0 15 "JournaledTables$Disk" "powered" "Z"] ++ wsX40 ++ wsX00)
def wsX4_commit_r1 : List Cond := [Cond.fieldLink RX4 28 "JournaledTables" "journal" "LJournaledTables$Journal;", Cond.fieldLink RX4 43 "JournaledTables" "inTransaction" "Z", Cond.methodLink RX4 76 yX4_refusalOutsideTransaction, Cond.instanceMethod yX4_refusalOutsideTransaction, Cond.selects RX4 yX4_refusalOutsideTransaction yX4_refusalOutsideTransaction, Cond.initialized RX4, Cond.code yX4_refusalOutsideTransaction cX4_refusalOutsideTransaction 1 (some .int), Cond.fieldLink RX4 10 "JournaledTables" "disk" "LJournaledTables$Disk;", Cond.methodLink RX4 53 yX0_powered, Cond.instanceMethod yX0_powered, Cond.selects RX0 yX0_powered yX0_powered, Cond.initialized RX0, Cond.code yX0_powered cX0_powered 1 (some .boolean), Cond.fieldLink RX0 15 "JournaledTables$Disk" "powered" "Z", Cond.methodLink RX4 79 yX1_carryOut, Cond.instanceMethod yX1_carryOut, Cond.selects RX1 yX1_carryOut yX1_carryOut, Cond.initialized RX1, Cond.code yX1_carryOut cX1_carryOut 2 (some .boolean), Cond.methodLink RX1 23 yX1_changedBlocks, Cond.instanceMethod yX1_changedBlocks, Cond.selects RX1 yX1_changedBlocks yX1_changedBlocks, Cond.code yX1_changedBlocks cX1_changedBlocks 3 (some .int), Cond.fieldLink RX1 19 "JournaledTables$Journal" "memory" "LJournaledTables$Memory;"]
def wsX4_commit_r2 : List Cond := [Cond.fieldLink RX1 15 "JournaledTables$Journal" "disk" "LJournaledTables$Disk;", Cond.methodLink RX1 47 yX2_differs, Cond.instanceMethod yX2_differs, Cond.selects RX2 yX2_differs yX2_differs, Cond.initialized RX2, Cond.code yX2_differs cX2_differs 5 (some .boolean), Cond.fieldLink RX2 9 "JournaledTables$Memory" "words" "[I", Cond.methodLink RX1 27 yX1_keepImages, Cond.instanceMethod yX1_keepImages, Cond.selects RX1 yX1_keepImages yX1_keepImages, Cond.code yX1_keepImages cX1_keepImages 3 (some .boolean), Cond.methodLink RX1 53 yX1_contains, Cond.static yX1_contains, Cond.code yX1_contains cX1_contains 2 (some .boolean), Cond.methodLink RX1 57 yX1_imageOf, Cond.static yX1_imageOf, Cond.code yX1_imageOf cX1_imageOf 2 (some .int), Cond.methodLink RX1 66 yJ6_bitCount_0f7a4, Cond.static yJ6_bitCount_0f7a4, Cond.initialized RJ6, Cond.code yJ6_bitCount_0f7a4 cJ6_bitCount_0f7a4 1 (some .int), Cond.constant RJ6 265 (1431655765), Cond.constant RJ6 266 (858993459), Cond.constant RJ6 267 (252645135)]
def wsX4_commit_r3 : List Cond := [Cond.methodLink RX1 61 yX0_copyBlock, Cond.instanceMethod yX0_copyBlock, Cond.selects RX0 yX0_copyBlock yX0_copyBlock, Cond.code yX0_copyBlock cX0_copyBlock 3 (some .boolean), Cond.fieldLink RX0 9 "JournaledTables$Disk" "words" "[I", Cond.methodLink RX0 32 yX0_write, Cond.instanceMethod yX0_write, Cond.selects RX0 yX0_write yX0_write, Cond.code yX0_write cX0_write 4 (some .boolean), Cond.fieldLink RX0 19 "JournaledTables$Disk" "writesLeft" "I", Cond.methodLink RX0 26 arraycopyName, Cond.native arraycopyName, Cond.static arraycopyName, Cond.initialized "java/lang/System", Cond.fieldLink RX0 23 "JournaledTables$Disk" "writesDone" "I", Cond.methodLink RX1 31 yX1_writeHead, Cond.instanceMethod yX1_writeHead, Cond.selects RX1 yX1_writeHead yX1_writeHead, Cond.code yX1_writeHead cX1_writeHead 3 (some .boolean), Cond.fieldLink RX1 9 "JournaledTables$Journal" "head" "[I", Cond.methodLink RX1 72 yX1_checkOfImages, Cond.instanceMethod yX1_checkOfImages, Cond.selects RX1 yX1_checkOfImages yX1_checkOfImages, Cond.code yX1_checkOfImages cX1_checkOfImages 5 (some .int)]
def wsX4_commit_r4 : List Cond := [Cond.methodLink RX1 82 yX0_word, Cond.instanceMethod yX0_word, Cond.selects RX0 yX0_word yX0_word, Cond.code yX0_word cX0_word 3 (some .int), Cond.methodLink RX1 75 yX0_write, Cond.methodLink RX1 34 yX1_saveBlocks, Cond.instanceMethod yX1_saveBlocks, Cond.selects RX1 yX1_saveBlocks yX1_saveBlocks, Cond.code yX1_saveBlocks cX1_saveBlocks 3 (some .boolean), Cond.methodLink RX1 79 yX2_save, Cond.instanceMethod yX2_save, Cond.selects RX2 yX2_save yX2_save, Cond.code yX2_save cX2_save 3 (some .boolean), Cond.methodLink RX2 24 yX0_write, Cond.methodLink RX1 37 yX1_clearHead, Cond.instanceMethod yX1_clearHead, Cond.selects RX1 yX1_clearHead yX1_clearHead, Cond.code yX1_clearHead cX1_clearHead 2 (some .boolean)]
def wsX4_commit : List Cond := .code yX4_commit cX4_commit 2 (some .int) :: ((wsX4_commit_r1 ++ (wsX4_commit_r2 ++ (wsX4_commit_r3 ++ wsX4_commit_r4))) ++ wsX40 ++ wsX00 ++ wsX10 ++ wsX20)
def wsX4_rollback_r1 : List Cond := [Cond.fieldLink RX4 19 "JournaledTables" "memory" "LJournaledTables$Memory;", Cond.fieldLink RX4 10 "JournaledTables" "disk" "LJournaledTables$Disk;", Cond.fieldLink RX4 43 "JournaledTables" "inTransaction" "Z", Cond.methodLink RX4 76 yX4_refusalOutsideTransaction, Cond.instanceMethod yX4_refusalOutsideTransaction, Cond.selects RX4 yX4_refusalOutsideTransaction yX4_refusalOutsideTransaction, Cond.initialized RX4, Cond.code yX4_refusalOutsideTransaction cX4_refusalOutsideTransaction 1 (some .int), Cond.methodLink RX4 53 yX0_powered, Cond.instanceMethod yX0_powered, Cond.selects RX0 yX0_powered yX0_powered, Cond.initialized RX0, Cond.code yX0_powered cX0_powered 1 (some .boolean), Cond.fieldLink RX0 15 "JournaledTables$Disk" "powered" "Z", Cond.methodLink RX4 82 yX2_load, Cond.instanceMethod yX2_load, Cond.selects RX2 yX2_load yX2_load, Cond.initialized RX2, Cond.code yX2_load cX2_load 2 none, Cond.fieldLink RX2 9 "JournaledTables$Memory" "words" "[I", Cond.methodLink RX2 18 arraycopyName, Cond.native arraycopyName, Cond.static arraycopyName, Cond.initialized "java/lang/System"]
def wsX4_rollback_r2 : List Cond := [Cond.methodLink RX4 73 yX4_voidScansOf, Cond.instanceMethod yX4_voidScansOf, Cond.selects RX4 yX4_voidScansOf yX4_voidScansOf, Cond.code yX4_voidScansOf cX4_voidScansOf 3 none, Cond.fieldLink RX4 34 "JournaledTables" "scans" "[LJournaledTables$Scan;", Cond.methodLink RX4 153 yX3_tableChanged, Cond.instanceMethod yX3_tableChanged, Cond.selects RX3 yX3_tableChanged yX3_tableChanged, Cond.initialized RX3, Cond.code yX3_tableChanged cX3_tableChanged 2 none, Cond.fieldLink RX3 20 "JournaledTables$Scan" "table" "I", Cond.fieldLink RX3 17 "JournaledTables$Scan" "isVoid" "Z"]
def wsX4_rollback : List Cond := .code yX4_rollback cX4_rollback 3 (some .int) :: ((wsX4_rollback_r1 ++ wsX4_rollback_r2) ++ wsX40 ++ wsX00 ++ wsX20 ++ wsX30)
def wsX4_stage : List Cond := .code yX4_stage cX4_stage 3 (some .int) :: ([.fieldLink RX4 10 "JournaledTables" "disk" "LJournaledTables$Disk;", .fieldLink RX4 39 "JournaledTables" "staged" "[I", .methodLink RX4 53 yX0_powered, .instanceMethod yX0_powered, .selects RX0 yX0_powered yX0_powered, .initialized RX0, .code yX0_powered cX0_powered 1 (some .boolean), .fieldLink RX0 15 "JournaledTables$Disk" "powered" "Z"] ++ wsX40 ++ wsX00)
def wsX4_insert_r1 : List Cond := [Cond.fieldLink RX4 19 "JournaledTables" "memory" "LJournaledTables$Memory;", Cond.fieldLink RX4 39 "JournaledTables" "staged" "[I", Cond.methodLink RX4 65 yX4_refusalOfChange, Cond.instanceMethod yX4_refusalOfChange, Cond.selects RX4 yX4_refusalOfChange yX4_refusalOfChange, Cond.initialized RX4, Cond.code yX4_refusalOfChange cX4_refusalOfChange 3 (some .int), Cond.methodLink RX4 76 yX4_refusalOutsideTransaction, Cond.instanceMethod yX4_refusalOutsideTransaction, Cond.selects RX4 yX4_refusalOutsideTransaction yX4_refusalOutsideTransaction, Cond.code yX4_refusalOutsideTransaction cX4_refusalOutsideTransaction 1 (some .int), Cond.fieldLink RX4 10 "JournaledTables" "disk" "LJournaledTables$Disk;", Cond.fieldLink RX4 43 "JournaledTables" "inTransaction" "Z", Cond.methodLink RX4 53 yX0_powered, Cond.instanceMethod yX0_powered, Cond.selects RX0 yX0_powered yX0_powered, Cond.initialized RX0, Cond.code yX0_powered cX0_powered 1 (some .boolean), Cond.fieldLink RX0 15 "JournaledTables$Disk" "powered" "Z", Cond.methodLink RX4 110 yX2_hasTable, Cond.instanceMethod yX2_hasTable, Cond.selects RX2 yX2_hasTable yX2_hasTable, Cond.initialized RX2, Cond.code yX2_hasTable cX2_hasTable 2 (some .boolean)]
def wsX4_insert_r2 : List Cond := [Cond.fieldLink RX2 9 "JournaledTables$Memory" "words" "[I", Cond.methodLink RX4 86 yX2_rowOf, Cond.instanceMethod yX2_rowOf, Cond.selects RX2 yX2_rowOf yX2_rowOf, Cond.code yX2_rowOf cX2_rowOf 3 (some .int), Cond.methodLink RX2 44 yX2_leastRow, Cond.instanceMethod yX2_leastRow, Cond.selects RX2 yX2_leastRow yX2_leastRow, Cond.code yX2_leastRow cX2_leastRow 14 (some .int), Cond.methodLink RX2 48 yX2_slots, Cond.instanceMethod yX2_slots, Cond.selects RX2 yX2_slots yX2_slots, Cond.code yX2_slots cX2_slots 3 (some .int), Cond.methodLink RX2 32 yX2_width, Cond.instanceMethod yX2_width, Cond.selects RX2 yX2_width yX2_width, Cond.code yX2_width cX2_width 2 (some .int), Cond.methodLink RX2 28 yX2_hasTable, Cond.methodLink RX2 36 yX2_isPageOf, Cond.instanceMethod yX2_isPageOf, Cond.selects RX2 yX2_isPageOf yX2_isPageOf, Cond.code yX2_isPageOf cX2_isPageOf 3 (some .boolean), Cond.methodLink RX2 51 yX2_rowAt, Cond.instanceMethod yX2_rowAt]
def wsX4_insert_r3 : List Cond := [Cond.selects RX2 yX2_rowAt yX2_rowAt, Cond.code yX2_rowAt cX2_rowAt 4 (some .int), Cond.methodLink RX2 55 yX2_hasRow, Cond.instanceMethod yX2_hasRow, Cond.selects RX2 yX2_hasRow yX2_hasRow, Cond.code yX2_hasRow cX2_hasRow 3 (some .boolean), Cond.methodLink RX4 90 yX2_addRow, Cond.instanceMethod yX2_addRow, Cond.selects RX2 yX2_addRow yX2_addRow, Cond.code yX2_addRow cX2_addRow 4 (some .boolean), Cond.methodLink RX2 63 yX2_pageWithRoom, Cond.instanceMethod yX2_pageWithRoom, Cond.selects RX2 yX2_pageWithRoom yX2_pageWithRoom, Cond.code yX2_pageWithRoom cX2_pageWithRoom 4 (some .int), Cond.methodLink RX2 66 yX2_freeSlot, Cond.instanceMethod yX2_freeSlot, Cond.selects RX2 yX2_freeSlot yX2_freeSlot, Cond.code yX2_freeSlot cX2_freeSlot 4 (some .int), Cond.methodLink RX2 70 yX2_putRow, Cond.instanceMethod yX2_putRow, Cond.selects RX2 yX2_putRow yX2_putRow, Cond.code yX2_putRow cX2_putRow 5 none, Cond.methodLink RX2 18 arraycopyName, Cond.native arraycopyName]
def wsX4_insert_r4 : List Cond := [Cond.static arraycopyName, Cond.initialized "java/lang/System", Cond.methodLink RX2 74 yX2_freePage, Cond.instanceMethod yX2_freePage, Cond.selects RX2 yX2_freePage yX2_freePage, Cond.code yX2_freePage cX2_freePage 2 (some .int), Cond.methodLink RX2 78 yX2_linkTo, Cond.instanceMethod yX2_linkTo, Cond.selects RX2 yX2_linkTo yX2_linkTo, Cond.code yX2_linkTo cX2_linkTo 5 (some .int), Cond.methodLink RX4 73 yX4_voidScansOf, Cond.instanceMethod yX4_voidScansOf, Cond.selects RX4 yX4_voidScansOf yX4_voidScansOf, Cond.code yX4_voidScansOf cX4_voidScansOf 3 none, Cond.fieldLink RX4 34 "JournaledTables" "scans" "[LJournaledTables$Scan;", Cond.methodLink RX4 153 yX3_tableChanged, Cond.instanceMethod yX3_tableChanged, Cond.selects RX3 yX3_tableChanged yX3_tableChanged, Cond.initialized RX3, Cond.code yX3_tableChanged cX3_tableChanged 2 none, Cond.fieldLink RX3 20 "JournaledTables$Scan" "table" "I", Cond.fieldLink RX3 17 "JournaledTables$Scan" "isVoid" "Z"]
def wsX4_insert : List Cond := .code yX4_insert cX4_insert 3 (some .int) :: ((wsX4_insert_r1 ++ (wsX4_insert_r2 ++ (wsX4_insert_r3 ++ wsX4_insert_r4))) ++ wsX40 ++ wsX00 ++ wsX20 ++ wsX30)
def wsX4_deleteKey_r1 : List Cond := [Cond.fieldLink RX4 19 "JournaledTables" "memory" "LJournaledTables$Memory;", Cond.methodLink RX4 65 yX4_refusalOfChange, Cond.instanceMethod yX4_refusalOfChange, Cond.selects RX4 yX4_refusalOfChange yX4_refusalOfChange, Cond.initialized RX4, Cond.code yX4_refusalOfChange cX4_refusalOfChange 3 (some .int), Cond.methodLink RX4 76 yX4_refusalOutsideTransaction, Cond.instanceMethod yX4_refusalOutsideTransaction, Cond.selects RX4 yX4_refusalOutsideTransaction yX4_refusalOutsideTransaction, Cond.code yX4_refusalOutsideTransaction cX4_refusalOutsideTransaction 1 (some .int), Cond.fieldLink RX4 10 "JournaledTables" "disk" "LJournaledTables$Disk;", Cond.fieldLink RX4 43 "JournaledTables" "inTransaction" "Z", Cond.methodLink RX4 53 yX0_powered, Cond.instanceMethod yX0_powered, Cond.selects RX0 yX0_powered yX0_powered, Cond.initialized RX0, Cond.code yX0_powered cX0_powered 1 (some .boolean), Cond.fieldLink RX0 15 "JournaledTables$Disk" "powered" "Z", Cond.methodLink RX4 110 yX2_hasTable, Cond.instanceMethod yX2_hasTable, Cond.selects RX2 yX2_hasTable yX2_hasTable, Cond.initialized RX2, Cond.code yX2_hasTable cX2_hasTable 2 (some .boolean), Cond.fieldLink RX2 9 "JournaledTables$Memory" "words" "[I"]
def wsX4_deleteKey_r2 : List Cond := [Cond.methodLink RX4 86 yX2_rowOf, Cond.instanceMethod yX2_rowOf, Cond.selects RX2 yX2_rowOf yX2_rowOf, Cond.code yX2_rowOf cX2_rowOf 3 (some .int), Cond.methodLink RX2 44 yX2_leastRow, Cond.instanceMethod yX2_leastRow, Cond.selects RX2 yX2_leastRow yX2_leastRow, Cond.code yX2_leastRow cX2_leastRow 14 (some .int), Cond.methodLink RX2 48 yX2_slots, Cond.instanceMethod yX2_slots, Cond.selects RX2 yX2_slots yX2_slots, Cond.code yX2_slots cX2_slots 3 (some .int), Cond.methodLink RX2 32 yX2_width, Cond.instanceMethod yX2_width, Cond.selects RX2 yX2_width yX2_width, Cond.code yX2_width cX2_width 2 (some .int), Cond.methodLink RX2 28 yX2_hasTable, Cond.methodLink RX2 36 yX2_isPageOf, Cond.instanceMethod yX2_isPageOf, Cond.selects RX2 yX2_isPageOf yX2_isPageOf, Cond.code yX2_isPageOf cX2_isPageOf 3 (some .boolean), Cond.methodLink RX2 51 yX2_rowAt, Cond.instanceMethod yX2_rowAt, Cond.selects RX2 yX2_rowAt yX2_rowAt]
def wsX4_deleteKey_r3 : List Cond := [Cond.code yX2_rowAt cX2_rowAt 4 (some .int), Cond.methodLink RX2 55 yX2_hasRow, Cond.instanceMethod yX2_hasRow, Cond.selects RX2 yX2_hasRow yX2_hasRow, Cond.code yX2_hasRow cX2_hasRow 3 (some .boolean), Cond.methodLink RX4 94 yX2_removeRow, Cond.instanceMethod yX2_removeRow, Cond.selects RX2 yX2_removeRow yX2_removeRow, Cond.code yX2_removeRow cX2_removeRow 6 none, Cond.methodLink RX2 40 yX2_clear, Cond.instanceMethod yX2_clear, Cond.selects RX2 yX2_clear yX2_clear, Cond.code yX2_clear cX2_clear 4 none, Cond.methodLink RX2 78 yX2_linkTo, Cond.instanceMethod yX2_linkTo, Cond.selects RX2 yX2_linkTo yX2_linkTo, Cond.code yX2_linkTo cX2_linkTo 5 (some .int), Cond.methodLink RX4 73 yX4_voidScansOf, Cond.instanceMethod yX4_voidScansOf, Cond.selects RX4 yX4_voidScansOf yX4_voidScansOf, Cond.code yX4_voidScansOf cX4_voidScansOf 3 none, Cond.fieldLink RX4 34 "JournaledTables" "scans" "[LJournaledTables$Scan;", Cond.methodLink RX4 153 yX3_tableChanged, Cond.instanceMethod yX3_tableChanged]
def wsX4_deleteKey_r4 : List Cond := [Cond.selects RX3 yX3_tableChanged yX3_tableChanged, Cond.initialized RX3, Cond.code yX3_tableChanged cX3_tableChanged 2 none, Cond.fieldLink RX3 20 "JournaledTables$Scan" "table" "I", Cond.fieldLink RX3 17 "JournaledTables$Scan" "isVoid" "Z"]
def wsX4_deleteKey : List Cond := .code yX4_deleteKey cX4_deleteKey 5 (some .int) :: ((wsX4_deleteKey_r1 ++ (wsX4_deleteKey_r2 ++ (wsX4_deleteKey_r3 ++ wsX4_deleteKey_r4))) ++ wsX40 ++ wsX00 ++ wsX20 ++ wsX30)
def wsX4_updateCol_r1 : List Cond := [Cond.fieldLink RX4 19 "JournaledTables" "memory" "LJournaledTables$Memory;", Cond.methodLink RX4 65 yX4_refusalOfChange, Cond.instanceMethod yX4_refusalOfChange, Cond.selects RX4 yX4_refusalOfChange yX4_refusalOfChange, Cond.initialized RX4, Cond.code yX4_refusalOfChange cX4_refusalOfChange 3 (some .int), Cond.methodLink RX4 76 yX4_refusalOutsideTransaction, Cond.instanceMethod yX4_refusalOutsideTransaction, Cond.selects RX4 yX4_refusalOutsideTransaction yX4_refusalOutsideTransaction, Cond.code yX4_refusalOutsideTransaction cX4_refusalOutsideTransaction 1 (some .int), Cond.fieldLink RX4 10 "JournaledTables" "disk" "LJournaledTables$Disk;", Cond.fieldLink RX4 43 "JournaledTables" "inTransaction" "Z", Cond.methodLink RX4 53 yX0_powered, Cond.instanceMethod yX0_powered, Cond.selects RX0 yX0_powered yX0_powered, Cond.initialized RX0, Cond.code yX0_powered cX0_powered 1 (some .boolean), Cond.fieldLink RX0 15 "JournaledTables$Disk" "powered" "Z", Cond.methodLink RX4 110 yX2_hasTable, Cond.instanceMethod yX2_hasTable, Cond.selects RX2 yX2_hasTable yX2_hasTable, Cond.initialized RX2, Cond.code yX2_hasTable cX2_hasTable 2 (some .boolean), Cond.fieldLink RX2 9 "JournaledTables$Memory" "words" "[I"]
def wsX4_updateCol_r2 : List Cond := [Cond.methodLink RX4 97 yX2_width, Cond.instanceMethod yX2_width, Cond.selects RX2 yX2_width yX2_width, Cond.code yX2_width cX2_width 2 (some .int), Cond.methodLink RX2 28 yX2_hasTable, Cond.methodLink RX4 86 yX2_rowOf, Cond.instanceMethod yX2_rowOf, Cond.selects RX2 yX2_rowOf yX2_rowOf, Cond.code yX2_rowOf cX2_rowOf 3 (some .int), Cond.methodLink RX2 44 yX2_leastRow, Cond.instanceMethod yX2_leastRow, Cond.selects RX2 yX2_leastRow yX2_leastRow, Cond.code yX2_leastRow cX2_leastRow 14 (some .int), Cond.methodLink RX2 48 yX2_slots, Cond.instanceMethod yX2_slots, Cond.selects RX2 yX2_slots yX2_slots, Cond.code yX2_slots cX2_slots 3 (some .int), Cond.methodLink RX2 32 yX2_width, Cond.methodLink RX2 36 yX2_isPageOf, Cond.instanceMethod yX2_isPageOf, Cond.selects RX2 yX2_isPageOf yX2_isPageOf, Cond.code yX2_isPageOf cX2_isPageOf 3 (some .boolean), Cond.methodLink RX2 51 yX2_rowAt, Cond.instanceMethod yX2_rowAt]
def wsX4_updateCol_r3 : List Cond := [Cond.selects RX2 yX2_rowAt yX2_rowAt, Cond.code yX2_rowAt cX2_rowAt 4 (some .int), Cond.methodLink RX2 55 yX2_hasRow, Cond.instanceMethod yX2_hasRow, Cond.selects RX2 yX2_hasRow yX2_hasRow, Cond.code yX2_hasRow cX2_hasRow 3 (some .boolean), Cond.methodLink RX4 100 yX2_setWord, Cond.instanceMethod yX2_setWord, Cond.selects RX2 yX2_setWord yX2_setWord, Cond.code yX2_setWord cX2_setWord 3 none, Cond.methodLink RX4 73 yX4_voidScansOf, Cond.instanceMethod yX4_voidScansOf, Cond.selects RX4 yX4_voidScansOf yX4_voidScansOf, Cond.code yX4_voidScansOf cX4_voidScansOf 3 none, Cond.fieldLink RX4 34 "JournaledTables" "scans" "[LJournaledTables$Scan;", Cond.methodLink RX4 153 yX3_tableChanged, Cond.instanceMethod yX3_tableChanged, Cond.selects RX3 yX3_tableChanged yX3_tableChanged, Cond.initialized RX3, Cond.code yX3_tableChanged cX3_tableChanged 2 none, Cond.fieldLink RX3 20 "JournaledTables$Scan" "table" "I", Cond.fieldLink RX3 17 "JournaledTables$Scan" "isVoid" "Z"]
def wsX4_updateCol : List Cond := .code yX4_updateCol cX4_updateCol 7 (some .int) :: ((wsX4_updateCol_r1 ++ (wsX4_updateCol_r2 ++ wsX4_updateCol_r3)) ++ wsX40 ++ wsX00 ++ wsX20 ++ wsX30)
def wsX4_lookup_r1 : List Cond := [Cond.fieldLink RX4 10 "JournaledTables" "disk" "LJournaledTables$Disk;", Cond.fieldLink RX4 19 "JournaledTables" "memory" "LJournaledTables$Memory;", Cond.methodLink RX4 53 yX0_powered, Cond.instanceMethod yX0_powered, Cond.selects RX0 yX0_powered yX0_powered, Cond.initialized RX0, Cond.code yX0_powered cX0_powered 1 (some .boolean), Cond.fieldLink RX0 15 "JournaledTables$Disk" "powered" "Z", Cond.methodLink RX4 103 yX2_hasCol, Cond.instanceMethod yX2_hasCol, Cond.selects RX2 yX2_hasCol yX2_hasCol, Cond.initialized RX2, Cond.code yX2_hasCol cX2_hasCol 3 (some .boolean), Cond.methodLink RX2 32 yX2_width, Cond.instanceMethod yX2_width, Cond.selects RX2 yX2_width yX2_width, Cond.code yX2_width cX2_width 2 (some .int), Cond.fieldLink RX2 9 "JournaledTables$Memory" "words" "[I", Cond.methodLink RX2 28 yX2_hasTable, Cond.instanceMethod yX2_hasTable, Cond.selects RX2 yX2_hasTable yX2_hasTable, Cond.code yX2_hasTable cX2_hasTable 2 (some .boolean), Cond.methodLink RX4 86 yX2_rowOf, Cond.instanceMethod yX2_rowOf]
def wsX4_lookup_r2 : List Cond := [Cond.selects RX2 yX2_rowOf yX2_rowOf, Cond.code yX2_rowOf cX2_rowOf 3 (some .int), Cond.methodLink RX2 44 yX2_leastRow, Cond.instanceMethod yX2_leastRow, Cond.selects RX2 yX2_leastRow yX2_leastRow, Cond.code yX2_leastRow cX2_leastRow 14 (some .int), Cond.methodLink RX2 48 yX2_slots, Cond.instanceMethod yX2_slots, Cond.selects RX2 yX2_slots yX2_slots, Cond.code yX2_slots cX2_slots 3 (some .int), Cond.methodLink RX2 36 yX2_isPageOf, Cond.instanceMethod yX2_isPageOf, Cond.selects RX2 yX2_isPageOf yX2_isPageOf, Cond.code yX2_isPageOf cX2_isPageOf 3 (some .boolean), Cond.methodLink RX2 51 yX2_rowAt, Cond.instanceMethod yX2_rowAt, Cond.selects RX2 yX2_rowAt yX2_rowAt, Cond.code yX2_rowAt cX2_rowAt 4 (some .int), Cond.methodLink RX2 55 yX2_hasRow, Cond.instanceMethod yX2_hasRow, Cond.selects RX2 yX2_hasRow yX2_hasRow, Cond.code yX2_hasRow cX2_hasRow 3 (some .boolean), Cond.methodLink RX4 107 yX2_word, Cond.instanceMethod yX2_word]
def wsX4_lookup_r3 : List Cond := [Cond.selects RX2 yX2_word yX2_word, Cond.code yX2_word cX2_word 2 (some .int)]
def wsX4_lookup : List Cond := .code yX4_lookup cX4_lookup 5 (some .int) :: ((wsX4_lookup_r1 ++ (wsX4_lookup_r2 ++ wsX4_lookup_r3)) ++ wsX40 ++ wsX00 ++ wsX20)
def wsX4_has_r1 : List Cond := [Cond.fieldLink RX4 10 "JournaledTables" "disk" "LJournaledTables$Disk;", Cond.fieldLink RX4 19 "JournaledTables" "memory" "LJournaledTables$Memory;", Cond.methodLink RX4 53 yX0_powered, Cond.instanceMethod yX0_powered, Cond.selects RX0 yX0_powered yX0_powered, Cond.initialized RX0, Cond.code yX0_powered cX0_powered 1 (some .boolean), Cond.fieldLink RX0 15 "JournaledTables$Disk" "powered" "Z", Cond.methodLink RX4 110 yX2_hasTable, Cond.instanceMethod yX2_hasTable, Cond.selects RX2 yX2_hasTable yX2_hasTable, Cond.initialized RX2, Cond.code yX2_hasTable cX2_hasTable 2 (some .boolean), Cond.fieldLink RX2 9 "JournaledTables$Memory" "words" "[I", Cond.methodLink RX4 86 yX2_rowOf, Cond.instanceMethod yX2_rowOf, Cond.selects RX2 yX2_rowOf yX2_rowOf, Cond.code yX2_rowOf cX2_rowOf 3 (some .int), Cond.methodLink RX2 44 yX2_leastRow, Cond.instanceMethod yX2_leastRow, Cond.selects RX2 yX2_leastRow yX2_leastRow, Cond.code yX2_leastRow cX2_leastRow 14 (some .int), Cond.methodLink RX2 48 yX2_slots, Cond.instanceMethod yX2_slots]
def wsX4_has_r2 : List Cond := [Cond.selects RX2 yX2_slots yX2_slots, Cond.code yX2_slots cX2_slots 3 (some .int), Cond.methodLink RX2 32 yX2_width, Cond.instanceMethod yX2_width, Cond.selects RX2 yX2_width yX2_width, Cond.code yX2_width cX2_width 2 (some .int), Cond.methodLink RX2 28 yX2_hasTable, Cond.methodLink RX2 36 yX2_isPageOf, Cond.instanceMethod yX2_isPageOf, Cond.selects RX2 yX2_isPageOf yX2_isPageOf, Cond.code yX2_isPageOf cX2_isPageOf 3 (some .boolean), Cond.methodLink RX2 51 yX2_rowAt, Cond.instanceMethod yX2_rowAt, Cond.selects RX2 yX2_rowAt yX2_rowAt, Cond.code yX2_rowAt cX2_rowAt 4 (some .int), Cond.methodLink RX2 55 yX2_hasRow, Cond.instanceMethod yX2_hasRow, Cond.selects RX2 yX2_hasRow yX2_hasRow, Cond.code yX2_hasRow cX2_hasRow 3 (some .boolean)]
def wsX4_has : List Cond := .code yX4_has cX4_has 3 (some .boolean) :: ((wsX4_has_r1 ++ wsX4_has_r2) ++ wsX40 ++ wsX00 ++ wsX20)
def wsX4_count_r1 : List Cond := [Cond.fieldLink RX4 10 "JournaledTables" "disk" "LJournaledTables$Disk;", Cond.fieldLink RX4 19 "JournaledTables" "memory" "LJournaledTables$Memory;", Cond.methodLink RX4 53 yX0_powered, Cond.instanceMethod yX0_powered, Cond.selects RX0 yX0_powered yX0_powered, Cond.initialized RX0, Cond.code yX0_powered cX0_powered 1 (some .boolean), Cond.fieldLink RX0 15 "JournaledTables$Disk" "powered" "Z", Cond.methodLink RX4 110 yX2_hasTable, Cond.instanceMethod yX2_hasTable, Cond.selects RX2 yX2_hasTable yX2_hasTable, Cond.initialized RX2, Cond.code yX2_hasTable cX2_hasTable 2 (some .boolean), Cond.fieldLink RX2 9 "JournaledTables$Memory" "words" "[I", Cond.methodLink RX4 114 yX2_rowsOf, Cond.instanceMethod yX2_rowsOf, Cond.selects RX2 yX2_rowsOf yX2_rowsOf, Cond.code yX2_rowsOf cX2_rowsOf 4 (some .int), Cond.methodLink RX2 36 yX2_isPageOf, Cond.instanceMethod yX2_isPageOf, Cond.selects RX2 yX2_isPageOf yX2_isPageOf, Cond.code yX2_isPageOf cX2_isPageOf 3 (some .boolean), Cond.methodLink RX2 58 yJ6_bitCount_0f7a4, Cond.static yJ6_bitCount_0f7a4]
def wsX4_count_r2 : List Cond := [Cond.initialized RJ6, Cond.code yJ6_bitCount_0f7a4 cJ6_bitCount_0f7a4 1 (some .int), Cond.constant RJ6 265 (1431655765), Cond.constant RJ6 266 (858993459), Cond.constant RJ6 267 (252645135)]
def wsX4_count : List Cond := .code yX4_count cX4_count 2 (some .int) :: ((wsX4_count_r1 ++ wsX4_count_r2) ++ wsX40 ++ wsX00 ++ wsX20)
def wsX4_scanOf : List Cond := .code yX4_scanOf cX4_scanOf 2 (some (.object "JournaledTables$Scan")) :: ([.fieldLink RX4 34 "JournaledTables" "scans" "[LJournaledTables$Scan;", .methodLink RX4 156 yX3_isOpen, .instanceMethod yX3_isOpen, .selects RX3 yX3_isOpen yX3_isOpen, .initialized RX3, .code yX3_isOpen cX3_isOpen 1 (some .boolean), .fieldLink RX3 11 "JournaledTables$Scan" "open" "Z"] ++ wsX40 ++ wsX30)
def wsX4_openScan_r1 : List Cond := [Cond.fieldLink RX4 10 "JournaledTables" "disk" "LJournaledTables$Disk;", Cond.fieldLink RX4 19 "JournaledTables" "memory" "LJournaledTables$Memory;", Cond.fieldLink RX4 34 "JournaledTables" "scans" "[LJournaledTables$Scan;", Cond.methodLink RX4 53 yX0_powered, Cond.instanceMethod yX0_powered, Cond.selects RX0 yX0_powered yX0_powered, Cond.initialized RX0, Cond.code yX0_powered cX0_powered 1 (some .boolean), Cond.fieldLink RX0 15 "JournaledTables$Disk" "powered" "Z", Cond.methodLink RX4 110 yX2_hasTable, Cond.instanceMethod yX2_hasTable, Cond.selects RX2 yX2_hasTable yX2_hasTable, Cond.initialized RX2, Cond.code yX2_hasTable cX2_hasTable 2 (some .boolean), Cond.fieldLink RX2 9 "JournaledTables$Memory" "words" "[I", Cond.methodLink RX4 103 yX2_hasCol, Cond.instanceMethod yX2_hasCol, Cond.selects RX2 yX2_hasCol yX2_hasCol, Cond.code yX2_hasCol cX2_hasCol 3 (some .boolean), Cond.methodLink RX2 32 yX2_width, Cond.instanceMethod yX2_width, Cond.selects RX2 yX2_width yX2_width, Cond.code yX2_width cX2_width 2 (some .int), Cond.methodLink RX2 28 yX2_hasTable]
def wsX4_openScan_r2 : List Cond := [Cond.methodLink RX4 117 yX4_scanOf, Cond.instanceMethod yX4_scanOf, Cond.selects RX4 yX4_scanOf yX4_scanOf, Cond.initialized RX4, Cond.code yX4_scanOf cX4_scanOf 2 (some (.object "JournaledTables$Scan")), Cond.methodLink RX4 156 yX3_isOpen, Cond.instanceMethod yX3_isOpen, Cond.selects RX3 yX3_isOpen yX3_isOpen, Cond.initialized RX3, Cond.code yX3_isOpen cX3_isOpen 1 (some .boolean), Cond.fieldLink RX3 11 "JournaledTables$Scan" "open" "Z", Cond.methodLink RX4 121 yX3_start, Cond.instanceMethod yX3_start, Cond.selects RX3 yX3_start yX3_start, Cond.code yX3_start cX3_start 5 none, Cond.fieldLink RX3 17 "JournaledTables$Scan" "isVoid" "Z", Cond.fieldLink RX3 20 "JournaledTables$Scan" "table" "I", Cond.fieldLink RX3 24 "JournaledTables$Scan" "col" "I", Cond.fieldLink RX3 27 "JournaledTables$Scan" "lo" "I", Cond.fieldLink RX3 30 "JournaledTables$Scan" "hi" "I", Cond.constantLong RX3 33 (-2147483649), Cond.fieldLink RX3 35 "JournaledTables$Scan" "passedKey" "J", Cond.fieldLink RX3 39 "JournaledTables$Scan" "row" "I"]
def wsX4_openScan : List Cond := .code yX4_openScan cX4_openScan 6 (some .int) :: ((wsX4_openScan_r1 ++ wsX4_openScan_r2) ++ wsX40 ++ wsX00 ++ wsX20 ++ wsX30)
def wsX4_usableScan : List Cond := .code yX4_usableScan cX4_usableScan 3 (some (.object "JournaledTables$Scan")) :: ([.fieldLink RX4 10 "JournaledTables" "disk" "LJournaledTables$Disk;", .methodLink RX4 53 yX0_powered, .instanceMethod yX0_powered, .selects RX0 yX0_powered yX0_powered, .initialized RX0, .code yX0_powered cX0_powered 1 (some .boolean), .fieldLink RX0 15 "JournaledTables$Disk" "powered" "Z", .methodLink RX4 117 yX4_scanOf, .instanceMethod yX4_scanOf, .selects RX4 yX4_scanOf yX4_scanOf, .initialized RX4, .code yX4_scanOf cX4_scanOf 2 (some (.object "JournaledTables$Scan")), .fieldLink RX4 34 "JournaledTables" "scans" "[LJournaledTables$Scan;", .methodLink RX4 156 yX3_isOpen, .instanceMethod yX3_isOpen, .selects RX3 yX3_isOpen yX3_isOpen, .initialized RX3, .code yX3_isOpen cX3_isOpen 1 (some .boolean), .fieldLink RX3 11 "JournaledTables$Scan" "open" "Z", .methodLink RX4 159 yX3_isVoid, .instanceMethod yX3_isVoid, .selects RX3 yX3_isVoid yX3_isVoid, .code yX3_isVoid cX3_isVoid 1 (some .boolean), .fieldLink RX3 17 "JournaledTables$Scan" "isVoid" "Z"] ++ wsX40 ++ wsX00 ++ wsX30)
def wsX4_next_r1 : List Cond := [Cond.fieldLink RX4 19 "JournaledTables" "memory" "LJournaledTables$Memory;", Cond.methodLink RX4 125 yX4_usableScan, Cond.instanceMethod yX4_usableScan, Cond.selects RX4 yX4_usableScan yX4_usableScan, Cond.initialized RX4, Cond.code yX4_usableScan cX4_usableScan 3 (some (.object "JournaledTables$Scan")), Cond.fieldLink RX4 10 "JournaledTables" "disk" "LJournaledTables$Disk;", Cond.methodLink RX4 53 yX0_powered, Cond.instanceMethod yX0_powered, Cond.selects RX0 yX0_powered yX0_powered, Cond.initialized RX0, Cond.code yX0_powered cX0_powered 1 (some .boolean), Cond.fieldLink RX0 15 "JournaledTables$Disk" "powered" "Z", Cond.methodLink RX4 117 yX4_scanOf, Cond.instanceMethod yX4_scanOf, Cond.selects RX4 yX4_scanOf yX4_scanOf, Cond.code yX4_scanOf cX4_scanOf 2 (some (.object "JournaledTables$Scan")), Cond.fieldLink RX4 34 "JournaledTables" "scans" "[LJournaledTables$Scan;", Cond.methodLink RX4 156 yX3_isOpen, Cond.instanceMethod yX3_isOpen, Cond.selects RX3 yX3_isOpen yX3_isOpen, Cond.initialized RX3, Cond.code yX3_isOpen cX3_isOpen 1 (some .boolean), Cond.fieldLink RX3 11 "JournaledTables$Scan" "open" "Z"]
def wsX4_next_r2 : List Cond := [Cond.methodLink RX4 159 yX3_isVoid, Cond.instanceMethod yX3_isVoid, Cond.selects RX3 yX3_isVoid yX3_isVoid, Cond.code yX3_isVoid cX3_isVoid 1 (some .boolean), Cond.fieldLink RX3 17 "JournaledTables$Scan" "isVoid" "Z", Cond.methodLink RX4 128 yX3_move, Cond.instanceMethod yX3_move, Cond.selects RX3 yX3_move yX3_move, Cond.code yX3_move cX3_move 2 (some .boolean), Cond.fieldLink RX3 20 "JournaledTables$Scan" "table" "I", Cond.fieldLink RX3 24 "JournaledTables$Scan" "col" "I", Cond.fieldLink RX3 27 "JournaledTables$Scan" "lo" "I", Cond.fieldLink RX3 30 "JournaledTables$Scan" "hi" "I", Cond.fieldLink RX3 35 "JournaledTables$Scan" "passedKey" "J", Cond.fieldLink RX3 39 "JournaledTables$Scan" "row" "I", Cond.methodLink RX3 42 yX2_leastRow, Cond.instanceMethod yX2_leastRow, Cond.selects RX2 yX2_leastRow yX2_leastRow, Cond.initialized RX2, Cond.code yX2_leastRow cX2_leastRow 14 (some .int), Cond.fieldLink RX2 9 "JournaledTables$Memory" "words" "[I", Cond.methodLink RX2 48 yX2_slots, Cond.instanceMethod yX2_slots, Cond.selects RX2 yX2_slots yX2_slots]
def wsX4_next_r3 : List Cond := [Cond.code yX2_slots cX2_slots 3 (some .int), Cond.methodLink RX2 32 yX2_width, Cond.instanceMethod yX2_width, Cond.selects RX2 yX2_width yX2_width, Cond.code yX2_width cX2_width 2 (some .int), Cond.methodLink RX2 28 yX2_hasTable, Cond.instanceMethod yX2_hasTable, Cond.selects RX2 yX2_hasTable yX2_hasTable, Cond.code yX2_hasTable cX2_hasTable 2 (some .boolean), Cond.methodLink RX2 36 yX2_isPageOf, Cond.instanceMethod yX2_isPageOf, Cond.selects RX2 yX2_isPageOf yX2_isPageOf, Cond.code yX2_isPageOf cX2_isPageOf 3 (some .boolean), Cond.methodLink RX2 51 yX2_rowAt, Cond.instanceMethod yX2_rowAt, Cond.selects RX2 yX2_rowAt yX2_rowAt, Cond.code yX2_rowAt cX2_rowAt 4 (some .int), Cond.methodLink RX2 55 yX2_hasRow, Cond.instanceMethod yX2_hasRow, Cond.selects RX2 yX2_hasRow yX2_hasRow, Cond.code yX2_hasRow cX2_hasRow 3 (some .boolean), Cond.methodLink RX3 48 yX2_word, Cond.instanceMethod yX2_word, Cond.selects RX2 yX2_word yX2_word]
def wsX4_next_r4 : List Cond := [Cond.code yX2_word cX2_word 2 (some .int)]
def wsX4_next : List Cond := .code yX4_next cX4_next 3 (some .boolean) :: ((wsX4_next_r1 ++ (wsX4_next_r2 ++ (wsX4_next_r3 ++ wsX4_next_r4))) ++ wsX40 ++ wsX00 ++ wsX30 ++ wsX20)
def wsX4_col_r1 : List Cond := [Cond.fieldLink RX4 19 "JournaledTables" "memory" "LJournaledTables$Memory;", Cond.methodLink RX4 125 yX4_usableScan, Cond.instanceMethod yX4_usableScan, Cond.selects RX4 yX4_usableScan yX4_usableScan, Cond.initialized RX4, Cond.code yX4_usableScan cX4_usableScan 3 (some (.object "JournaledTables$Scan")), Cond.fieldLink RX4 10 "JournaledTables" "disk" "LJournaledTables$Disk;", Cond.methodLink RX4 53 yX0_powered, Cond.instanceMethod yX0_powered, Cond.selects RX0 yX0_powered yX0_powered, Cond.initialized RX0, Cond.code yX0_powered cX0_powered 1 (some .boolean), Cond.fieldLink RX0 15 "JournaledTables$Disk" "powered" "Z", Cond.methodLink RX4 117 yX4_scanOf, Cond.instanceMethod yX4_scanOf, Cond.selects RX4 yX4_scanOf yX4_scanOf, Cond.code yX4_scanOf cX4_scanOf 2 (some (.object "JournaledTables$Scan")), Cond.fieldLink RX4 34 "JournaledTables" "scans" "[LJournaledTables$Scan;", Cond.methodLink RX4 156 yX3_isOpen, Cond.instanceMethod yX3_isOpen, Cond.selects RX3 yX3_isOpen yX3_isOpen, Cond.initialized RX3, Cond.code yX3_isOpen cX3_isOpen 1 (some .boolean), Cond.fieldLink RX3 11 "JournaledTables$Scan" "open" "Z"]
def wsX4_col_r2 : List Cond := [Cond.methodLink RX4 159 yX3_isVoid, Cond.instanceMethod yX3_isVoid, Cond.selects RX3 yX3_isVoid yX3_isVoid, Cond.code yX3_isVoid cX3_isVoid 1 (some .boolean), Cond.fieldLink RX3 17 "JournaledTables$Scan" "isVoid" "Z", Cond.methodLink RX4 132 yX3_wordAt, Cond.instanceMethod yX3_wordAt, Cond.selects RX3 yX3_wordAt yX3_wordAt, Cond.code yX3_wordAt cX3_wordAt 3 (some .int), Cond.fieldLink RX3 39 "JournaledTables$Scan" "row" "I", Cond.fieldLink RX3 20 "JournaledTables$Scan" "table" "I", Cond.methodLink RX3 52 yX2_hasCol, Cond.instanceMethod yX2_hasCol, Cond.selects RX2 yX2_hasCol yX2_hasCol, Cond.initialized RX2, Cond.code yX2_hasCol cX2_hasCol 3 (some .boolean), Cond.methodLink RX2 32 yX2_width, Cond.instanceMethod yX2_width, Cond.selects RX2 yX2_width yX2_width, Cond.code yX2_width cX2_width 2 (some .int), Cond.fieldLink RX2 9 "JournaledTables$Memory" "words" "[I", Cond.methodLink RX2 28 yX2_hasTable, Cond.instanceMethod yX2_hasTable, Cond.selects RX2 yX2_hasTable yX2_hasTable]
def wsX4_col_r3 : List Cond := [Cond.code yX2_hasTable cX2_hasTable 2 (some .boolean), Cond.methodLink RX3 48 yX2_word, Cond.instanceMethod yX2_word, Cond.selects RX2 yX2_word yX2_word, Cond.code yX2_word cX2_word 2 (some .int)]
def wsX4_col : List Cond := .code yX4_col cX4_col 4 (some .int) :: ((wsX4_col_r1 ++ (wsX4_col_r2 ++ wsX4_col_r3)) ++ wsX40 ++ wsX00 ++ wsX30 ++ wsX20)
def wsX4_closeScan : List Cond := .code yX4_closeScan cX4_closeScan 3 (some .int) :: ([.fieldLink RX4 10 "JournaledTables" "disk" "LJournaledTables$Disk;", .methodLink RX4 53 yX0_powered, .instanceMethod yX0_powered, .selects RX0 yX0_powered yX0_powered, .initialized RX0, .code yX0_powered cX0_powered 1 (some .boolean), .fieldLink RX0 15 "JournaledTables$Disk" "powered" "Z", .methodLink RX4 117 yX4_scanOf, .instanceMethod yX4_scanOf, .selects RX4 yX4_scanOf yX4_scanOf, .initialized RX4, .code yX4_scanOf cX4_scanOf 2 (some (.object "JournaledTables$Scan")), .fieldLink RX4 34 "JournaledTables" "scans" "[LJournaledTables$Scan;", .methodLink RX4 156 yX3_isOpen, .instanceMethod yX3_isOpen, .selects RX3 yX3_isOpen yX3_isOpen, .initialized RX3, .code yX3_isOpen cX3_isOpen 1 (some .boolean), .fieldLink RX3 11 "JournaledTables$Scan" "open" "Z", .methodLink RX4 136 yX3_end, .instanceMethod yX3_end, .selects RX3 yX3_end yX3_end, .code yX3_end cX3_end 1 none] ++ wsX40 ++ wsX00 ++ wsX30)
def wsX4_crashAfter : List Cond := .code yX4_crashAfter cX4_crashAfter 2 (some .int) :: ([.fieldLink RX4 10 "JournaledTables" "disk" "LJournaledTables$Disk;", .methodLink RX4 139 yX0_failAfter, .instanceMethod yX0_failAfter, .selects RX0 yX0_failAfter yX0_failAfter, .initialized RX0, .code yX0_failAfter cX0_failAfter 2 none, .fieldLink RX0 19 "JournaledTables$Disk" "writesLeft" "I"] ++ wsX40 ++ wsX00)
def wsX4_recover_r1 : List Cond := [Cond.fieldLink RX4 10 "JournaledTables" "disk" "LJournaledTables$Disk;", Cond.fieldLink RX4 28 "JournaledTables" "journal" "LJournaledTables$Journal;", Cond.methodLink RX4 142 yX0_powerOn, Cond.instanceMethod yX0_powerOn, Cond.selects RX0 yX0_powerOn yX0_powerOn, Cond.initialized RX0, Cond.code yX0_powerOn cX0_powerOn 1 none, Cond.fieldLink RX0 15 "JournaledTables$Disk" "powered" "Z", Cond.methodLink RX4 145 yX1_undo, Cond.instanceMethod yX1_undo, Cond.selects RX1 yX1_undo yX1_undo, Cond.initialized RX1, Cond.code yX1_undo cX1_undo 2 (some .boolean), Cond.methodLink RX1 41 yX1_blocksToUndo, Cond.instanceMethod yX1_blocksToUndo, Cond.selects RX1 yX1_blocksToUndo yX1_blocksToUndo, Cond.code yX1_blocksToUndo cX1_blocksToUndo 4 (some .int), Cond.fieldLink RX1 15 "JournaledTables$Journal" "disk" "LJournaledTables$Disk;", Cond.methodLink RX1 82 yX0_word, Cond.instanceMethod yX0_word, Cond.selects RX0 yX0_word yX0_word, Cond.code yX0_word cX0_word 3 (some .int), Cond.fieldLink RX0 9 "JournaledTables$Disk" "words" "[I", Cond.methodLink RX1 66 yJ6_bitCount_0f7a4]
def wsX4_recover_r2 : List Cond := [Cond.static yJ6_bitCount_0f7a4, Cond.initialized RJ6, Cond.code yJ6_bitCount_0f7a4 cJ6_bitCount_0f7a4 1 (some .int), Cond.constant RJ6 265 (1431655765), Cond.constant RJ6 266 (858993459), Cond.constant RJ6 267 (252645135), Cond.methodLink RX1 72 yX1_checkOfImages, Cond.instanceMethod yX1_checkOfImages, Cond.selects RX1 yX1_checkOfImages yX1_checkOfImages, Cond.code yX1_checkOfImages cX1_checkOfImages 5 (some .int), Cond.methodLink RX1 44 yX1_restoreBlocks, Cond.instanceMethod yX1_restoreBlocks, Cond.selects RX1 yX1_restoreBlocks yX1_restoreBlocks, Cond.code yX1_restoreBlocks cX1_restoreBlocks 3 (some .boolean), Cond.methodLink RX1 53 yX1_contains, Cond.static yX1_contains, Cond.code yX1_contains cX1_contains 2 (some .boolean), Cond.methodLink RX1 57 yX1_imageOf, Cond.static yX1_imageOf, Cond.code yX1_imageOf cX1_imageOf 2 (some .int), Cond.methodLink RX1 61 yX0_copyBlock, Cond.instanceMethod yX0_copyBlock, Cond.selects RX0 yX0_copyBlock yX0_copyBlock, Cond.code yX0_copyBlock cX0_copyBlock 3 (some .boolean)]
def wsX4_recover_r3 : List Cond := [Cond.methodLink RX0 32 yX0_write, Cond.instanceMethod yX0_write, Cond.selects RX0 yX0_write yX0_write, Cond.code yX0_write cX0_write 4 (some .boolean), Cond.fieldLink RX0 19 "JournaledTables$Disk" "writesLeft" "I", Cond.methodLink RX0 26 arraycopyName, Cond.native arraycopyName, Cond.static arraycopyName, Cond.initialized "java/lang/System", Cond.fieldLink RX0 23 "JournaledTables$Disk" "writesDone" "I", Cond.methodLink RX1 37 yX1_clearHead, Cond.instanceMethod yX1_clearHead, Cond.selects RX1 yX1_clearHead yX1_clearHead, Cond.code yX1_clearHead cX1_clearHead 2 (some .boolean), Cond.fieldLink RX1 9 "JournaledTables$Journal" "head" "[I", Cond.methodLink RX1 75 yX0_write, Cond.methodLink RX4 50 yX4_startAnew, Cond.instanceMethod yX4_startAnew, Cond.selects RX4 yX4_startAnew yX4_startAnew, Cond.initialized RX4, Cond.code yX4_startAnew cX4_startAnew 2 none, Cond.fieldLink RX4 19 "JournaledTables" "memory" "LJournaledTables$Memory;", Cond.fieldLink RX4 43 "JournaledTables" "inTransaction" "Z", Cond.fieldLink RX4 34 "JournaledTables" "scans" "[LJournaledTables$Scan;"]
def wsX4_recover_r4 : List Cond := [Cond.methodLink RX4 82 yX2_load, Cond.instanceMethod yX2_load, Cond.selects RX2 yX2_load yX2_load, Cond.initialized RX2, Cond.code yX2_load cX2_load 2 none, Cond.fieldLink RX2 9 "JournaledTables$Memory" "words" "[I", Cond.methodLink RX2 18 arraycopyName, Cond.methodLink RX4 136 yX3_end, Cond.instanceMethod yX3_end, Cond.selects RX3 yX3_end yX3_end, Cond.initialized RX3, Cond.code yX3_end cX3_end 1 none, Cond.fieldLink RX3 11 "JournaledTables$Scan" "open" "Z"]
def wsX4_recover : List Cond := .code yX4_recover cX4_recover 1 (some .int) :: ((wsX4_recover_r1 ++ (wsX4_recover_r2 ++ (wsX4_recover_r3 ++ wsX4_recover_r4))) ++ wsX40 ++ wsX00 ++ wsX10 ++ wsX20 ++ wsX30)
def wsX4_peek : List Cond := .code yX4_peek cX4_peek 3 (some .int) :: ([.fieldLink RX4 10 "JournaledTables" "disk" "LJournaledTables$Disk;", .methodLink RX4 148 yX0_word, .instanceMethod yX0_word, .selects RX0 yX0_word yX0_word, .initialized RX0, .code yX0_word cX0_word 3 (some .int), .fieldLink RX0 9 "JournaledTables$Disk" "words" "[I"] ++ wsX40 ++ wsX00)
def wsX4_writes : List Cond := .code yX4_writes cX4_writes 1 (some .int) :: ([.fieldLink RX4 10 "JournaledTables" "disk" "LJournaledTables$Disk;", .methodLink RX4 150 yX0_writesDone, .instanceMethod yX0_writesDone, .selects RX0 yX0_writesDone yX0_writesDone, .initialized RX0, .code yX0_writesDone cX0_writesDone 1 (some .int), .fieldLink RX0 23 "JournaledTables$Disk" "writesDone" "I"] ++ wsX40 ++ wsX00)
def wsX5_init : List Cond := .code yX5_init cX5_init 1 none :: ([.methodLink RX5 1 objectInit, .instanceMethod objectInit, .code objectInit ⟨#[0xb1]⟩ 1 none, .arrayClass .int, .fieldLink RX5 7 "JournaledTablesModel" "disk" "[I", .fieldLink RX5 13 "JournaledTablesModel" "memory" "[I", .fieldLink RX5 16 "JournaledTablesModel" "work" "[I", .fieldLink RX5 19 "JournaledTablesModel" "staged" "[I", .fieldLink RX5 22 "JournaledTablesModel" "crash" "I", .fieldLink RX5 26 "JournaledTablesModel" "tables" "[I", .fieldLink RX5 29 "JournaledTablesModel" "columns" "[I", .fieldLink RX5 32 "JournaledTablesModel" "lows" "[I", .fieldLink RX5 35 "JournaledTablesModel" "highs" "[I", .arrayClass .boolean, .fieldLink RX5 38 "JournaledTablesModel" "used" "[Z", .fieldLink RX5 42 "JournaledTablesModel" "dead" "[Z", .fieldLink RX5 45 "JournaledTablesModel" "states" "[I", .fieldLink RX5 48 "JournaledTablesModel" "keys" "[I"] ++ wsX50)
def wsX5_put : List Cond := .code yX5_put cX5_put 3 (some .boolean) :: ([.fieldLink RX5 22 "JournaledTablesModel" "crash" "I", .fieldLink RX5 51 "JournaledTablesModel" "off" "Z", .fieldLink RX5 7 "JournaledTablesModel" "disk" "[I", .fieldLink RX5 16 "JournaledTablesModel" "work" "[I", .fieldLink RX5 55 "JournaledTablesModel" "writes" "I"] ++ wsX50)
def wsX5_putFromDisk : List Cond := .code yX5_putFromDisk cX5_putFromDisk 4 (some .boolean) :: ([.fieldLink RX5 16 "JournaledTablesModel" "work" "[I", .fieldLink RX5 7 "JournaledTablesModel" "disk" "[I", .methodLink RX5 58 yX5_put, .instanceMethod yX5_put, .selects RX5 yX5_put yX5_put, .initialized RX5, .code yX5_put cX5_put 3 (some .boolean), .fieldLink RX5 22 "JournaledTablesModel" "crash" "I", .fieldLink RX5 51 "JournaledTablesModel" "off" "Z", .fieldLink RX5 55 "JournaledTablesModel" "writes" "I"] ++ wsX50)
def wsX5_putFromMemory : List Cond := .code yX5_putFromMemory cX5_putFromMemory 3 (some .boolean) :: ([.fieldLink RX5 16 "JournaledTablesModel" "work" "[I", .fieldLink RX5 13 "JournaledTablesModel" "memory" "[I", .methodLink RX5 58 yX5_put, .instanceMethod yX5_put, .selects RX5 yX5_put yX5_put, .initialized RX5, .code yX5_put cX5_put 3 (some .boolean), .fieldLink RX5 22 "JournaledTablesModel" "crash" "I", .fieldLink RX5 51 "JournaledTablesModel" "off" "Z", .fieldLink RX5 7 "JournaledTablesModel" "disk" "[I", .fieldLink RX5 55 "JournaledTablesModel" "writes" "I"] ++ wsX50)
def wsX5_check : List Cond := .code yX5_check cX5_check 4 (some .int) :: ([.fieldLink RX5 7 "JournaledTablesModel" "disk" "[I"] ++ wsX50)
def wsX5_putHead : List Cond := .code yX5_putHead cX5_putHead 4 (some .boolean) :: ([.fieldLink RX5 16 "JournaledTablesModel" "work" "[I", .methodLink RX5 62 yX5_check, .instanceMethod yX5_check, .selects RX5 yX5_check yX5_check, .initialized RX5, .code yX5_check cX5_check 4 (some .int), .fieldLink RX5 7 "JournaledTablesModel" "disk" "[I", .methodLink RX5 58 yX5_put, .instanceMethod yX5_put, .selects RX5 yX5_put yX5_put, .code yX5_put cX5_put 3 (some .boolean), .fieldLink RX5 22 "JournaledTablesModel" "crash" "I", .fieldLink RX5 51 "JournaledTablesModel" "off" "Z", .fieldLink RX5 55 "JournaledTablesModel" "writes" "I"] ++ wsX50)
def wsX5_bits : List Cond := .code yX5_bits cX5_bits 3 (some .int) :: ([])
def wsX5_changed : List Cond := .code yX5_changed cX5_changed 3 (some .int) :: ([.fieldLink RX5 7 "JournaledTablesModel" "disk" "[I", .fieldLink RX5 13 "JournaledTablesModel" "memory" "[I"] ++ wsX50)
def wsX5_commit_r1 : List Cond := [Cond.fieldLink RX5 51 "JournaledTablesModel" "off" "Z", Cond.fieldLink RX5 66 "JournaledTablesModel" "open" "Z", Cond.methodLink RX5 69 yX5_changed, Cond.instanceMethod yX5_changed, Cond.selects RX5 yX5_changed yX5_changed, Cond.initialized RX5, Cond.code yX5_changed cX5_changed 3 (some .int), Cond.fieldLink RX5 7 "JournaledTablesModel" "disk" "[I", Cond.fieldLink RX5 13 "JournaledTablesModel" "memory" "[I", Cond.methodLink RX5 73 yX5_putFromDisk, Cond.instanceMethod yX5_putFromDisk, Cond.selects RX5 yX5_putFromDisk yX5_putFromDisk, Cond.code yX5_putFromDisk cX5_putFromDisk 4 (some .boolean), Cond.fieldLink RX5 16 "JournaledTablesModel" "work" "[I", Cond.methodLink RX5 58 yX5_put, Cond.instanceMethod yX5_put, Cond.selects RX5 yX5_put yX5_put, Cond.code yX5_put cX5_put 3 (some .boolean), Cond.fieldLink RX5 22 "JournaledTablesModel" "crash" "I", Cond.fieldLink RX5 55 "JournaledTablesModel" "writes" "I", Cond.methodLink RX5 77 yX5_putHead, Cond.instanceMethod yX5_putHead, Cond.selects RX5 yX5_putHead yX5_putHead, Cond.code yX5_putHead cX5_putHead 4 (some .boolean)]
def wsX5_commit_r2 : List Cond := [Cond.methodLink RX5 62 yX5_check, Cond.instanceMethod yX5_check, Cond.selects RX5 yX5_check yX5_check, Cond.code yX5_check cX5_check 4 (some .int), Cond.methodLink RX5 80 yX5_putFromMemory, Cond.instanceMethod yX5_putFromMemory, Cond.selects RX5 yX5_putFromMemory yX5_putFromMemory, Cond.code yX5_putFromMemory cX5_putFromMemory 3 (some .boolean)]
def wsX5_commit : List Cond := .code yX5_commit cX5_commit 5 (some .int) :: ((wsX5_commit_r1 ++ wsX5_commit_r2) ++ wsX50)
def wsX5_isHead : List Cond := .code yX5_isHead cX5_isHead 4 (some .boolean) :: ([.fieldLink RX5 7 "JournaledTablesModel" "disk" "[I", .constant RX5 83 (65536), .methodLink RX5 84 yX5_bits, .static yX5_bits, .initialized RX5, .code yX5_bits cX5_bits 3 (some .int), .methodLink RX5 62 yX5_check, .instanceMethod yX5_check, .selects RX5 yX5_check yX5_check, .code yX5_check cX5_check 4 (some .int)] ++ wsX50)
def wsX5_copyBack : List Cond := .code yX5_copyBack cX5_copyBack 2 none :: ([.fieldLink RX5 13 "JournaledTablesModel" "memory" "[I", .fieldLink RX5 7 "JournaledTablesModel" "disk" "[I", .fieldLink RX5 66 "JournaledTablesModel" "open" "Z"] ++ wsX50)
def wsX5_recover_r1 : List Cond := [Cond.fieldLink RX5 51 "JournaledTablesModel" "off" "Z", Cond.fieldLink RX5 7 "JournaledTablesModel" "disk" "[I", Cond.fieldLink RX5 38 "JournaledTablesModel" "used" "[Z", Cond.methodLink RX5 87 yX5_isHead, Cond.instanceMethod yX5_isHead, Cond.selects RX5 yX5_isHead yX5_isHead, Cond.initialized RX5, Cond.code yX5_isHead cX5_isHead 4 (some .boolean), Cond.constant RX5 83 (65536), Cond.methodLink RX5 84 yX5_bits, Cond.static yX5_bits, Cond.code yX5_bits cX5_bits 3 (some .int), Cond.methodLink RX5 62 yX5_check, Cond.instanceMethod yX5_check, Cond.selects RX5 yX5_check yX5_check, Cond.code yX5_check cX5_check 4 (some .int), Cond.methodLink RX5 73 yX5_putFromDisk, Cond.instanceMethod yX5_putFromDisk, Cond.selects RX5 yX5_putFromDisk yX5_putFromDisk, Cond.code yX5_putFromDisk cX5_putFromDisk 4 (some .boolean), Cond.fieldLink RX5 16 "JournaledTablesModel" "work" "[I", Cond.methodLink RX5 58 yX5_put, Cond.instanceMethod yX5_put, Cond.selects RX5 yX5_put yX5_put]
def wsX5_recover_r2 : List Cond := [Cond.code yX5_put cX5_put 3 (some .boolean), Cond.fieldLink RX5 22 "JournaledTablesModel" "crash" "I", Cond.fieldLink RX5 55 "JournaledTablesModel" "writes" "I", Cond.methodLink RX5 77 yX5_putHead, Cond.instanceMethod yX5_putHead, Cond.selects RX5 yX5_putHead yX5_putHead, Cond.code yX5_putHead cX5_putHead 4 (some .boolean), Cond.methodLink RX5 91 yX5_copyBack, Cond.instanceMethod yX5_copyBack, Cond.selects RX5 yX5_copyBack yX5_copyBack, Cond.code yX5_copyBack cX5_copyBack 2 none, Cond.fieldLink RX5 13 "JournaledTablesModel" "memory" "[I", Cond.fieldLink RX5 66 "JournaledTablesModel" "open" "Z"]
def wsX5_recover : List Cond := .code yX5_recover cX5_recover 5 (some .int) :: ((wsX5_recover_r1 ++ wsX5_recover_r2) ++ wsX50)
def wsX5_format : List Cond := .code yX5_format cX5_format 2 (some .int) :: ([.fieldLink RX5 7 "JournaledTablesModel" "disk" "[I", .fieldLink RX5 51 "JournaledTablesModel" "off" "Z", .fieldLink RX5 22 "JournaledTablesModel" "crash" "I", .fieldLink RX5 38 "JournaledTablesModel" "used" "[Z", .methodLink RX5 91 yX5_copyBack, .instanceMethod yX5_copyBack, .selects RX5 yX5_copyBack yX5_copyBack, .initialized RX5, .code yX5_copyBack cX5_copyBack 2 none, .fieldLink RX5 13 "JournaledTablesModel" "memory" "[I", .fieldLink RX5 66 "JournaledTablesModel" "open" "Z"] ++ wsX50)
def wsX5_crashAfter : List Cond := .code yX5_crashAfter cX5_crashAfter 2 (some .int) :: ([.fieldLink RX5 22 "JournaledTablesModel" "crash" "I"] ++ wsX50)
def wsX5_peek : List Cond := .code yX5_peek cX5_peek 3 (some .int) :: ([.fieldLink RX5 7 "JournaledTablesModel" "disk" "[I"] ++ wsX50)
def wsX5_writes : List Cond := .code yX5_writes cX5_writes 1 (some .int) :: ([.fieldLink RX5 55 "JournaledTablesModel" "writes" "I"] ++ wsX50)
def wsX5_begin : List Cond := .code yX5_begin cX5_begin 1 (some .int) :: ([.fieldLink RX5 51 "JournaledTablesModel" "off" "Z", .fieldLink RX5 66 "JournaledTablesModel" "open" "Z"] ++ wsX50)
def wsX5_rollback : List Cond := .code yX5_rollback cX5_rollback 2 (some .int) :: ([.fieldLink RX5 51 "JournaledTablesModel" "off" "Z", .fieldLink RX5 66 "JournaledTablesModel" "open" "Z", .fieldLink RX5 42 "JournaledTablesModel" "dead" "[Z", .methodLink RX5 91 yX5_copyBack, .instanceMethod yX5_copyBack, .selects RX5 yX5_copyBack yX5_copyBack, .initialized RX5, .code yX5_copyBack cX5_copyBack 2 none, .fieldLink RX5 13 "JournaledTablesModel" "memory" "[I", .fieldLink RX5 7 "JournaledTablesModel" "disk" "[I"] ++ wsX50)
def wsX5_noTable : List Cond := .code yX5_noTable cX5_noTable 2 (some .boolean) :: ([.fieldLink RX5 13 "JournaledTablesModel" "memory" "[I"] ++ wsX50)
def wsX5_slots : List Cond := .code yX5_slots cX5_slots 2 (some .int) :: ([.fieldLink RX5 13 "JournaledTablesModel" "memory" "[I"] ++ wsX50)
def wsX5_change : List Cond := .code yX5_change cX5_change 3 none :: ([.fieldLink RX5 42 "JournaledTablesModel" "dead" "[Z", .fieldLink RX5 26 "JournaledTablesModel" "tables" "[I"] ++ wsX50)
def wsX5_clearPage : List Cond := .code yX5_clearPage cX5_clearPage 3 none :: ([.fieldLink RX5 13 "JournaledTablesModel" "memory" "[I"] ++ wsX50)
def wsX5_createTable : List Cond := .code yX5_createTable cX5_createTable 3 (some .int) :: ([.fieldLink RX5 51 "JournaledTablesModel" "off" "Z", .fieldLink RX5 66 "JournaledTablesModel" "open" "Z", .fieldLink RX5 13 "JournaledTablesModel" "memory" "[I"] ++ wsX50)
def wsX5_dropTable : List Cond := .code yX5_dropTable cX5_dropTable 3 (some .int) :: ([.fieldLink RX5 51 "JournaledTablesModel" "off" "Z", .fieldLink RX5 66 "JournaledTablesModel" "open" "Z", .fieldLink RX5 13 "JournaledTablesModel" "memory" "[I", .methodLink RX5 94 yX5_noTable, .instanceMethod yX5_noTable, .selects RX5 yX5_noTable yX5_noTable, .initialized RX5, .code yX5_noTable cX5_noTable 2 (some .boolean), .methodLink RX5 97 yX5_clearPage, .instanceMethod yX5_clearPage, .selects RX5 yX5_clearPage yX5_clearPage, .code yX5_clearPage cX5_clearPage 3 none, .methodLink RX5 101 yX5_change, .instanceMethod yX5_change, .selects RX5 yX5_change yX5_change, .code yX5_change cX5_change 3 none, .fieldLink RX5 42 "JournaledTablesModel" "dead" "[Z", .fieldLink RX5 26 "JournaledTablesModel" "tables" "[I"] ++ wsX50)
def wsX5_stage : List Cond := .code yX5_stage cX5_stage 3 (some .int) :: ([.fieldLink RX5 51 "JournaledTablesModel" "off" "Z", .fieldLink RX5 19 "JournaledTablesModel" "staged" "[I"] ++ wsX50)
def wsX5_wordOf : List Cond := .code yX5_wordOf cX5_wordOf 4 (some .int) :: ([.fieldLink RX5 13 "JournaledTablesModel" "memory" "[I"] ++ wsX50)
def wsX5_filled : List Cond := .code yX5_filled cX5_filled 3 (some .boolean) :: ([.fieldLink RX5 13 "JournaledTablesModel" "memory" "[I"] ++ wsX50)
def wsX5_seek : List Cond := .code yX5_seek cX5_seek 5 (some .int) :: ([.fieldLink RX5 13 "JournaledTablesModel" "memory" "[I", .fieldLink RX5 114 "JournaledTablesModel" "foundPage" "I", .fieldLink RX5 117 "JournaledTablesModel" "foundSlot" "I", .methodLink RX5 104 yX5_slots, .instanceMethod yX5_slots, .selects RX5 yX5_slots yX5_slots, .initialized RX5, .code yX5_slots cX5_slots 2 (some .int), .methodLink RX5 107 yX5_filled, .instanceMethod yX5_filled, .selects RX5 yX5_filled yX5_filled, .code yX5_filled cX5_filled 3 (some .boolean), .methodLink RX5 110 yX5_wordOf, .instanceMethod yX5_wordOf, .selects RX5 yX5_wordOf yX5_wordOf, .code yX5_wordOf cX5_wordOf 4 (some .int)] ++ wsX50)
def wsX5_leads : List Cond := .code yX5_leads cX5_leads 4 (some .int) :: ([.fieldLink RX5 13 "JournaledTablesModel" "memory" "[I"] ++ wsX50)
def wsX5_lay : List Cond := .code yX5_lay cX5_lay 5 none :: ([.fieldLink RX5 13 "JournaledTablesModel" "memory" "[I", .fieldLink RX5 19 "JournaledTablesModel" "staged" "[I", .methodLink RX5 110 yX5_wordOf, .instanceMethod yX5_wordOf, .selects RX5 yX5_wordOf yX5_wordOf, .initialized RX5, .code yX5_wordOf cX5_wordOf 4 (some .int), .methodLink RX5 101 yX5_change, .instanceMethod yX5_change, .selects RX5 yX5_change yX5_change, .code yX5_change cX5_change 3 none, .fieldLink RX5 42 "JournaledTablesModel" "dead" "[Z", .fieldLink RX5 26 "JournaledTablesModel" "tables" "[I"] ++ wsX50)
def wsX5_freePage : List Cond := .code yX5_freePage cX5_freePage 2 (some .int) :: ([.fieldLink RX5 13 "JournaledTablesModel" "memory" "[I"] ++ wsX50)
def wsX5_insert_r1 : List Cond := [Cond.fieldLink RX5 51 "JournaledTablesModel" "off" "Z", Cond.fieldLink RX5 66 "JournaledTablesModel" "open" "Z", Cond.fieldLink RX5 19 "JournaledTablesModel" "staged" "[I", Cond.fieldLink RX5 13 "JournaledTablesModel" "memory" "[I", Cond.methodLink RX5 94 yX5_noTable, Cond.instanceMethod yX5_noTable, Cond.selects RX5 yX5_noTable yX5_noTable, Cond.initialized RX5, Cond.code yX5_noTable cX5_noTable 2 (some .boolean), Cond.methodLink RX5 120 yX5_seek, Cond.instanceMethod yX5_seek, Cond.selects RX5 yX5_seek yX5_seek, Cond.code yX5_seek cX5_seek 5 (some .int), Cond.fieldLink RX5 114 "JournaledTablesModel" "foundPage" "I", Cond.fieldLink RX5 117 "JournaledTablesModel" "foundSlot" "I", Cond.methodLink RX5 104 yX5_slots, Cond.instanceMethod yX5_slots, Cond.selects RX5 yX5_slots yX5_slots, Cond.code yX5_slots cX5_slots 2 (some .int), Cond.methodLink RX5 107 yX5_filled, Cond.instanceMethod yX5_filled, Cond.selects RX5 yX5_filled yX5_filled, Cond.code yX5_filled cX5_filled 3 (some .boolean), Cond.methodLink RX5 110 yX5_wordOf]
def wsX5_insert_r2 : List Cond := [Cond.instanceMethod yX5_wordOf, Cond.selects RX5 yX5_wordOf yX5_wordOf, Cond.code yX5_wordOf cX5_wordOf 4 (some .int), Cond.methodLink RX5 124 yX5_lay, Cond.instanceMethod yX5_lay, Cond.selects RX5 yX5_lay yX5_lay, Cond.code yX5_lay cX5_lay 5 none, Cond.methodLink RX5 101 yX5_change, Cond.instanceMethod yX5_change, Cond.selects RX5 yX5_change yX5_change, Cond.code yX5_change cX5_change 3 none, Cond.fieldLink RX5 42 "JournaledTablesModel" "dead" "[Z", Cond.fieldLink RX5 26 "JournaledTablesModel" "tables" "[I", Cond.methodLink RX5 128 yX5_freePage, Cond.instanceMethod yX5_freePage, Cond.selects RX5 yX5_freePage yX5_freePage, Cond.code yX5_freePage cX5_freePage 2 (some .int)]
def wsX5_insert : List Cond := .code yX5_insert cX5_insert 5 (some .int) :: ((wsX5_insert_r1 ++ wsX5_insert_r2) ++ wsX50)
def wsX5_deleteKey_r1 : List Cond := [Cond.fieldLink RX5 51 "JournaledTablesModel" "off" "Z", Cond.fieldLink RX5 66 "JournaledTablesModel" "open" "Z", Cond.fieldLink RX5 114 "JournaledTablesModel" "foundPage" "I", Cond.fieldLink RX5 13 "JournaledTablesModel" "memory" "[I", Cond.fieldLink RX5 117 "JournaledTablesModel" "foundSlot" "I", Cond.methodLink RX5 94 yX5_noTable, Cond.instanceMethod yX5_noTable, Cond.selects RX5 yX5_noTable yX5_noTable, Cond.initialized RX5, Cond.code yX5_noTable cX5_noTable 2 (some .boolean), Cond.methodLink RX5 120 yX5_seek, Cond.instanceMethod yX5_seek, Cond.selects RX5 yX5_seek yX5_seek, Cond.code yX5_seek cX5_seek 5 (some .int), Cond.methodLink RX5 104 yX5_slots, Cond.instanceMethod yX5_slots, Cond.selects RX5 yX5_slots yX5_slots, Cond.code yX5_slots cX5_slots 2 (some .int), Cond.methodLink RX5 107 yX5_filled, Cond.instanceMethod yX5_filled, Cond.selects RX5 yX5_filled yX5_filled, Cond.code yX5_filled cX5_filled 3 (some .boolean), Cond.methodLink RX5 110 yX5_wordOf, Cond.instanceMethod yX5_wordOf]
def wsX5_deleteKey_r2 : List Cond := [Cond.selects RX5 yX5_wordOf yX5_wordOf, Cond.code yX5_wordOf cX5_wordOf 4 (some .int), Cond.methodLink RX5 131 yX5_leads, Cond.instanceMethod yX5_leads, Cond.selects RX5 yX5_leads yX5_leads, Cond.code yX5_leads cX5_leads 4 (some .int), Cond.methodLink RX5 97 yX5_clearPage, Cond.instanceMethod yX5_clearPage, Cond.selects RX5 yX5_clearPage yX5_clearPage, Cond.code yX5_clearPage cX5_clearPage 3 none, Cond.methodLink RX5 101 yX5_change, Cond.instanceMethod yX5_change, Cond.selects RX5 yX5_change yX5_change, Cond.code yX5_change cX5_change 3 none, Cond.fieldLink RX5 42 "JournaledTablesModel" "dead" "[Z", Cond.fieldLink RX5 26 "JournaledTablesModel" "tables" "[I"]
def wsX5_deleteKey : List Cond := .code yX5_deleteKey cX5_deleteKey 6 (some .int) :: ((wsX5_deleteKey_r1 ++ wsX5_deleteKey_r2) ++ wsX50)
def wsX5_updateCol_r1 : List Cond := [Cond.fieldLink RX5 51 "JournaledTablesModel" "off" "Z", Cond.fieldLink RX5 66 "JournaledTablesModel" "open" "Z", Cond.fieldLink RX5 13 "JournaledTablesModel" "memory" "[I", Cond.methodLink RX5 94 yX5_noTable, Cond.instanceMethod yX5_noTable, Cond.selects RX5 yX5_noTable yX5_noTable, Cond.initialized RX5, Cond.code yX5_noTable cX5_noTable 2 (some .boolean), Cond.methodLink RX5 120 yX5_seek, Cond.instanceMethod yX5_seek, Cond.selects RX5 yX5_seek yX5_seek, Cond.code yX5_seek cX5_seek 5 (some .int), Cond.fieldLink RX5 114 "JournaledTablesModel" "foundPage" "I", Cond.fieldLink RX5 117 "JournaledTablesModel" "foundSlot" "I", Cond.methodLink RX5 104 yX5_slots, Cond.instanceMethod yX5_slots, Cond.selects RX5 yX5_slots yX5_slots, Cond.code yX5_slots cX5_slots 2 (some .int), Cond.methodLink RX5 107 yX5_filled, Cond.instanceMethod yX5_filled, Cond.selects RX5 yX5_filled yX5_filled, Cond.code yX5_filled cX5_filled 3 (some .boolean), Cond.methodLink RX5 110 yX5_wordOf, Cond.instanceMethod yX5_wordOf]
def wsX5_updateCol_r2 : List Cond := [Cond.selects RX5 yX5_wordOf yX5_wordOf, Cond.code yX5_wordOf cX5_wordOf 4 (some .int), Cond.methodLink RX5 101 yX5_change, Cond.instanceMethod yX5_change, Cond.selects RX5 yX5_change yX5_change, Cond.code yX5_change cX5_change 3 none, Cond.fieldLink RX5 42 "JournaledTablesModel" "dead" "[Z", Cond.fieldLink RX5 26 "JournaledTablesModel" "tables" "[I"]
def wsX5_updateCol : List Cond := .code yX5_updateCol cX5_updateCol 6 (some .int) :: ((wsX5_updateCol_r1 ++ wsX5_updateCol_r2) ++ wsX50)
def wsX5_lookup_r1 : List Cond := [Cond.fieldLink RX5 51 "JournaledTablesModel" "off" "Z", Cond.fieldLink RX5 13 "JournaledTablesModel" "memory" "[I", Cond.methodLink RX5 94 yX5_noTable, Cond.instanceMethod yX5_noTable, Cond.selects RX5 yX5_noTable yX5_noTable, Cond.initialized RX5, Cond.code yX5_noTable cX5_noTable 2 (some .boolean), Cond.methodLink RX5 120 yX5_seek, Cond.instanceMethod yX5_seek, Cond.selects RX5 yX5_seek yX5_seek, Cond.code yX5_seek cX5_seek 5 (some .int), Cond.fieldLink RX5 114 "JournaledTablesModel" "foundPage" "I", Cond.fieldLink RX5 117 "JournaledTablesModel" "foundSlot" "I", Cond.methodLink RX5 104 yX5_slots, Cond.instanceMethod yX5_slots, Cond.selects RX5 yX5_slots yX5_slots, Cond.code yX5_slots cX5_slots 2 (some .int), Cond.methodLink RX5 107 yX5_filled, Cond.instanceMethod yX5_filled, Cond.selects RX5 yX5_filled yX5_filled, Cond.code yX5_filled cX5_filled 3 (some .boolean), Cond.methodLink RX5 110 yX5_wordOf, Cond.instanceMethod yX5_wordOf, Cond.selects RX5 yX5_wordOf yX5_wordOf]
def wsX5_lookup_r2 : List Cond := [Cond.code yX5_wordOf cX5_wordOf 4 (some .int)]
def wsX5_lookup : List Cond := .code yX5_lookup cX5_lookup 5 (some .int) :: ((wsX5_lookup_r1 ++ wsX5_lookup_r2) ++ wsX50)
def wsX5_has_r1 : List Cond := [Cond.fieldLink RX5 51 "JournaledTablesModel" "off" "Z", Cond.methodLink RX5 94 yX5_noTable, Cond.instanceMethod yX5_noTable, Cond.selects RX5 yX5_noTable yX5_noTable, Cond.initialized RX5, Cond.code yX5_noTable cX5_noTable 2 (some .boolean), Cond.fieldLink RX5 13 "JournaledTablesModel" "memory" "[I", Cond.methodLink RX5 120 yX5_seek, Cond.instanceMethod yX5_seek, Cond.selects RX5 yX5_seek yX5_seek, Cond.code yX5_seek cX5_seek 5 (some .int), Cond.fieldLink RX5 114 "JournaledTablesModel" "foundPage" "I", Cond.fieldLink RX5 117 "JournaledTablesModel" "foundSlot" "I", Cond.methodLink RX5 104 yX5_slots, Cond.instanceMethod yX5_slots, Cond.selects RX5 yX5_slots yX5_slots, Cond.code yX5_slots cX5_slots 2 (some .int), Cond.methodLink RX5 107 yX5_filled, Cond.instanceMethod yX5_filled, Cond.selects RX5 yX5_filled yX5_filled, Cond.code yX5_filled cX5_filled 3 (some .boolean), Cond.methodLink RX5 110 yX5_wordOf, Cond.instanceMethod yX5_wordOf, Cond.selects RX5 yX5_wordOf yX5_wordOf]
def wsX5_has_r2 : List Cond := [Cond.code yX5_wordOf cX5_wordOf 4 (some .int)]
def wsX5_has : List Cond := .code yX5_has cX5_has 3 (some .boolean) :: ((wsX5_has_r1 ++ wsX5_has_r2) ++ wsX50)
def wsX5_count : List Cond := .code yX5_count cX5_count 4 (some .int) :: ([.fieldLink RX5 51 "JournaledTablesModel" "off" "Z", .fieldLink RX5 13 "JournaledTablesModel" "memory" "[I", .methodLink RX5 94 yX5_noTable, .instanceMethod yX5_noTable, .selects RX5 yX5_noTable yX5_noTable, .initialized RX5, .code yX5_noTable cX5_noTable 2 (some .boolean), .methodLink RX5 84 yX5_bits, .static yX5_bits, .code yX5_bits cX5_bits 3 (some .int)] ++ wsX50)
def wsX5_openScan : List Cond := .code yX5_openScan cX5_openScan 6 (some .int) :: ([.fieldLink RX5 51 "JournaledTablesModel" "off" "Z", .fieldLink RX5 13 "JournaledTablesModel" "memory" "[I", .fieldLink RX5 38 "JournaledTablesModel" "used" "[Z", .fieldLink RX5 42 "JournaledTablesModel" "dead" "[Z", .fieldLink RX5 26 "JournaledTablesModel" "tables" "[I", .fieldLink RX5 29 "JournaledTablesModel" "columns" "[I", .fieldLink RX5 32 "JournaledTablesModel" "lows" "[I", .fieldLink RX5 35 "JournaledTablesModel" "highs" "[I", .fieldLink RX5 45 "JournaledTablesModel" "states" "[I", .methodLink RX5 94 yX5_noTable, .instanceMethod yX5_noTable, .selects RX5 yX5_noTable yX5_noTable, .initialized RX5, .code yX5_noTable cX5_noTable 2 (some .boolean)] ++ wsX50)
def wsX5_noScan : List Cond := .code yX5_noScan cX5_noScan 2 (some .boolean) :: ([.fieldLink RX5 51 "JournaledTablesModel" "off" "Z", .fieldLink RX5 38 "JournaledTablesModel" "used" "[Z"] ++ wsX50)
def wsX5_seekNext : List Cond := .code yX5_seekNext cX5_seekNext 10 (some .boolean) :: ([.fieldLink RX5 26 "JournaledTablesModel" "tables" "[I", .fieldLink RX5 13 "JournaledTablesModel" "memory" "[I", .fieldLink RX5 29 "JournaledTablesModel" "columns" "[I", .fieldLink RX5 32 "JournaledTablesModel" "lows" "[I", .fieldLink RX5 35 "JournaledTablesModel" "highs" "[I", .fieldLink RX5 45 "JournaledTablesModel" "states" "[I", .fieldLink RX5 48 "JournaledTablesModel" "keys" "[I", .methodLink RX5 104 yX5_slots, .instanceMethod yX5_slots, .selects RX5 yX5_slots yX5_slots, .initialized RX5, .code yX5_slots cX5_slots 2 (some .int), .methodLink RX5 110 yX5_wordOf, .instanceMethod yX5_wordOf, .selects RX5 yX5_wordOf yX5_wordOf, .code yX5_wordOf cX5_wordOf 4 (some .int), .methodLink RX5 107 yX5_filled, .instanceMethod yX5_filled, .selects RX5 yX5_filled yX5_filled, .code yX5_filled cX5_filled 3 (some .boolean)] ++ wsX50)
def wsX5_next_r1 : List Cond := [Cond.fieldLink RX5 42 "JournaledTablesModel" "dead" "[Z", Cond.fieldLink RX5 45 "JournaledTablesModel" "states" "[I", Cond.methodLink RX5 134 yX5_noScan, Cond.instanceMethod yX5_noScan, Cond.selects RX5 yX5_noScan yX5_noScan, Cond.initialized RX5, Cond.code yX5_noScan cX5_noScan 2 (some .boolean), Cond.fieldLink RX5 51 "JournaledTablesModel" "off" "Z", Cond.fieldLink RX5 38 "JournaledTablesModel" "used" "[Z", Cond.methodLink RX5 137 yX5_seekNext, Cond.instanceMethod yX5_seekNext, Cond.selects RX5 yX5_seekNext yX5_seekNext, Cond.code yX5_seekNext cX5_seekNext 10 (some .boolean), Cond.fieldLink RX5 26 "JournaledTablesModel" "tables" "[I", Cond.fieldLink RX5 13 "JournaledTablesModel" "memory" "[I", Cond.fieldLink RX5 29 "JournaledTablesModel" "columns" "[I", Cond.fieldLink RX5 32 "JournaledTablesModel" "lows" "[I", Cond.fieldLink RX5 35 "JournaledTablesModel" "highs" "[I", Cond.fieldLink RX5 48 "JournaledTablesModel" "keys" "[I", Cond.methodLink RX5 104 yX5_slots, Cond.instanceMethod yX5_slots, Cond.selects RX5 yX5_slots yX5_slots, Cond.code yX5_slots cX5_slots 2 (some .int), Cond.methodLink RX5 110 yX5_wordOf]
def wsX5_next_r2 : List Cond := [Cond.instanceMethod yX5_wordOf, Cond.selects RX5 yX5_wordOf yX5_wordOf, Cond.code yX5_wordOf cX5_wordOf 4 (some .int), Cond.methodLink RX5 107 yX5_filled, Cond.instanceMethod yX5_filled, Cond.selects RX5 yX5_filled yX5_filled, Cond.code yX5_filled cX5_filled 3 (some .boolean)]
def wsX5_next : List Cond := .code yX5_next cX5_next 3 (some .boolean) :: ((wsX5_next_r1 ++ wsX5_next_r2) ++ wsX50)
def wsX5_col_r1 : List Cond := [Cond.fieldLink RX5 42 "JournaledTablesModel" "dead" "[Z", Cond.fieldLink RX5 45 "JournaledTablesModel" "states" "[I", Cond.fieldLink RX5 13 "JournaledTablesModel" "memory" "[I", Cond.fieldLink RX5 26 "JournaledTablesModel" "tables" "[I", Cond.fieldLink RX5 48 "JournaledTablesModel" "keys" "[I", Cond.methodLink RX5 134 yX5_noScan, Cond.instanceMethod yX5_noScan, Cond.selects RX5 yX5_noScan yX5_noScan, Cond.initialized RX5, Cond.code yX5_noScan cX5_noScan 2 (some .boolean), Cond.fieldLink RX5 51 "JournaledTablesModel" "off" "Z", Cond.fieldLink RX5 38 "JournaledTablesModel" "used" "[Z", Cond.methodLink RX5 120 yX5_seek, Cond.instanceMethod yX5_seek, Cond.selects RX5 yX5_seek yX5_seek, Cond.code yX5_seek cX5_seek 5 (some .int), Cond.fieldLink RX5 114 "JournaledTablesModel" "foundPage" "I", Cond.fieldLink RX5 117 "JournaledTablesModel" "foundSlot" "I", Cond.methodLink RX5 104 yX5_slots, Cond.instanceMethod yX5_slots, Cond.selects RX5 yX5_slots yX5_slots, Cond.code yX5_slots cX5_slots 2 (some .int), Cond.methodLink RX5 107 yX5_filled, Cond.instanceMethod yX5_filled]
def wsX5_col_r2 : List Cond := [Cond.selects RX5 yX5_filled yX5_filled, Cond.code yX5_filled cX5_filled 3 (some .boolean), Cond.methodLink RX5 110 yX5_wordOf, Cond.instanceMethod yX5_wordOf, Cond.selects RX5 yX5_wordOf yX5_wordOf, Cond.code yX5_wordOf cX5_wordOf 4 (some .int)]
def wsX5_col : List Cond := .code yX5_col cX5_col 3 (some .int) :: ((wsX5_col_r1 ++ wsX5_col_r2) ++ wsX50)
def wsX5_closeScan : List Cond := .code yX5_closeScan cX5_closeScan 2 (some .int) :: ([.fieldLink RX5 51 "JournaledTablesModel" "off" "Z", .fieldLink RX5 38 "JournaledTablesModel" "used" "[Z", .methodLink RX5 134 yX5_noScan, .instanceMethod yX5_noScan, .selects RX5 yX5_noScan yX5_noScan, .initialized RX5, .code yX5_noScan cX5_noScan 2 (some .boolean)] ++ wsX50)
def wsL_law_r1 : List Cond := [Cond.classLink RL 7 RX4, Cond.instantiable RX4 6, Cond.initialized RX4, Cond.classLink RL 10 RX5, Cond.instantiable RX5 18, Cond.initialized RX5, Cond.methodLink RL 9 yX4_init, Cond.instanceMethod yX4_init, Cond.code yX4_init cX4_init 2 none, Cond.methodLink RX4 1 objectInit, Cond.instanceMethod objectInit, Cond.code objectInit ⟨#[0xb1]⟩ 1 none, Cond.classLink RX4 7 RX0, Cond.instantiable RX0 4, Cond.initialized RX0, Cond.fieldLink RX4 10 "JournaledTables" "disk" "LJournaledTables$Disk;", Cond.classLink RX4 16 RX2, Cond.instantiable RX2 1, Cond.initialized RX2, Cond.fieldLink RX4 19 "JournaledTables" "memory" "LJournaledTables$Memory;", Cond.classLink RX4 23 RX1, Cond.instantiable RX1 3, Cond.initialized RX1, Cond.fieldLink RX4 28 "JournaledTables" "journal" "LJournaledTables$Journal;"]
def wsL_law_r2 : List Cond := [Cond.classLink RX4 32 RX3, Cond.fieldLink RX4 34 "JournaledTables" "scans" "[LJournaledTables$Scan;", Cond.instantiable RX3 8, Cond.initialized RX3, Cond.arrayClass .int, Cond.fieldLink RX4 39 "JournaledTables" "staged" "[I", Cond.fieldLink RX4 43 "JournaledTables" "inTransaction" "Z", Cond.instanceMethod yX0_init, Cond.code yX0_init cX0_init 1 none, Cond.methodLink RX0 3 objectInit, Cond.fieldLink RX0 9 "JournaledTables$Disk" "words" "[I", Cond.fieldLink RX0 15 "JournaledTables$Disk" "powered" "Z", Cond.fieldLink RX0 19 "JournaledTables$Disk" "writesLeft" "I", Cond.fieldLink RX0 23 "JournaledTables$Disk" "writesDone" "I", Cond.instanceMethod yX2_init, Cond.code yX2_init cX2_init 1 none, Cond.methodLink RX2 3 objectInit, Cond.fieldLink RX2 9 "JournaledTables$Memory" "words" "[I", Cond.methodLink RX4 25 yX1_init, Cond.instanceMethod yX1_init, Cond.code yX1_init cX1_init 3 none, Cond.methodLink RX1 3 objectInit, Cond.fieldLink RX1 9 "JournaledTables$Journal" "head" "[I", Cond.fieldLink RX1 15 "JournaledTables$Journal" "disk" "LJournaledTables$Disk;"]
def wsL_law_r3 : List Cond := [Cond.fieldLink RX1 19 "JournaledTables$Journal" "memory" "LJournaledTables$Memory;", Cond.instanceMethod yX3_init, Cond.code yX3_init cX3_init 1 none, Cond.methodLink RX3 5 objectInit, Cond.fieldLink RX3 11 "JournaledTables$Scan" "open" "Z", Cond.fieldLink RX3 17 "JournaledTables$Scan" "isVoid" "Z", Cond.fieldLink RX3 20 "JournaledTables$Scan" "table" "I", Cond.fieldLink RX3 24 "JournaledTables$Scan" "col" "I", Cond.fieldLink RX3 27 "JournaledTables$Scan" "lo" "I", Cond.fieldLink RX3 30 "JournaledTables$Scan" "hi" "I", Cond.constantLong RX3 33 (-2147483649), Cond.fieldLink RX3 35 "JournaledTables$Scan" "passedKey" "J", Cond.fieldLink RX3 39 "JournaledTables$Scan" "row" "I", Cond.methodLink RL 12 yX5_init, Cond.instanceMethod yX5_init, Cond.code yX5_init cX5_init 1 none, Cond.methodLink RX5 1 objectInit, Cond.fieldLink RX5 7 "JournaledTablesModel" "disk" "[I", Cond.fieldLink RX5 13 "JournaledTablesModel" "memory" "[I", Cond.fieldLink RX5 16 "JournaledTablesModel" "work" "[I", Cond.fieldLink RX5 19 "JournaledTablesModel" "staged" "[I", Cond.fieldLink RX5 22 "JournaledTablesModel" "crash" "I", Cond.fieldLink RX5 26 "JournaledTablesModel" "tables" "[I", Cond.fieldLink RX5 29 "JournaledTablesModel" "columns" "[I"]
def wsL_law_r4 : List Cond := [Cond.fieldLink RX5 32 "JournaledTablesModel" "lows" "[I", Cond.fieldLink RX5 35 "JournaledTablesModel" "highs" "[I", Cond.arrayClass .boolean, Cond.fieldLink RX5 38 "JournaledTablesModel" "used" "[Z", Cond.fieldLink RX5 42 "JournaledTablesModel" "dead" "[Z", Cond.fieldLink RX5 45 "JournaledTablesModel" "states" "[I", Cond.fieldLink RX5 48 "JournaledTablesModel" "keys" "[I", Cond.methodLink RL 13 yX4_format, Cond.instanceMethod yX4_format, Cond.selects RX4 yX4_format yX4_format, Cond.code yX4_format cX4_format 1 (some .int), Cond.methodLink RX4 47 yX0_wipe, Cond.instanceMethod yX0_wipe, Cond.selects RX0 yX0_wipe yX0_wipe, Cond.code yX0_wipe cX0_wipe 2 none, Cond.methodLink RX4 50 yX4_startAnew, Cond.instanceMethod yX4_startAnew, Cond.selects RX4 yX4_startAnew yX4_startAnew, Cond.code yX4_startAnew cX4_startAnew 2 none, Cond.methodLink RX4 82 yX2_load, Cond.instanceMethod yX2_load, Cond.selects RX2 yX2_load yX2_load, Cond.code yX2_load cX2_load 2 none, Cond.methodLink RX2 18 arraycopyName]
def wsL_law_r5 : List Cond := [Cond.native arraycopyName, Cond.static arraycopyName, Cond.initialized "java/lang/System", Cond.methodLink RX4 136 yX3_end, Cond.instanceMethod yX3_end, Cond.selects RX3 yX3_end yX3_end, Cond.code yX3_end cX3_end 1 none, Cond.methodLink RL 17 yX5_format, Cond.instanceMethod yX5_format, Cond.selects RX5 yX5_format yX5_format, Cond.code yX5_format cX5_format 2 (some .int), Cond.fieldLink RX5 51 "JournaledTablesModel" "off" "Z", Cond.methodLink RX5 91 yX5_copyBack, Cond.instanceMethod yX5_copyBack, Cond.selects RX5 yX5_copyBack yX5_copyBack, Cond.code yX5_copyBack cX5_copyBack 2 none, Cond.fieldLink RX5 66 "JournaledTablesModel" "open" "Z", Cond.methodLink RL 18 yX4_createTable, Cond.instanceMethod yX4_createTable, Cond.selects RX4 yX4_createTable yX4_createTable, Cond.code yX4_createTable cX4_createTable 3 (some .int), Cond.methodLink RX4 53 yX0_powered, Cond.instanceMethod yX0_powered, Cond.selects RX0 yX0_powered yX0_powered]
def wsL_law_r6 : List Cond := [Cond.code yX0_powered cX0_powered 1 (some .boolean), Cond.methodLink RX4 57 yX2_freeTable, Cond.instanceMethod yX2_freeTable, Cond.selects RX2 yX2_freeTable yX2_freeTable, Cond.code yX2_freeTable cX2_freeTable 2 (some .int), Cond.methodLink RX4 61 yX2_addTable, Cond.instanceMethod yX2_addTable, Cond.selects RX2 yX2_addTable yX2_addTable, Cond.code yX2_addTable cX2_addTable 3 none, Cond.methodLink RL 22 yX5_createTable, Cond.instanceMethod yX5_createTable, Cond.selects RX5 yX5_createTable yX5_createTable, Cond.code yX5_createTable cX5_createTable 3 (some .int), Cond.methodLink RL 23 yX4_dropTable, Cond.instanceMethod yX4_dropTable, Cond.selects RX4 yX4_dropTable yX4_dropTable, Cond.code yX4_dropTable cX4_dropTable 3 (some .int), Cond.methodLink RX4 65 yX4_refusalOfChange, Cond.instanceMethod yX4_refusalOfChange, Cond.selects RX4 yX4_refusalOfChange yX4_refusalOfChange, Cond.code yX4_refusalOfChange cX4_refusalOfChange 3 (some .int), Cond.methodLink RX4 76 yX4_refusalOutsideTransaction, Cond.instanceMethod yX4_refusalOutsideTransaction, Cond.selects RX4 yX4_refusalOutsideTransaction yX4_refusalOutsideTransaction]
def wsL_law_r7 : List Cond := [Cond.code yX4_refusalOutsideTransaction cX4_refusalOutsideTransaction 1 (some .int), Cond.methodLink RX4 110 yX2_hasTable, Cond.instanceMethod yX2_hasTable, Cond.selects RX2 yX2_hasTable yX2_hasTable, Cond.code yX2_hasTable cX2_hasTable 2 (some .boolean), Cond.methodLink RX4 69 yX2_removeTable, Cond.instanceMethod yX2_removeTable, Cond.selects RX2 yX2_removeTable yX2_removeTable, Cond.code yX2_removeTable cX2_removeTable 3 none, Cond.methodLink RX2 36 yX2_isPageOf, Cond.instanceMethod yX2_isPageOf, Cond.selects RX2 yX2_isPageOf yX2_isPageOf, Cond.code yX2_isPageOf cX2_isPageOf 3 (some .boolean), Cond.methodLink RX2 40 yX2_clear, Cond.instanceMethod yX2_clear, Cond.selects RX2 yX2_clear yX2_clear, Cond.code yX2_clear cX2_clear 4 none, Cond.methodLink RX4 73 yX4_voidScansOf, Cond.instanceMethod yX4_voidScansOf, Cond.selects RX4 yX4_voidScansOf yX4_voidScansOf, Cond.code yX4_voidScansOf cX4_voidScansOf 3 none, Cond.methodLink RX4 153 yX3_tableChanged, Cond.instanceMethod yX3_tableChanged, Cond.selects RX3 yX3_tableChanged yX3_tableChanged]
def wsL_law_r8 : List Cond := [Cond.code yX3_tableChanged cX3_tableChanged 2 none, Cond.methodLink RL 26 yX5_dropTable, Cond.instanceMethod yX5_dropTable, Cond.selects RX5 yX5_dropTable yX5_dropTable, Cond.code yX5_dropTable cX5_dropTable 3 (some .int), Cond.methodLink RX5 94 yX5_noTable, Cond.instanceMethod yX5_noTable, Cond.selects RX5 yX5_noTable yX5_noTable, Cond.code yX5_noTable cX5_noTable 2 (some .boolean), Cond.methodLink RX5 97 yX5_clearPage, Cond.instanceMethod yX5_clearPage, Cond.selects RX5 yX5_clearPage yX5_clearPage, Cond.code yX5_clearPage cX5_clearPage 3 none, Cond.methodLink RX5 101 yX5_change, Cond.instanceMethod yX5_change, Cond.selects RX5 yX5_change yX5_change, Cond.code yX5_change cX5_change 3 none, Cond.methodLink RL 27 yX4_begin, Cond.instanceMethod yX4_begin, Cond.selects RX4 yX4_begin yX4_begin, Cond.code yX4_begin cX4_begin 1 (some .int), Cond.methodLink RL 30 yX5_begin, Cond.instanceMethod yX5_begin, Cond.selects RX5 yX5_begin yX5_begin]
def wsL_law_r9 : List Cond := [Cond.code yX5_begin cX5_begin 1 (some .int), Cond.methodLink RL 31 yX4_commit, Cond.instanceMethod yX4_commit, Cond.selects RX4 yX4_commit yX4_commit, Cond.code yX4_commit cX4_commit 2 (some .int), Cond.methodLink RX4 79 yX1_carryOut, Cond.instanceMethod yX1_carryOut, Cond.selects RX1 yX1_carryOut yX1_carryOut, Cond.code yX1_carryOut cX1_carryOut 2 (some .boolean), Cond.methodLink RX1 23 yX1_changedBlocks, Cond.instanceMethod yX1_changedBlocks, Cond.selects RX1 yX1_changedBlocks yX1_changedBlocks, Cond.code yX1_changedBlocks cX1_changedBlocks 3 (some .int), Cond.methodLink RX1 47 yX2_differs, Cond.instanceMethod yX2_differs, Cond.selects RX2 yX2_differs yX2_differs, Cond.code yX2_differs cX2_differs 5 (some .boolean), Cond.methodLink RX1 27 yX1_keepImages, Cond.instanceMethod yX1_keepImages, Cond.selects RX1 yX1_keepImages yX1_keepImages, Cond.code yX1_keepImages cX1_keepImages 3 (some .boolean), Cond.methodLink RX1 53 yX1_contains, Cond.static yX1_contains, Cond.code yX1_contains cX1_contains 2 (some .boolean)]
def wsL_law_r10 : List Cond := [Cond.methodLink RX1 57 yX1_imageOf, Cond.static yX1_imageOf, Cond.code yX1_imageOf cX1_imageOf 2 (some .int), Cond.methodLink RX1 66 yJ6_bitCount_0f7a4, Cond.static yJ6_bitCount_0f7a4, Cond.initialized RJ6, Cond.code yJ6_bitCount_0f7a4 cJ6_bitCount_0f7a4 1 (some .int), Cond.constant RJ6 265 (1431655765), Cond.constant RJ6 266 (858993459), Cond.constant RJ6 267 (252645135), Cond.methodLink RX1 61 yX0_copyBlock, Cond.instanceMethod yX0_copyBlock, Cond.selects RX0 yX0_copyBlock yX0_copyBlock, Cond.code yX0_copyBlock cX0_copyBlock 3 (some .boolean), Cond.methodLink RX0 32 yX0_write, Cond.instanceMethod yX0_write, Cond.selects RX0 yX0_write yX0_write, Cond.code yX0_write cX0_write 4 (some .boolean), Cond.methodLink RX0 26 arraycopyName, Cond.methodLink RX1 31 yX1_writeHead, Cond.instanceMethod yX1_writeHead, Cond.selects RX1 yX1_writeHead yX1_writeHead, Cond.code yX1_writeHead cX1_writeHead 3 (some .boolean), Cond.methodLink RX1 72 yX1_checkOfImages]
def wsL_law_r11 : List Cond := [Cond.instanceMethod yX1_checkOfImages, Cond.selects RX1 yX1_checkOfImages yX1_checkOfImages, Cond.code yX1_checkOfImages cX1_checkOfImages 5 (some .int), Cond.methodLink RX1 82 yX0_word, Cond.instanceMethod yX0_word, Cond.selects RX0 yX0_word yX0_word, Cond.code yX0_word cX0_word 3 (some .int), Cond.methodLink RX1 75 yX0_write, Cond.methodLink RX1 34 yX1_saveBlocks, Cond.instanceMethod yX1_saveBlocks, Cond.selects RX1 yX1_saveBlocks yX1_saveBlocks, Cond.code yX1_saveBlocks cX1_saveBlocks 3 (some .boolean), Cond.methodLink RX1 79 yX2_save, Cond.instanceMethod yX2_save, Cond.selects RX2 yX2_save yX2_save, Cond.code yX2_save cX2_save 3 (some .boolean), Cond.methodLink RX2 24 yX0_write, Cond.methodLink RX1 37 yX1_clearHead, Cond.instanceMethod yX1_clearHead, Cond.selects RX1 yX1_clearHead yX1_clearHead, Cond.code yX1_clearHead cX1_clearHead 2 (some .boolean), Cond.methodLink RL 34 yX5_commit, Cond.instanceMethod yX5_commit, Cond.selects RX5 yX5_commit yX5_commit]
def wsL_law_r12 : List Cond := [Cond.code yX5_commit cX5_commit 5 (some .int), Cond.methodLink RX5 69 yX5_changed, Cond.instanceMethod yX5_changed, Cond.selects RX5 yX5_changed yX5_changed, Cond.code yX5_changed cX5_changed 3 (some .int), Cond.methodLink RX5 73 yX5_putFromDisk, Cond.instanceMethod yX5_putFromDisk, Cond.selects RX5 yX5_putFromDisk yX5_putFromDisk, Cond.code yX5_putFromDisk cX5_putFromDisk 4 (some .boolean), Cond.methodLink RX5 58 yX5_put, Cond.instanceMethod yX5_put, Cond.selects RX5 yX5_put yX5_put, Cond.code yX5_put cX5_put 3 (some .boolean), Cond.fieldLink RX5 55 "JournaledTablesModel" "writes" "I", Cond.methodLink RX5 77 yX5_putHead, Cond.instanceMethod yX5_putHead, Cond.selects RX5 yX5_putHead yX5_putHead, Cond.code yX5_putHead cX5_putHead 4 (some .boolean), Cond.methodLink RX5 62 yX5_check, Cond.instanceMethod yX5_check, Cond.selects RX5 yX5_check yX5_check, Cond.code yX5_check cX5_check 4 (some .int), Cond.methodLink RX5 80 yX5_putFromMemory, Cond.instanceMethod yX5_putFromMemory]
def wsL_law_r13 : List Cond := [Cond.selects RX5 yX5_putFromMemory yX5_putFromMemory, Cond.code yX5_putFromMemory cX5_putFromMemory 3 (some .boolean), Cond.methodLink RL 35 yX4_rollback, Cond.instanceMethod yX4_rollback, Cond.selects RX4 yX4_rollback yX4_rollback, Cond.code yX4_rollback cX4_rollback 3 (some .int), Cond.methodLink RL 38 yX5_rollback, Cond.instanceMethod yX5_rollback, Cond.selects RX5 yX5_rollback yX5_rollback, Cond.code yX5_rollback cX5_rollback 2 (some .int), Cond.methodLink RL 39 yX4_stage, Cond.instanceMethod yX4_stage, Cond.selects RX4 yX4_stage yX4_stage, Cond.code yX4_stage cX4_stage 3 (some .int), Cond.methodLink RL 43 yX5_stage, Cond.instanceMethod yX5_stage, Cond.selects RX5 yX5_stage yX5_stage, Cond.code yX5_stage cX5_stage 3 (some .int), Cond.methodLink RL 44 yX4_insert, Cond.instanceMethod yX4_insert, Cond.selects RX4 yX4_insert yX4_insert, Cond.code yX4_insert cX4_insert 3 (some .int), Cond.methodLink RX4 86 yX2_rowOf, Cond.instanceMethod yX2_rowOf]
def wsL_law_r14 : List Cond := [Cond.selects RX2 yX2_rowOf yX2_rowOf, Cond.code yX2_rowOf cX2_rowOf 3 (some .int), Cond.methodLink RX2 44 yX2_leastRow, Cond.instanceMethod yX2_leastRow, Cond.selects RX2 yX2_leastRow yX2_leastRow, Cond.code yX2_leastRow cX2_leastRow 14 (some .int), Cond.methodLink RX2 48 yX2_slots, Cond.instanceMethod yX2_slots, Cond.selects RX2 yX2_slots yX2_slots, Cond.code yX2_slots cX2_slots 3 (some .int), Cond.methodLink RX2 32 yX2_width, Cond.instanceMethod yX2_width, Cond.selects RX2 yX2_width yX2_width, Cond.code yX2_width cX2_width 2 (some .int), Cond.methodLink RX2 28 yX2_hasTable, Cond.methodLink RX2 51 yX2_rowAt, Cond.instanceMethod yX2_rowAt, Cond.selects RX2 yX2_rowAt yX2_rowAt, Cond.code yX2_rowAt cX2_rowAt 4 (some .int), Cond.methodLink RX2 55 yX2_hasRow, Cond.instanceMethod yX2_hasRow, Cond.selects RX2 yX2_hasRow yX2_hasRow, Cond.code yX2_hasRow cX2_hasRow 3 (some .boolean), Cond.methodLink RX4 90 yX2_addRow]
def wsL_law_r15 : List Cond := [Cond.instanceMethod yX2_addRow, Cond.selects RX2 yX2_addRow yX2_addRow, Cond.code yX2_addRow cX2_addRow 4 (some .boolean), Cond.methodLink RX2 63 yX2_pageWithRoom, Cond.instanceMethod yX2_pageWithRoom, Cond.selects RX2 yX2_pageWithRoom yX2_pageWithRoom, Cond.code yX2_pageWithRoom cX2_pageWithRoom 4 (some .int), Cond.methodLink RX2 66 yX2_freeSlot, Cond.instanceMethod yX2_freeSlot, Cond.selects RX2 yX2_freeSlot yX2_freeSlot, Cond.code yX2_freeSlot cX2_freeSlot 4 (some .int), Cond.methodLink RX2 70 yX2_putRow, Cond.instanceMethod yX2_putRow, Cond.selects RX2 yX2_putRow yX2_putRow, Cond.code yX2_putRow cX2_putRow 5 none, Cond.methodLink RX2 74 yX2_freePage, Cond.instanceMethod yX2_freePage, Cond.selects RX2 yX2_freePage yX2_freePage, Cond.code yX2_freePage cX2_freePage 2 (some .int), Cond.methodLink RX2 78 yX2_linkTo, Cond.instanceMethod yX2_linkTo, Cond.selects RX2 yX2_linkTo yX2_linkTo, Cond.code yX2_linkTo cX2_linkTo 5 (some .int), Cond.methodLink RL 47 yX5_insert]
def wsL_law_r16 : List Cond := [Cond.instanceMethod yX5_insert, Cond.selects RX5 yX5_insert yX5_insert, Cond.code yX5_insert cX5_insert 5 (some .int), Cond.methodLink RX5 120 yX5_seek, Cond.instanceMethod yX5_seek, Cond.selects RX5 yX5_seek yX5_seek, Cond.code yX5_seek cX5_seek 5 (some .int), Cond.fieldLink RX5 114 "JournaledTablesModel" "foundPage" "I", Cond.fieldLink RX5 117 "JournaledTablesModel" "foundSlot" "I", Cond.methodLink RX5 104 yX5_slots, Cond.instanceMethod yX5_slots, Cond.selects RX5 yX5_slots yX5_slots, Cond.code yX5_slots cX5_slots 2 (some .int), Cond.methodLink RX5 107 yX5_filled, Cond.instanceMethod yX5_filled, Cond.selects RX5 yX5_filled yX5_filled, Cond.code yX5_filled cX5_filled 3 (some .boolean), Cond.methodLink RX5 110 yX5_wordOf, Cond.instanceMethod yX5_wordOf, Cond.selects RX5 yX5_wordOf yX5_wordOf, Cond.code yX5_wordOf cX5_wordOf 4 (some .int), Cond.methodLink RX5 124 yX5_lay, Cond.instanceMethod yX5_lay, Cond.selects RX5 yX5_lay yX5_lay]
def wsL_law_r17 : List Cond := [Cond.code yX5_lay cX5_lay 5 none, Cond.methodLink RX5 128 yX5_freePage, Cond.instanceMethod yX5_freePage, Cond.selects RX5 yX5_freePage yX5_freePage, Cond.code yX5_freePage cX5_freePage 2 (some .int), Cond.methodLink RL 48 yX4_deleteKey, Cond.instanceMethod yX4_deleteKey, Cond.selects RX4 yX4_deleteKey yX4_deleteKey, Cond.code yX4_deleteKey cX4_deleteKey 5 (some .int), Cond.methodLink RX4 94 yX2_removeRow, Cond.instanceMethod yX2_removeRow, Cond.selects RX2 yX2_removeRow yX2_removeRow, Cond.code yX2_removeRow cX2_removeRow 6 none, Cond.methodLink RL 51 yX5_deleteKey, Cond.instanceMethod yX5_deleteKey, Cond.selects RX5 yX5_deleteKey yX5_deleteKey, Cond.code yX5_deleteKey cX5_deleteKey 6 (some .int), Cond.methodLink RX5 131 yX5_leads, Cond.instanceMethod yX5_leads, Cond.selects RX5 yX5_leads yX5_leads, Cond.code yX5_leads cX5_leads 4 (some .int), Cond.methodLink RL 52 yX4_updateCol, Cond.instanceMethod yX4_updateCol, Cond.selects RX4 yX4_updateCol yX4_updateCol]
def wsL_law_r18 : List Cond := [Cond.code yX4_updateCol cX4_updateCol 7 (some .int), Cond.methodLink RX4 97 yX2_width, Cond.methodLink RX4 100 yX2_setWord, Cond.instanceMethod yX2_setWord, Cond.selects RX2 yX2_setWord yX2_setWord, Cond.code yX2_setWord cX2_setWord 3 none, Cond.methodLink RL 56 yX5_updateCol, Cond.instanceMethod yX5_updateCol, Cond.selects RX5 yX5_updateCol yX5_updateCol, Cond.code yX5_updateCol cX5_updateCol 6 (some .int), Cond.methodLink RL 57 yX4_lookup, Cond.instanceMethod yX4_lookup, Cond.selects RX4 yX4_lookup yX4_lookup, Cond.code yX4_lookup cX4_lookup 5 (some .int), Cond.methodLink RX4 103 yX2_hasCol, Cond.instanceMethod yX2_hasCol, Cond.selects RX2 yX2_hasCol yX2_hasCol, Cond.code yX2_hasCol cX2_hasCol 3 (some .boolean), Cond.methodLink RX4 107 yX2_word, Cond.instanceMethod yX2_word, Cond.selects RX2 yX2_word yX2_word, Cond.code yX2_word cX2_word 2 (some .int), Cond.methodLink RL 61 yX5_lookup, Cond.instanceMethod yX5_lookup]
def wsL_law_r19 : List Cond := [Cond.selects RX5 yX5_lookup yX5_lookup, Cond.code yX5_lookup cX5_lookup 5 (some .int), Cond.methodLink RL 62 yX4_has, Cond.instanceMethod yX4_has, Cond.selects RX4 yX4_has yX4_has, Cond.code yX4_has cX4_has 3 (some .boolean), Cond.methodLink RL 66 yX5_has, Cond.instanceMethod yX5_has, Cond.selects RX5 yX5_has yX5_has, Cond.code yX5_has cX5_has 3 (some .boolean), Cond.methodLink RL 67 yX4_count, Cond.instanceMethod yX4_count, Cond.selects RX4 yX4_count yX4_count, Cond.code yX4_count cX4_count 2 (some .int), Cond.methodLink RX4 114 yX2_rowsOf, Cond.instanceMethod yX2_rowsOf, Cond.selects RX2 yX2_rowsOf yX2_rowsOf, Cond.code yX2_rowsOf cX2_rowsOf 4 (some .int), Cond.methodLink RX2 58 yJ6_bitCount_0f7a4, Cond.methodLink RL 70 yX5_count, Cond.instanceMethod yX5_count, Cond.selects RX5 yX5_count yX5_count, Cond.code yX5_count cX5_count 4 (some .int), Cond.methodLink RX5 84 yX5_bits]
def wsL_law_r20 : List Cond := [Cond.static yX5_bits, Cond.code yX5_bits cX5_bits 3 (some .int), Cond.methodLink RL 71 yX4_openScan, Cond.instanceMethod yX4_openScan, Cond.selects RX4 yX4_openScan yX4_openScan, Cond.code yX4_openScan cX4_openScan 6 (some .int), Cond.methodLink RX4 117 yX4_scanOf, Cond.instanceMethod yX4_scanOf, Cond.selects RX4 yX4_scanOf yX4_scanOf, Cond.code yX4_scanOf cX4_scanOf 2 (some (.object "JournaledTables$Scan")), Cond.methodLink RX4 156 yX3_isOpen, Cond.instanceMethod yX3_isOpen, Cond.selects RX3 yX3_isOpen yX3_isOpen, Cond.code yX3_isOpen cX3_isOpen 1 (some .boolean), Cond.methodLink RX4 121 yX3_start, Cond.instanceMethod yX3_start, Cond.selects RX3 yX3_start yX3_start, Cond.code yX3_start cX3_start 5 none, Cond.methodLink RL 74 yX5_openScan, Cond.instanceMethod yX5_openScan, Cond.selects RX5 yX5_openScan yX5_openScan, Cond.code yX5_openScan cX5_openScan 6 (some .int), Cond.methodLink RL 75 yX4_next, Cond.instanceMethod yX4_next]
def wsL_law_r21 : List Cond := [Cond.selects RX4 yX4_next yX4_next, Cond.code yX4_next cX4_next 3 (some .boolean), Cond.methodLink RX4 125 yX4_usableScan, Cond.instanceMethod yX4_usableScan, Cond.selects RX4 yX4_usableScan yX4_usableScan, Cond.code yX4_usableScan cX4_usableScan 3 (some (.object "JournaledTables$Scan")), Cond.methodLink RX4 159 yX3_isVoid, Cond.instanceMethod yX3_isVoid, Cond.selects RX3 yX3_isVoid yX3_isVoid, Cond.code yX3_isVoid cX3_isVoid 1 (some .boolean), Cond.methodLink RX4 128 yX3_move, Cond.instanceMethod yX3_move, Cond.selects RX3 yX3_move yX3_move, Cond.code yX3_move cX3_move 2 (some .boolean), Cond.methodLink RX3 42 yX2_leastRow, Cond.methodLink RX3 48 yX2_word, Cond.methodLink RL 79 yX5_next, Cond.instanceMethod yX5_next, Cond.selects RX5 yX5_next yX5_next, Cond.code yX5_next cX5_next 3 (some .boolean), Cond.methodLink RX5 134 yX5_noScan, Cond.instanceMethod yX5_noScan, Cond.selects RX5 yX5_noScan yX5_noScan, Cond.code yX5_noScan cX5_noScan 2 (some .boolean)]
def wsL_law_r22 : List Cond := [Cond.methodLink RX5 137 yX5_seekNext, Cond.instanceMethod yX5_seekNext, Cond.selects RX5 yX5_seekNext yX5_seekNext, Cond.code yX5_seekNext cX5_seekNext 10 (some .boolean), Cond.methodLink RL 80 yX4_col, Cond.instanceMethod yX4_col, Cond.selects RX4 yX4_col yX4_col, Cond.code yX4_col cX4_col 4 (some .int), Cond.methodLink RX4 132 yX3_wordAt, Cond.instanceMethod yX3_wordAt, Cond.selects RX3 yX3_wordAt yX3_wordAt, Cond.code yX3_wordAt cX3_wordAt 3 (some .int), Cond.methodLink RX3 52 yX2_hasCol, Cond.methodLink RL 83 yX5_col, Cond.instanceMethod yX5_col, Cond.selects RX5 yX5_col yX5_col, Cond.code yX5_col cX5_col 3 (some .int), Cond.methodLink RL 84 yX4_closeScan, Cond.instanceMethod yX4_closeScan, Cond.selects RX4 yX4_closeScan yX4_closeScan, Cond.code yX4_closeScan cX4_closeScan 3 (some .int), Cond.methodLink RL 87 yX5_closeScan, Cond.instanceMethod yX5_closeScan, Cond.selects RX5 yX5_closeScan yX5_closeScan]
def wsL_law_r23 : List Cond := [Cond.code yX5_closeScan cX5_closeScan 2 (some .int), Cond.methodLink RL 88 yX4_crashAfter, Cond.instanceMethod yX4_crashAfter, Cond.selects RX4 yX4_crashAfter yX4_crashAfter, Cond.code yX4_crashAfter cX4_crashAfter 2 (some .int), Cond.methodLink RX4 139 yX0_failAfter, Cond.instanceMethod yX0_failAfter, Cond.selects RX0 yX0_failAfter yX0_failAfter, Cond.code yX0_failAfter cX0_failAfter 2 none, Cond.methodLink RL 91 yX5_crashAfter, Cond.instanceMethod yX5_crashAfter, Cond.selects RX5 yX5_crashAfter yX5_crashAfter, Cond.code yX5_crashAfter cX5_crashAfter 2 (some .int), Cond.methodLink RL 92 yX4_recover, Cond.instanceMethod yX4_recover, Cond.selects RX4 yX4_recover yX4_recover, Cond.code yX4_recover cX4_recover 1 (some .int), Cond.methodLink RX4 142 yX0_powerOn, Cond.instanceMethod yX0_powerOn, Cond.selects RX0 yX0_powerOn yX0_powerOn, Cond.code yX0_powerOn cX0_powerOn 1 none, Cond.methodLink RX4 145 yX1_undo, Cond.instanceMethod yX1_undo, Cond.selects RX1 yX1_undo yX1_undo]
def wsL_law_r24 : List Cond := [Cond.code yX1_undo cX1_undo 2 (some .boolean), Cond.methodLink RX1 41 yX1_blocksToUndo, Cond.instanceMethod yX1_blocksToUndo, Cond.selects RX1 yX1_blocksToUndo yX1_blocksToUndo, Cond.code yX1_blocksToUndo cX1_blocksToUndo 4 (some .int), Cond.methodLink RX1 44 yX1_restoreBlocks, Cond.instanceMethod yX1_restoreBlocks, Cond.selects RX1 yX1_restoreBlocks yX1_restoreBlocks, Cond.code yX1_restoreBlocks cX1_restoreBlocks 3 (some .boolean), Cond.methodLink RL 95 yX5_recover, Cond.instanceMethod yX5_recover, Cond.selects RX5 yX5_recover yX5_recover, Cond.code yX5_recover cX5_recover 5 (some .int), Cond.methodLink RX5 87 yX5_isHead, Cond.instanceMethod yX5_isHead, Cond.selects RX5 yX5_isHead yX5_isHead, Cond.code yX5_isHead cX5_isHead 4 (some .boolean), Cond.constant RX5 83 (65536), Cond.methodLink RL 96 yX4_peek, Cond.instanceMethod yX4_peek, Cond.selects RX4 yX4_peek yX4_peek, Cond.code yX4_peek cX4_peek 3 (some .int), Cond.methodLink RX4 148 yX0_word, Cond.methodLink RL 99 yX5_peek]
def wsL_law_r25 : List Cond := [Cond.instanceMethod yX5_peek, Cond.selects RX5 yX5_peek yX5_peek, Cond.code yX5_peek cX5_peek 3 (some .int), Cond.methodLink RL 100 yX4_writes, Cond.instanceMethod yX4_writes, Cond.selects RX4 yX4_writes yX4_writes, Cond.code yX4_writes cX4_writes 1 (some .int), Cond.methodLink RX4 150 yX0_writesDone, Cond.instanceMethod yX0_writesDone, Cond.selects RX0 yX0_writesDone yX0_writesDone, Cond.code yX0_writesDone cX0_writesDone 1 (some .int), Cond.methodLink RL 103 yX5_writes, Cond.instanceMethod yX5_writes, Cond.selects RX5 yX5_writes yX5_writes, Cond.code yX5_writes cX5_writes 1 (some .int)]
def wsL_law : List Cond := (wsL_law_r1 ++ (wsL_law_r2 ++ (wsL_law_r3 ++ (wsL_law_r4 ++ (wsL_law_r5 ++ (wsL_law_r6 ++ (wsL_law_r7 ++ (wsL_law_r8 ++ (wsL_law_r9 ++ (wsL_law_r10 ++ (wsL_law_r11 ++ (wsL_law_r12 ++ (wsL_law_r13 ++ (wsL_law_r14 ++ (wsL_law_r15 ++ (wsL_law_r16 ++ (wsL_law_r17 ++ (wsL_law_r18 ++ (wsL_law_r19 ++ (wsL_law_r20 ++ (wsL_law_r21 ++ (wsL_law_r22 ++ (wsL_law_r23 ++ (wsL_law_r24 ++ wsL_law_r25)))))))))))))))))))))))) ++ wsX40 ++ wsX50 ++ wsX00 ++ wsX20 ++ wsX10 ++ wsX30 ++ ([] : List Cond)
set_option maxRecDepth 20000 in
theorem sub_r {big : List Cond} (ws : List Cond) (ps : List Nat) (hp : ws = ps.filterMap (fun i => big[i]?)) : ∀ w ∈ ws, w ∈ big := fun w hw => by
  rw [hp] at hw
  obtain ⟨i, -, hi⟩ := List.mem_filterMap.mp hw
  exact List.mem_of_getElem? hi
set_option maxRecDepth 20000 in
theorem lwi_1 : ∀ w ∈ wsL_law_r1, w ∈ lw_tbl := sub_r _ [53, 54, 45, 497, 498, 50, 55, 56, 57, 58, 59, 60, 61, 62, 46, 141, 82, 83, 47, 142, 92, 93, 48, 143] (by decide +kernel)
set_option maxRecDepth 20000 in
theorem lwi_2 : ∀ w ∈ wsL_law_r2, w ∈ lw_tbl := sub_r _ [108, 144, 110, 49, 81, 145, 146, 64, 65, 66, 67, 69, 70, 71, 85, 86, 87, 88, 94, 95, 96, 97, 100, 98] (by decide +kernel)
set_option maxRecDepth 20000 in
theorem lwi_3 : ∀ w ∈ wsL_law_r3, w ∈ lw_tbl := sub_r _ [99, 112, 113, 114, 116, 117, 118, 119, 120, 121, 115, 122, 123, 499, 500, 501, 502, 503, 504, 505, 506, 509, 511, 512] (by decide +kernel)
set_option maxRecDepth 20000 in
theorem lwi_4 : ∀ w ∈ wsL_law_r4, w ∈ lw_tbl := sub_r _ [513, 514, 558, 515, 516, 517, 518, 160, 161, 162, 163, 164, 165, 166, 167, 168, 170, 0, 171, 172, 173, 174, 175, 176] (by decide +kernel)
set_option maxRecDepth 20000 in
theorem lwi_5 : ∀ w ∈ wsL_law_r5, w ∈ lw_tbl := sub_r _ [178, 177, 51, 179, 180, 181, 182, 603, 604, 605, 606, 507, 599, 601, 31, 602, 508, 183, 184, 185, 186, 187, 188, 189] (by decide +kernel)
set_option maxRecDepth 20000 in
theorem lwi_6 : ∀ w ∈ wsL_law_r6, w ∈ lw_tbl := sub_r _ [190, 191, 192, 193, 194, 195, 196, 197, 198, 627, 628, 629, 630, 199, 200, 201, 202, 203, 205, 1, 206, 207, 209, 2] (by decide +kernel)
set_option maxRecDepth 20000 in
theorem lwi_7 : ∀ w ∈ wsL_law_r7, w ∈ lw_tbl := sub_r _ [210, 211, 212, 213, 214, 215, 216, 217, 218, 219, 221, 3, 222, 223, 225, 4, 226, 227, 229, 5, 230, 231, 232, 233] (by decide +kernel)
set_option maxRecDepth 20000 in
theorem lwi_8 : ∀ w ∈ wsL_law_r8, w ∈ lw_tbl := sub_r _ [234, 631, 632, 633, 634, 635, 637, 32, 638, 639, 641, 33, 642, 643, 645, 34, 646, 235, 236, 237, 238, 619, 620, 621] (by decide +kernel)
set_option maxRecDepth 20000 in
theorem lwi_9 : ∀ w ∈ wsL_law_r9, w ∈ lw_tbl := sub_r _ [622, 239, 240, 241, 242, 243, 244, 245, 246, 247, 249, 6, 250, 251, 252, 253, 254, 255, 257, 7, 258, 259, 260, 261] (by decide +kernel)
set_option maxRecDepth 20000 in
theorem lwi_10 : ∀ w ∈ wsL_law_r10, w ∈ lw_tbl := sub_r _ [262, 263, 264, 265, 266, 52, 267, 268, 269, 270, 271, 272, 273, 274, 275, 276, 277, 278, 279, 280, 282, 8, 283, 284] (by decide +kernel)
set_option maxRecDepth 20000 in
theorem lwi_11 : ∀ w ∈ wsL_law_r11, w ∈ lw_tbl := sub_r _ [286, 9, 287, 288, 289, 290, 291, 292, 293, 295, 10, 296, 297, 298, 299, 300, 301, 302, 304, 11, 305, 559, 560, 561] (by decide +kernel)
set_option maxRecDepth 20000 in
theorem lwi_12 : ∀ w ∈ wsL_law_r12, w ∈ lw_tbl := sub_r _ [562, 563, 565, 24, 566, 567, 569, 25, 570, 571, 573, 26, 574, 510, 575, 577, 27, 578, 579, 581, 28, 582, 583, 585] (by decide +kernel)
set_option maxRecDepth 20000 in
theorem lwi_13 : ∀ w ∈ wsL_law_r13, w ∈ lw_tbl := sub_r _ [29, 586, 306, 307, 308, 309, 623, 624, 625, 626, 310, 311, 312, 313, 647, 648, 649, 650, 314, 315, 316, 317, 318, 319] (by decide +kernel)
set_option maxRecDepth 20000 in
theorem lwi_14 : ∀ w ∈ wsL_law_r14, w ∈ lw_tbl := sub_r _ [320, 321, 322, 323, 324, 325, 326, 328, 12, 329, 330, 331, 332, 333, 334, 335, 337, 13, 338, 339, 341, 14, 342, 343] (by decide +kernel)
set_option maxRecDepth 20000 in
theorem lwi_15 : ∀ w ∈ wsL_law_r15, w ∈ lw_tbl := sub_r _ [344, 345, 346, 347, 349, 15, 350, 351, 353, 16, 354, 355, 357, 17, 358, 359, 361, 18, 362, 363, 365, 19, 366, 651] (by decide +kernel)
set_option maxRecDepth 20000 in
theorem lwi_16 : ∀ w ∈ wsL_law_r16, w ∈ lw_tbl := sub_r _ [652, 653, 654, 655, 657, 35, 658, 519, 520, 659, 661, 36, 662, 663, 665, 37, 666, 667, 669, 38, 670, 671, 673, 39] (by decide +kernel)
set_option maxRecDepth 20000 in
theorem lwi_17 : ∀ w ∈ wsL_law_r17, w ∈ lw_tbl := sub_r _ [674, 675, 677, 40, 678, 367, 368, 369, 370, 371, 372, 373, 374, 679, 680, 681, 682, 683, 685, 41, 686, 375, 376, 377] (by decide +kernel)
set_option maxRecDepth 20000 in
theorem lwi_18 : ∀ w ∈ wsL_law_r18, w ∈ lw_tbl := sub_r _ [378, 379, 380, 381, 382, 383, 687, 688, 689, 690, 384, 385, 386, 387, 388, 389, 390, 391, 392, 393, 394, 395, 691, 692] (by decide +kernel)
set_option maxRecDepth 20000 in
theorem lwi_19 : ∀ w ∈ wsL_law_r19, w ∈ lw_tbl := sub_r _ [693, 694, 396, 397, 398, 399, 695, 696, 697, 698, 400, 401, 402, 403, 404, 405, 406, 407, 408, 699, 700, 701, 702, 596] (by decide +kernel)
set_option maxRecDepth 20000 in
theorem lwi_20 : ∀ w ∈ wsL_law_r20, w ∈ lw_tbl := sub_r _ [597, 598, 409, 410, 411, 412, 413, 415, 20, 416, 417, 418, 419, 420, 421, 422, 423, 424, 703, 704, 705, 706, 425, 426] (by decide +kernel)
set_option maxRecDepth 20000 in
theorem lwi_21 : ∀ w ∈ wsL_law_r21, w ∈ lw_tbl := sub_r _ [427, 428, 429, 431, 21, 432, 433, 434, 435, 436, 437, 438, 439, 440, 441, 442, 707, 708, 709, 710, 711, 713, 42, 714] (by decide +kernel)
set_option maxRecDepth 20000 in
theorem lwi_22 : ∀ w ∈ wsL_law_r22, w ∈ lw_tbl := sub_r _ [715, 717, 43, 718, 443, 444, 445, 446, 447, 448, 449, 450, 451, 719, 720, 721, 722, 452, 453, 454, 455, 723, 724, 725] (by decide +kernel)
set_option maxRecDepth 20000 in
theorem lwi_23 : ∀ w ∈ wsL_law_r23, w ∈ lw_tbl := sub_r _ [726, 456, 457, 458, 459, 460, 461, 462, 463, 607, 608, 609, 610, 464, 465, 466, 467, 468, 469, 470, 471, 472, 473, 474] (by decide +kernel)
set_option maxRecDepth 20000 in
theorem lwi_24 : ∀ w ∈ wsL_law_r24, w ∈ lw_tbl := sub_r _ [475, 476, 478, 22, 479, 480, 482, 23, 483, 587, 588, 589, 590, 591, 593, 30, 594, 595, 484, 485, 486, 487, 488, 611] (by decide +kernel)
set_option maxRecDepth 20000 in
theorem lwi_25 : ∀ w ∈ wsL_law_r25, w ∈ lw_tbl := sub_r _ [612, 613, 614, 489, 490, 491, 492, 493, 494, 495, 496, 615, 616, 617, 618] (by decide +kernel)
set_option maxRecDepth 20000 in
theorem lwi_X4 : ∀ w ∈ wsX40, w ∈ lw_tbl := sub_r _ [147, 149, 151, 153, 155, 157] (by decide +kernel)
set_option maxRecDepth 20000 in
theorem lwi_X5 : ∀ w ∈ wsX50, w ∈ lw_tbl := sub_r _ [521, 523, 525, 527, 529, 531, 533, 535, 537, 539, 541, 543, 545, 547, 549, 551, 553, 555] (by decide +kernel)
set_option maxRecDepth 20000 in
theorem lwi_X0 : ∀ w ∈ wsX00, w ∈ lw_tbl := sub_r _ [72, 74, 76, 78] (by decide +kernel)
set_option maxRecDepth 20000 in
theorem lwi_X2 : ∀ w ∈ wsX20, w ∈ lw_tbl := sub_r _ [89] (by decide +kernel)
set_option maxRecDepth 20000 in
theorem lwi_X1 : ∀ w ∈ wsX10, w ∈ lw_tbl := sub_r _ [101, 103, 105] (by decide +kernel)
set_option maxRecDepth 20000 in
theorem lwi_X3 : ∀ w ∈ wsX30, w ∈ lw_tbl := sub_r _ [124, 126, 128, 130, 132, 134, 136, 138] (by decide +kernel)
theorem wsL_law_in : ∀ w ∈ wsL_law, w ∈ lw_tbl := by
  show ∀ w ∈ ((wsL_law_r1 ++ (wsL_law_r2 ++ (wsL_law_r3 ++ (wsL_law_r4 ++ (wsL_law_r5 ++ (wsL_law_r6 ++ (wsL_law_r7 ++ (wsL_law_r8 ++ (wsL_law_r9 ++ (wsL_law_r10 ++ (wsL_law_r11 ++ (wsL_law_r12 ++ (wsL_law_r13 ++ (wsL_law_r14 ++ (wsL_law_r15 ++ (wsL_law_r16 ++ (wsL_law_r17 ++ (wsL_law_r18 ++ (wsL_law_r19 ++ (wsL_law_r20 ++ (wsL_law_r21 ++ (wsL_law_r22 ++ (wsL_law_r23 ++ (wsL_law_r24 ++ wsL_law_r25)))))))))))))))))))))))) ++ wsX40 ++ wsX50 ++ wsX00 ++ wsX20 ++ wsX10 ++ wsX30 ++ ([] : List Cond)), w ∈ lw_tbl
  exact List.forall_mem_append.mpr ⟨List.forall_mem_append.mpr ⟨List.forall_mem_append.mpr ⟨List.forall_mem_append.mpr ⟨List.forall_mem_append.mpr ⟨List.forall_mem_append.mpr ⟨List.forall_mem_append.mpr ⟨List.forall_mem_append.mpr ⟨lwi_1, List.forall_mem_append.mpr ⟨lwi_2, List.forall_mem_append.mpr ⟨lwi_3, List.forall_mem_append.mpr ⟨lwi_4, List.forall_mem_append.mpr ⟨lwi_5, List.forall_mem_append.mpr ⟨lwi_6, List.forall_mem_append.mpr ⟨lwi_7, List.forall_mem_append.mpr ⟨lwi_8, List.forall_mem_append.mpr ⟨lwi_9, List.forall_mem_append.mpr ⟨lwi_10, List.forall_mem_append.mpr ⟨lwi_11, List.forall_mem_append.mpr ⟨lwi_12, List.forall_mem_append.mpr ⟨lwi_13, List.forall_mem_append.mpr ⟨lwi_14, List.forall_mem_append.mpr ⟨lwi_15, List.forall_mem_append.mpr ⟨lwi_16, List.forall_mem_append.mpr ⟨lwi_17, List.forall_mem_append.mpr ⟨lwi_18, List.forall_mem_append.mpr ⟨lwi_19, List.forall_mem_append.mpr ⟨lwi_20, List.forall_mem_append.mpr ⟨lwi_21, List.forall_mem_append.mpr ⟨lwi_22, List.forall_mem_append.mpr ⟨lwi_23, List.forall_mem_append.mpr ⟨lwi_24, lwi_25⟩⟩⟩⟩⟩⟩⟩⟩⟩⟩⟩⟩⟩⟩⟩⟩⟩⟩⟩⟩⟩⟩⟩⟩, lwi_X4⟩, lwi_X5⟩, lwi_X0⟩, lwi_X2⟩, lwi_X1⟩, lwi_X3⟩, fun _ h => absurd h List.not_mem_nil⟩
theorem inlX0 : ∀ w ∈ wsX00, w ∈ wsL_law := fun _ h => List.mem_append_left _ (List.mem_append_left _ (List.mem_append_left _ (List.mem_append_left _ (List.mem_append_right _ h))))
theorem inX0 : ∀ w ∈ wsX00, w ∈ lw_tbl := fun w h => wsL_law_in w (inlX0 w h)
theorem inlX1 : ∀ w ∈ wsX10, w ∈ wsL_law := fun _ h => List.mem_append_left _ (List.mem_append_left _ (List.mem_append_right _ h))
theorem inX1 : ∀ w ∈ wsX10, w ∈ lw_tbl := fun w h => wsL_law_in w (inlX1 w h)
theorem inlX2 : ∀ w ∈ wsX20, w ∈ wsL_law := fun _ h => List.mem_append_left _ (List.mem_append_left _ (List.mem_append_left _ (List.mem_append_right _ h)))
theorem inX2 : ∀ w ∈ wsX20, w ∈ lw_tbl := fun w h => wsL_law_in w (inlX2 w h)
theorem inlX3 : ∀ w ∈ wsX30, w ∈ wsL_law := fun _ h => List.mem_append_left _ (List.mem_append_right _ h)
theorem inX3 : ∀ w ∈ wsX30, w ∈ lw_tbl := fun w h => wsL_law_in w (inlX3 w h)
theorem inlX4 : ∀ w ∈ wsX40, w ∈ wsL_law := fun _ h => List.mem_append_left _ (List.mem_append_left _ (List.mem_append_left _ (List.mem_append_left _ (List.mem_append_left _ (List.mem_append_left _ (List.mem_append_right _ h))))))
theorem inX4 : ∀ w ∈ wsX40, w ∈ lw_tbl := fun w h => wsL_law_in w (inlX4 w h)
theorem inlX5 : ∀ w ∈ wsX50, w ∈ wsL_law := fun _ h => List.mem_append_left _ (List.mem_append_left _ (List.mem_append_left _ (List.mem_append_left _ (List.mem_append_left _ (List.mem_append_right _ h)))))
theorem inX5 : ∀ w ∈ wsX50, w ∈ lw_tbl := fun w h => wsL_law_in w (inlX5 w h)
theorem inJ6 : ∀ w ∈ wsJ60, w ∈ lw_tbl := by decide +kernel
theorem inJ10 : ∀ w ∈ wsJ100, w ∈ lw_tbl := by decide +kernel
theorem dX0_init_0 : decode cX0_init 0 = .ok (.aload_n 0, 1) := by decide +kernel
theorem dX0_init_1 : decode cX0_init 1 = .ok (.invokespecial 3, 3) := by decide +kernel
theorem dX0_init_4 : decode cX0_init 4 = .ok (.aload_n 0, 1) := by decide +kernel
theorem dX0_init_5 : decode cX0_init 5 = .ok (.sipush 528, 3) := by decide +kernel
theorem dX0_init_8 : decode cX0_init 8 = .ok (.newarray .int, 2) := by decide +kernel
theorem dX0_init_10 : decode cX0_init 10 = .ok (.putfield 9, 3) := by decide +kernel
theorem dX0_init_13 : decode cX0_init 13 = .ok (.aload_n 0, 1) := by decide +kernel
theorem dX0_init_14 : decode cX0_init 14 = .ok (.iconst 1, 1) := by decide +kernel
theorem dX0_init_15 : decode cX0_init 15 = .ok (.putfield 15, 3) := by decide +kernel
theorem dX0_init_18 : decode cX0_init 18 = .ok (.aload_n 0, 1) := by decide +kernel
theorem dX0_init_19 : decode cX0_init 19 = .ok (.iconst (-1), 1) := by decide +kernel
theorem dX0_init_20 : decode cX0_init 20 = .ok (.putfield 19, 3) := by decide +kernel
theorem dX0_init_23 : decode cX0_init 23 = .ok (.aload_n 0, 1) := by decide +kernel
theorem dX0_init_24 : decode cX0_init 24 = .ok (.iconst 0, 1) := by decide +kernel
theorem dX0_init_25 : decode cX0_init 25 = .ok (.putfield 23, 3) := by decide +kernel
theorem dX0_init_28 : decode cX0_init 28 = .ok (.return_, 1) := by decide +kernel
theorem dX0_powered_0 : decode cX0_powered 0 = .ok (.aload_n 0, 1) := by decide +kernel
theorem dX0_powered_1 : decode cX0_powered 1 = .ok (.getfield 15, 3) := by decide +kernel
theorem dX0_powered_4 : decode cX0_powered 4 = .ok (.ireturn, 1) := by decide +kernel
theorem dX0_writesDone_0 : decode cX0_writesDone 0 = .ok (.aload_n 0, 1) := by decide +kernel
theorem dX0_writesDone_1 : decode cX0_writesDone 1 = .ok (.getfield 23, 3) := by decide +kernel
theorem dX0_writesDone_4 : decode cX0_writesDone 4 = .ok (.ireturn, 1) := by decide +kernel
theorem dX0_word_0 : decode cX0_word 0 = .ok (.aload_n 0, 1) := by decide +kernel
theorem dX0_word_1 : decode cX0_word 1 = .ok (.getfield 9, 3) := by decide +kernel
theorem dX0_word_4 : decode cX0_word 4 = .ok (.iload_n 1, 1) := by decide +kernel
theorem dX0_word_5 : decode cX0_word 5 = .ok (.bipush 16, 2) := by decide +kernel
theorem dX0_word_7 : decode cX0_word 7 = .ok (.imul, 1) := by decide +kernel
theorem dX0_word_8 : decode cX0_word 8 = .ok (.iload_n 2, 1) := by decide +kernel
theorem dX0_word_9 : decode cX0_word 9 = .ok (.iadd, 1) := by decide +kernel
theorem dX0_word_10 : decode cX0_word 10 = .ok (.iaload, 1) := by decide +kernel
theorem dX0_word_11 : decode cX0_word 11 = .ok (.ireturn, 1) := by decide +kernel
theorem dX0_powerOn_0 : decode cX0_powerOn 0 = .ok (.aload_n 0, 1) := by decide +kernel
theorem dX0_powerOn_1 : decode cX0_powerOn 1 = .ok (.iconst 1, 1) := by decide +kernel
theorem dX0_powerOn_2 : decode cX0_powerOn 2 = .ok (.putfield 15, 3) := by decide +kernel
theorem dX0_powerOn_5 : decode cX0_powerOn 5 = .ok (.return_, 1) := by decide +kernel
theorem dX0_failAfter_0 : decode cX0_failAfter 0 = .ok (.aload_n 0, 1) := by decide +kernel
theorem dX0_failAfter_1 : decode cX0_failAfter 1 = .ok (.iload_n 1, 1) := by decide +kernel
theorem dX0_failAfter_2 : decode cX0_failAfter 2 = .ok (.putfield 19, 3) := by decide +kernel
theorem dX0_failAfter_5 : decode cX0_failAfter 5 = .ok (.return_, 1) := by decide +kernel
theorem dX0_wipe_0 : decode cX0_wipe 0 = .ok (.iconst 0, 1) := by decide +kernel
theorem dX0_wipe_1 : decode cX0_wipe 1 = .ok (.istore_n 1, 1) := by decide +kernel
theorem dX0_wipe_2 : decode cX0_wipe 2 = .ok (.iload_n 1, 1) := by decide +kernel
theorem dX0_wipe_3 : decode cX0_wipe 3 = .ok (.aload_n 0, 1) := by decide +kernel
theorem dX0_wipe_4 : decode cX0_wipe 4 = .ok (.getfield 9, 3) := by decide +kernel
theorem dX0_wipe_7 : decode cX0_wipe 7 = .ok (.arraylength, 1) := by decide +kernel
theorem dX0_wipe_8 : decode cX0_wipe 8 = .ok (.if_icmp .ge 16, 3) := by decide +kernel
theorem dX0_wipe_11 : decode cX0_wipe 11 = .ok (.aload_n 0, 1) := by decide +kernel
theorem dX0_wipe_12 : decode cX0_wipe 12 = .ok (.getfield 9, 3) := by decide +kernel
theorem dX0_wipe_15 : decode cX0_wipe 15 = .ok (.iload_n 1, 1) := by decide +kernel
theorem dX0_wipe_16 : decode cX0_wipe 16 = .ok (.iconst 0, 1) := by decide +kernel
theorem dX0_wipe_17 : decode cX0_wipe 17 = .ok (.iastore, 1) := by decide +kernel
theorem dX0_wipe_18 : decode cX0_wipe 18 = .ok (.iinc 1 1, 3) := by decide +kernel
theorem dX0_wipe_21 : decode cX0_wipe 21 = .ok (.goto (-19), 3) := by decide +kernel
theorem dX0_wipe_24 : decode cX0_wipe 24 = .ok (.aload_n 0, 1) := by decide +kernel
theorem dX0_wipe_25 : decode cX0_wipe 25 = .ok (.iconst 1, 1) := by decide +kernel
theorem dX0_wipe_26 : decode cX0_wipe 26 = .ok (.putfield 15, 3) := by decide +kernel
theorem dX0_wipe_29 : decode cX0_wipe 29 = .ok (.aload_n 0, 1) := by decide +kernel
theorem dX0_wipe_30 : decode cX0_wipe 30 = .ok (.iconst (-1), 1) := by decide +kernel
theorem dX0_wipe_31 : decode cX0_wipe 31 = .ok (.putfield 19, 3) := by decide +kernel
theorem dX0_wipe_34 : decode cX0_wipe 34 = .ok (.return_, 1) := by decide +kernel
theorem dX0_write_0 : decode cX0_write 0 = .ok (.aload_n 0, 1) := by decide +kernel
theorem dX0_write_1 : decode cX0_write 1 = .ok (.getfield 19, 3) := by decide +kernel
theorem dX0_write_4 : decode cX0_write 4 = .ok (.ifCond .ne 15, 3) := by decide +kernel
theorem dX0_write_7 : decode cX0_write 7 = .ok (.aload_n 0, 1) := by decide +kernel
theorem dX0_write_8 : decode cX0_write 8 = .ok (.iconst 0, 1) := by decide +kernel
end
section
theorem dX0_write_9 : decode cX0_write 9 = .ok (.putfield 15, 3) := by decide +kernel
theorem dX0_write_12 : decode cX0_write 12 = .ok (.aload_n 0, 1) := by decide +kernel
theorem dX0_write_13 : decode cX0_write 13 = .ok (.iconst (-1), 1) := by decide +kernel
theorem dX0_write_14 : decode cX0_write 14 = .ok (.putfield 19, 3) := by decide +kernel
theorem dX0_write_17 : decode cX0_write 17 = .ok (.iconst 0, 1) := by decide +kernel
theorem dX0_write_18 : decode cX0_write 18 = .ok (.ireturn, 1) := by decide +kernel
theorem dX0_write_19 : decode cX0_write 19 = .ok (.aload_n 0, 1) := by decide +kernel
theorem dX0_write_20 : decode cX0_write 20 = .ok (.getfield 19, 3) := by decide +kernel
theorem dX0_write_23 : decode cX0_write 23 = .ok (.ifCond .le 13, 3) := by decide +kernel
theorem dX0_write_26 : decode cX0_write 26 = .ok (.aload_n 0, 1) := by decide +kernel
theorem dX0_write_27 : decode cX0_write 27 = .ok (.dup, 1) := by decide +kernel
theorem dX0_write_28 : decode cX0_write 28 = .ok (.getfield 19, 3) := by decide +kernel
theorem dX0_write_31 : decode cX0_write 31 = .ok (.iconst 1, 1) := by decide +kernel
theorem dX0_write_32 : decode cX0_write 32 = .ok (.isub, 1) := by decide +kernel
theorem dX0_write_33 : decode cX0_write 33 = .ok (.putfield 19, 3) := by decide +kernel
theorem dX0_write_36 : decode cX0_write 36 = .ok (.aload_n 2, 1) := by decide +kernel
theorem dX0_write_37 : decode cX0_write 37 = .ok (.iload_n 3, 1) := by decide +kernel
theorem dX0_write_38 : decode cX0_write 38 = .ok (.bipush 16, 2) := by decide +kernel
theorem dX0_write_40 : decode cX0_write 40 = .ok (.imul, 1) := by decide +kernel
theorem dX0_write_41 : decode cX0_write 41 = .ok (.aload_n 0, 1) := by decide +kernel
theorem dX0_write_42 : decode cX0_write 42 = .ok (.getfield 9, 3) := by decide +kernel
theorem dX0_write_45 : decode cX0_write 45 = .ok (.iload_n 1, 1) := by decide +kernel
theorem dX0_write_46 : decode cX0_write 46 = .ok (.bipush 16, 2) := by decide +kernel
theorem dX0_write_48 : decode cX0_write 48 = .ok (.imul, 1) := by decide +kernel
theorem dX0_write_49 : decode cX0_write 49 = .ok (.bipush 16, 2) := by decide +kernel
theorem dX0_write_51 : decode cX0_write 51 = .ok (.invokestatic 26, 3) := by decide +kernel
theorem dX0_write_54 : decode cX0_write 54 = .ok (.aload_n 0, 1) := by decide +kernel
theorem dX0_write_55 : decode cX0_write 55 = .ok (.dup, 1) := by decide +kernel
theorem dX0_write_56 : decode cX0_write 56 = .ok (.getfield 23, 3) := by decide +kernel
theorem dX0_write_59 : decode cX0_write 59 = .ok (.iconst 1, 1) := by decide +kernel
theorem dX0_write_60 : decode cX0_write 60 = .ok (.iadd, 1) := by decide +kernel
theorem dX0_write_61 : decode cX0_write 61 = .ok (.putfield 23, 3) := by decide +kernel
theorem dX0_write_64 : decode cX0_write 64 = .ok (.iconst 1, 1) := by decide +kernel
theorem dX0_write_65 : decode cX0_write 65 = .ok (.ireturn, 1) := by decide +kernel
set_option maxRecDepth 20000 in
theorem ggX0_copyBlock_X0_write : GoodIn wsX0_copyBlock wsX0_write := goodIn_r _ [6, 7, 8, 1, 9, 10, 11, 12, 13, 14, 15, 16, 17] (by decide +kernel) (by decide +kernel)
set_option maxRecDepth 20000 in
theorem gX0_copyBlock_X0_write : GoodIn wsX0_copyBlock (wsV RX0 32 RX0 yX0_write wsX0_write) := goodIn_app (goodIn_of _ (by decide +kernel)) ggX0_copyBlock_X0_write
theorem dX0_copyBlock_0 : decode cX0_copyBlock 0 = .ok (.aload_n 0, 1) := by decide +kernel
theorem dX0_copyBlock_1 : decode cX0_copyBlock 1 = .ok (.iload_n 1, 1) := by decide +kernel
theorem dX0_copyBlock_2 : decode cX0_copyBlock 2 = .ok (.aload_n 0, 1) := by decide +kernel
theorem dX0_copyBlock_3 : decode cX0_copyBlock 3 = .ok (.getfield 9, 3) := by decide +kernel
theorem dX0_copyBlock_6 : decode cX0_copyBlock 6 = .ok (.iload_n 2, 1) := by decide +kernel
theorem dX0_copyBlock_7 : decode cX0_copyBlock 7 = .ok (.invokevirtual 32, 3) := by decide +kernel
theorem dX0_copyBlock_10 : decode cX0_copyBlock 10 = .ok (.ireturn, 1) := by decide +kernel
theorem dX1_init_0 : decode cX1_init 0 = .ok (.aload_n 0, 1) := by decide +kernel
theorem dX1_init_1 : decode cX1_init 1 = .ok (.invokespecial 3, 3) := by decide +kernel
theorem dX1_init_4 : decode cX1_init 4 = .ok (.aload_n 0, 1) := by decide +kernel
theorem dX1_init_5 : decode cX1_init 5 = .ok (.bipush 16, 2) := by decide +kernel
theorem dX1_init_7 : decode cX1_init 7 = .ok (.newarray .int, 2) := by decide +kernel
theorem dX1_init_9 : decode cX1_init 9 = .ok (.putfield 9, 3) := by decide +kernel
theorem dX1_init_12 : decode cX1_init 12 = .ok (.aload_n 0, 1) := by decide +kernel
theorem dX1_init_13 : decode cX1_init 13 = .ok (.aload_n 1, 1) := by decide +kernel
theorem dX1_init_14 : decode cX1_init 14 = .ok (.putfield 15, 3) := by decide +kernel
theorem dX1_init_17 : decode cX1_init 17 = .ok (.aload_n 0, 1) := by decide +kernel
theorem dX1_init_18 : decode cX1_init 18 = .ok (.aload_n 2, 1) := by decide +kernel
theorem dX1_init_19 : decode cX1_init 19 = .ok (.putfield 19, 3) := by decide +kernel
theorem dX1_init_22 : decode cX1_init 22 = .ok (.return_, 1) := by decide +kernel
set_option maxRecDepth 20000 in
theorem ggX1_carryOut_X1_changedBlocks : GoodIn wsX1_carryOut wsX1_changedBlocks := goodIn_r _ [5, 6, 7, 8, 9, 10, 11, 12, 13, 75, 76, 77, 78, 79, 80, 81, 82] (by decide +kernel) (by decide +kernel)
set_option maxRecDepth 20000 in
theorem gX1_carryOut_X1_changedBlocks : GoodIn wsX1_carryOut (wsV RX1 23 RX1 yX1_changedBlocks wsX1_changedBlocks) := goodIn_app (goodIn_of _ (by decide +kernel)) ggX1_carryOut_X1_changedBlocks
set_option maxRecDepth 20000 in
theorem ggX1_carryOut_X1_keepImages : GoodIn wsX1_carryOut wsX1_keepImages := goodIn_r _ [17, 7, 18, 19, 4, 20, 21, 22, 23, 24, 25, 26, 27, 28, 29, 30, 31, 32, 33, 34, 35, 36, 37, 38, 39, 40, 41, 42, 43, 44, 45, 46, 47, 75, 76, 77, 79, 80, 81, 82] (by decide +kernel) (by decide +kernel)
set_option maxRecDepth 20000 in
theorem gX1_carryOut_X1_keepImages : GoodIn wsX1_carryOut (wsV RX1 27 RX1 yX1_keepImages wsX1_keepImages) := goodIn_app (goodIn_of _ (by decide +kernel)) ggX1_carryOut_X1_keepImages
set_option maxRecDepth 20000 in
theorem ggX1_carryOut_X1_writeHead : GoodIn wsX1_carryOut wsX1_writeHead := goodIn_r _ [51, 52, 7, 24, 25, 26, 27, 28, 29, 30, 53, 54, 55, 4, 56, 57, 58, 59, 34, 60, 36, 61, 38, 39, 40, 41, 42, 43, 44, 45, 46, 47, 75, 76, 77, 79, 80, 81, 82] (by decide +kernel) (by decide +kernel)
set_option maxRecDepth 20000 in
theorem gX1_carryOut_X1_writeHead : GoodIn wsX1_carryOut (wsV RX1 31 RX1 yX1_writeHead wsX1_writeHead) := goodIn_app (goodIn_of _ (by decide +kernel)) ggX1_carryOut_X1_writeHead
set_option maxRecDepth 20000 in
theorem ggX1_carryOut_X1_saveBlocks : GoodIn wsX1_carryOut wsX1_saveBlocks := goodIn_r _ [65, 6, 7, 18, 19, 4, 20, 66, 67, 68, 11, 69, 13, 70, 38, 39, 34, 40, 41, 42, 36, 43, 44, 45, 46, 47, 75, 76, 77, 78, 79, 80, 81, 82] (by decide +kernel) (by decide +kernel)
set_option maxRecDepth 20000 in
theorem gX1_carryOut_X1_saveBlocks : GoodIn wsX1_carryOut (wsV RX1 34 RX1 yX1_saveBlocks wsX1_saveBlocks) := goodIn_app (goodIn_of _ (by decide +kernel)) ggX1_carryOut_X1_saveBlocks
set_option maxRecDepth 20000 in
theorem ggX1_carryOut_X1_clearHead : GoodIn wsX1_carryOut wsX1_clearHead := goodIn_r _ [74, 52, 7, 61, 38, 39, 34, 40, 41, 42, 36, 43, 44, 45, 46, 47, 75, 76, 77, 79, 80, 81, 82] (by decide +kernel) (by decide +kernel)
set_option maxRecDepth 20000 in
theorem gX1_carryOut_X1_clearHead : GoodIn wsX1_carryOut (wsV RX1 37 RX1 yX1_clearHead wsX1_clearHead) := goodIn_app (goodIn_of _ (by decide +kernel)) ggX1_carryOut_X1_clearHead
theorem dX1_carryOut_0 : decode cX1_carryOut 0 = .ok (.aload_n 0, 1) := by decide +kernel
theorem dX1_carryOut_1 : decode cX1_carryOut 1 = .ok (.invokevirtual 23, 3) := by decide +kernel
theorem dX1_carryOut_4 : decode cX1_carryOut 4 = .ok (.istore_n 1, 1) := by decide +kernel
theorem dX1_carryOut_5 : decode cX1_carryOut 5 = .ok (.iload_n 1, 1) := by decide +kernel
theorem dX1_carryOut_6 : decode cX1_carryOut 6 = .ok (.ifCond .ne 5, 3) := by decide +kernel
theorem dX1_carryOut_9 : decode cX1_carryOut 9 = .ok (.iconst 1, 1) := by decide +kernel
theorem dX1_carryOut_10 : decode cX1_carryOut 10 = .ok (.ireturn, 1) := by decide +kernel
theorem dX1_carryOut_11 : decode cX1_carryOut 11 = .ok (.aload_n 0, 1) := by decide +kernel
theorem dX1_carryOut_12 : decode cX1_carryOut 12 = .ok (.iload_n 1, 1) := by decide +kernel
theorem dX1_carryOut_13 : decode cX1_carryOut 13 = .ok (.invokevirtual 27, 3) := by decide +kernel
theorem dX1_carryOut_16 : decode cX1_carryOut 16 = .ok (.ifCond .eq 30, 3) := by decide +kernel
theorem dX1_carryOut_19 : decode cX1_carryOut 19 = .ok (.aload_n 0, 1) := by decide +kernel
theorem dX1_carryOut_20 : decode cX1_carryOut 20 = .ok (.iload_n 1, 1) := by decide +kernel
theorem dX1_carryOut_21 : decode cX1_carryOut 21 = .ok (.invokevirtual 31, 3) := by decide +kernel
theorem dX1_carryOut_24 : decode cX1_carryOut 24 = .ok (.ifCond .eq 22, 3) := by decide +kernel
theorem dX1_carryOut_27 : decode cX1_carryOut 27 = .ok (.aload_n 0, 1) := by decide +kernel
theorem dX1_carryOut_28 : decode cX1_carryOut 28 = .ok (.iload_n 1, 1) := by decide +kernel
theorem dX1_carryOut_29 : decode cX1_carryOut 29 = .ok (.invokevirtual 34, 3) := by decide +kernel
theorem dX1_carryOut_32 : decode cX1_carryOut 32 = .ok (.ifCond .eq 14, 3) := by decide +kernel
theorem dX1_carryOut_35 : decode cX1_carryOut 35 = .ok (.aload_n 0, 1) := by decide +kernel
theorem dX1_carryOut_36 : decode cX1_carryOut 36 = .ok (.invokevirtual 37, 3) := by decide +kernel
theorem dX1_carryOut_39 : decode cX1_carryOut 39 = .ok (.ifCond .eq 7, 3) := by decide +kernel
theorem dX1_carryOut_42 : decode cX1_carryOut 42 = .ok (.iconst 1, 1) := by decide +kernel
theorem dX1_carryOut_43 : decode cX1_carryOut 43 = .ok (.goto 4, 3) := by decide +kernel
theorem dX1_carryOut_46 : decode cX1_carryOut 46 = .ok (.iconst 0, 1) := by decide +kernel
theorem dX1_carryOut_47 : decode cX1_carryOut 47 = .ok (.ireturn, 1) := by decide +kernel
set_option maxRecDepth 20000 in
theorem ggX1_undo_X1_blocksToUndo : GoodIn wsX1_undo wsX1_blocksToUndo := goodIn_r _ [5, 6, 7, 8, 9, 10, 11, 12, 13, 14, 15, 16, 17, 18, 19, 20, 21, 22, 4, 23, 55, 56, 57, 58, 59, 60, 61] (by decide +kernel) (by decide +kernel)
set_option maxRecDepth 20000 in
theorem gX1_undo_X1_blocksToUndo : GoodIn wsX1_undo (wsV RX1 41 RX1 yX1_blocksToUndo wsX1_blocksToUndo) := goodIn_app (goodIn_of _ (by decide +kernel)) ggX1_undo_X1_blocksToUndo
set_option maxRecDepth 20000 in
theorem ggX1_undo_X1_restoreBlocks : GoodIn wsX1_undo wsX1_restoreBlocks := goodIn_r _ [27, 6, 28, 29, 4, 30, 31, 32, 33, 13, 14, 15, 16, 17, 18, 19, 34, 35, 36, 10, 37, 12, 38, 39, 40, 41, 42, 43, 44, 45, 46, 47, 48, 55, 56, 57, 58, 59, 60, 61] (by decide +kernel) (by decide +kernel)
set_option maxRecDepth 20000 in
theorem gX1_undo_X1_restoreBlocks : GoodIn wsX1_undo (wsV RX1 44 RX1 yX1_restoreBlocks wsX1_restoreBlocks) := goodIn_app (goodIn_of _ (by decide +kernel)) ggX1_undo_X1_restoreBlocks
set_option maxRecDepth 20000 in
theorem ggX1_undo_X1_clearHead : GoodIn wsX1_undo wsX1_clearHead := goodIn_r _ [52, 53, 6, 54, 39, 40, 10, 41, 42, 43, 12, 44, 45, 46, 47, 48, 55, 56, 57, 58, 59, 60, 61] (by decide +kernel) (by decide +kernel)
set_option maxRecDepth 20000 in
theorem gX1_undo_X1_clearHead : GoodIn wsX1_undo (wsV RX1 37 RX1 yX1_clearHead wsX1_clearHead) := goodIn_app (goodIn_of _ (by decide +kernel)) ggX1_undo_X1_clearHead
theorem dX1_undo_0 : decode cX1_undo 0 = .ok (.aload_n 0, 1) := by decide +kernel
theorem dX1_undo_1 : decode cX1_undo 1 = .ok (.invokevirtual 41, 3) := by decide +kernel
theorem dX1_undo_4 : decode cX1_undo 4 = .ok (.istore_n 1, 1) := by decide +kernel
theorem dX1_undo_5 : decode cX1_undo 5 = .ok (.iload_n 1, 1) := by decide +kernel
theorem dX1_undo_6 : decode cX1_undo 6 = .ok (.ifCond .ne 5, 3) := by decide +kernel
theorem dX1_undo_9 : decode cX1_undo 9 = .ok (.iconst 1, 1) := by decide +kernel
theorem dX1_undo_10 : decode cX1_undo 10 = .ok (.ireturn, 1) := by decide +kernel
theorem dX1_undo_11 : decode cX1_undo 11 = .ok (.aload_n 0, 1) := by decide +kernel
theorem dX1_undo_12 : decode cX1_undo 12 = .ok (.iload_n 1, 1) := by decide +kernel
theorem dX1_undo_13 : decode cX1_undo 13 = .ok (.invokevirtual 44, 3) := by decide +kernel
theorem dX1_undo_16 : decode cX1_undo 16 = .ok (.ifCond .eq 14, 3) := by decide +kernel
theorem dX1_undo_19 : decode cX1_undo 19 = .ok (.aload_n 0, 1) := by decide +kernel
theorem dX1_undo_20 : decode cX1_undo 20 = .ok (.invokevirtual 37, 3) := by decide +kernel
theorem dX1_undo_23 : decode cX1_undo 23 = .ok (.ifCond .eq 7, 3) := by decide +kernel
theorem dX1_undo_26 : decode cX1_undo 26 = .ok (.iconst 1, 1) := by decide +kernel
theorem dX1_undo_27 : decode cX1_undo 27 = .ok (.goto 4, 3) := by decide +kernel
theorem dX1_undo_30 : decode cX1_undo 30 = .ok (.iconst 0, 1) := by decide +kernel
theorem dX1_undo_31 : decode cX1_undo 31 = .ok (.ireturn, 1) := by decide +kernel
set_option maxRecDepth 20000 in
theorem ggX1_changedBlocks_X2_differs : GoodIn wsX1_changedBlocks wsX2_differs := goodIn_r _ [7, 8, 12, 13, 14, 15, 16] (by decide +kernel) (by decide +kernel)
set_option maxRecDepth 20000 in
theorem gX1_changedBlocks_X2_differs : GoodIn wsX1_changedBlocks (wsV RX1 47 RX2 yX2_differs wsX2_differs) := goodIn_app (goodIn_of _ (by decide +kernel)) ggX1_changedBlocks_X2_differs
theorem dX1_changedBlocks_0 : decode cX1_changedBlocks 0 = .ok (.iconst 0, 1) := by decide +kernel
theorem dX1_changedBlocks_1 : decode cX1_changedBlocks 1 = .ok (.istore_n 1, 1) := by decide +kernel
theorem dX1_changedBlocks_2 : decode cX1_changedBlocks 2 = .ok (.iconst 0, 1) := by decide +kernel
theorem dX1_changedBlocks_3 : decode cX1_changedBlocks 3 = .ok (.istore_n 2, 1) := by decide +kernel
theorem dX1_changedBlocks_4 : decode cX1_changedBlocks 4 = .ok (.iload_n 2, 1) := by decide +kernel
theorem dX1_changedBlocks_5 : decode cX1_changedBlocks 5 = .ok (.bipush 16, 2) := by decide +kernel
theorem dX1_changedBlocks_7 : decode cX1_changedBlocks 7 = .ok (.if_icmp .ge 30, 3) := by decide +kernel
theorem dX1_changedBlocks_10 : decode cX1_changedBlocks 10 = .ok (.aload_n 0, 1) := by decide +kernel
theorem dX1_changedBlocks_11 : decode cX1_changedBlocks 11 = .ok (.getfield 19, 3) := by decide +kernel
theorem dX1_changedBlocks_14 : decode cX1_changedBlocks 14 = .ok (.aload_n 0, 1) := by decide +kernel
theorem dX1_changedBlocks_15 : decode cX1_changedBlocks 15 = .ok (.getfield 15, 3) := by decide +kernel
theorem dX1_changedBlocks_18 : decode cX1_changedBlocks 18 = .ok (.iload_n 2, 1) := by decide +kernel
theorem dX1_changedBlocks_19 : decode cX1_changedBlocks 19 = .ok (.invokevirtual 47, 3) := by decide +kernel
theorem dX1_changedBlocks_22 : decode cX1_changedBlocks 22 = .ok (.ifCond .eq 9, 3) := by decide +kernel
theorem dX1_changedBlocks_25 : decode cX1_changedBlocks 25 = .ok (.iload_n 1, 1) := by decide +kernel
theorem dX1_changedBlocks_26 : decode cX1_changedBlocks 26 = .ok (.iconst 1, 1) := by decide +kernel
theorem dX1_changedBlocks_27 : decode cX1_changedBlocks 27 = .ok (.iload_n 2, 1) := by decide +kernel
theorem dX1_changedBlocks_28 : decode cX1_changedBlocks 28 = .ok (.ishl, 1) := by decide +kernel
theorem dX1_changedBlocks_29 : decode cX1_changedBlocks 29 = .ok (.ior, 1) := by decide +kernel
theorem dX1_changedBlocks_30 : decode cX1_changedBlocks 30 = .ok (.istore_n 1, 1) := by decide +kernel
theorem dX1_changedBlocks_31 : decode cX1_changedBlocks 31 = .ok (.iinc 2 1, 3) := by decide +kernel
theorem dX1_changedBlocks_34 : decode cX1_changedBlocks 34 = .ok (.goto (-30), 3) := by decide +kernel
theorem dX1_changedBlocks_37 : decode cX1_changedBlocks 37 = .ok (.iload_n 1, 1) := by decide +kernel
theorem dX1_changedBlocks_38 : decode cX1_changedBlocks 38 = .ok (.ireturn, 1) := by decide +kernel
set_option maxRecDepth 20000 in
theorem ggX1_keepImages_X1_contains : GoodIn wsX1_keepImages wsX1_contains := goodIn_r _ [5] (by decide +kernel) (by decide +kernel)
set_option maxRecDepth 20000 in
theorem gX1_keepImages_X1_contains : GoodIn wsX1_keepImages (va_wsS RX1 53 yX1_contains wsX1_contains) := goodIn_app (goodIn_of _ (by decide +kernel)) ggX1_keepImages_X1_contains
set_option maxRecDepth 20000 in
theorem ggX1_keepImages_X1_imageOf : GoodIn wsX1_keepImages wsX1_imageOf := goodIn_r _ [8, 9, 10, 11, 12, 13, 14, 15] (by decide +kernel) (by decide +kernel)
set_option maxRecDepth 20000 in
theorem gX1_keepImages_X1_imageOf : GoodIn wsX1_keepImages (va_wsS RX1 57 yX1_imageOf wsX1_imageOf) := goodIn_app (goodIn_of _ (by decide +kernel)) ggX1_keepImages_X1_imageOf
set_option maxRecDepth 20000 in
theorem ggX1_keepImages_X0_copyBlock : GoodIn wsX1_keepImages wsX0_copyBlock := goodIn_r _ [20, 21, 22, 23, 24, 19, 25, 26, 27, 28, 29, 30, 31, 32, 36, 37, 38, 39] (by decide +kernel) (by decide +kernel)
set_option maxRecDepth 20000 in
theorem gX1_keepImages_X0_copyBlock : GoodIn wsX1_keepImages (wsV RX1 61 RX0 yX0_copyBlock wsX0_copyBlock) := goodIn_app (goodIn_of _ (by decide +kernel)) ggX1_keepImages_X0_copyBlock
theorem dX1_keepImages_0 : decode cX1_keepImages 0 = .ok (.iconst 0, 1) := by decide +kernel
theorem dX1_keepImages_1 : decode cX1_keepImages 1 = .ok (.istore_n 2, 1) := by decide +kernel
theorem dX1_keepImages_2 : decode cX1_keepImages 2 = .ok (.iload_n 2, 1) := by decide +kernel
theorem dX1_keepImages_3 : decode cX1_keepImages 3 = .ok (.bipush 16, 2) := by decide +kernel
theorem dX1_keepImages_5 : decode cX1_keepImages 5 = .ok (.if_icmp .ge 35, 3) := by decide +kernel
theorem dX1_keepImages_8 : decode cX1_keepImages 8 = .ok (.iload_n 1, 1) := by decide +kernel
theorem dX1_keepImages_9 : decode cX1_keepImages 9 = .ok (.iload_n 2, 1) := by decide +kernel
theorem dX1_keepImages_10 : decode cX1_keepImages 10 = .ok (.invokestatic 53, 3) := by decide +kernel
theorem dX1_keepImages_13 : decode cX1_keepImages 13 = .ok (.ifCond .eq 21, 3) := by decide +kernel
theorem dX1_keepImages_16 : decode cX1_keepImages 16 = .ok (.aload_n 0, 1) := by decide +kernel
theorem dX1_keepImages_17 : decode cX1_keepImages 17 = .ok (.getfield 15, 3) := by decide +kernel
theorem dX1_keepImages_20 : decode cX1_keepImages 20 = .ok (.iload_n 1, 1) := by decide +kernel
theorem dX1_keepImages_21 : decode cX1_keepImages 21 = .ok (.iload_n 2, 1) := by decide +kernel
theorem dX1_keepImages_22 : decode cX1_keepImages 22 = .ok (.invokestatic 57, 3) := by decide +kernel
theorem dX1_keepImages_25 : decode cX1_keepImages 25 = .ok (.iload_n 2, 1) := by decide +kernel
theorem dX1_keepImages_26 : decode cX1_keepImages 26 = .ok (.invokevirtual 61, 3) := by decide +kernel
theorem dX1_keepImages_29 : decode cX1_keepImages 29 = .ok (.ifCond .ne 5, 3) := by decide +kernel
theorem dX1_keepImages_32 : decode cX1_keepImages 32 = .ok (.iconst 0, 1) := by decide +kernel
theorem dX1_keepImages_33 : decode cX1_keepImages 33 = .ok (.ireturn, 1) := by decide +kernel
theorem dX1_keepImages_34 : decode cX1_keepImages 34 = .ok (.iinc 2 1, 3) := by decide +kernel
theorem dX1_keepImages_37 : decode cX1_keepImages 37 = .ok (.goto (-35), 3) := by decide +kernel
theorem dX1_keepImages_40 : decode cX1_keepImages 40 = .ok (.iconst 1, 1) := by decide +kernel
theorem dX1_keepImages_41 : decode cX1_keepImages 41 = .ok (.ireturn, 1) := by decide +kernel
set_option maxRecDepth 20000 in
theorem ggX1_writeHead_J6_bitCount_0f7a4 : GoodIn wsX1_writeHead wsJ6_bitCount_0f7a4 := goodIn_r _ [6, 7, 8, 9] (by decide +kernel) (by decide +kernel)
set_option maxRecDepth 20000 in
theorem gX1_writeHead_J6_bitCount_0f7a4 : GoodIn wsX1_writeHead (va_wsS RX1 66 yJ6_bitCount_0f7a4 wsJ6_bitCount_0f7a4) := goodIn_app (goodIn_of _ (by decide +kernel)) ggX1_writeHead_J6_bitCount_0f7a4
set_option maxRecDepth 20000 in
theorem ggX1_writeHead_X1_checkOfImages : GoodIn wsX1_writeHead wsX1_checkOfImages := goodIn_r _ [14, 2, 15, 16, 17, 18, 19, 20, 32, 33, 34, 35, 36, 37, 38] (by decide +kernel) (by decide +kernel)
set_option maxRecDepth 20000 in
theorem gX1_writeHead_X1_checkOfImages : GoodIn wsX1_writeHead (wsV RX1 72 RX1 yX1_checkOfImages wsX1_checkOfImages) := goodIn_app (goodIn_of _ (by decide +kernel)) ggX1_writeHead_X1_checkOfImages
set_option maxRecDepth 20000 in
theorem ggX1_writeHead_X0_write : GoodIn wsX1_writeHead wsX0_write := goodIn_r _ [24, 25, 26, 20, 27, 28, 29, 30, 31, 35, 36, 37, 38] (by decide +kernel) (by decide +kernel)
set_option maxRecDepth 20000 in
theorem gX1_writeHead_X0_write : GoodIn wsX1_writeHead (wsV RX1 75 RX0 yX0_write wsX0_write) := goodIn_app (goodIn_of _ (by decide +kernel)) ggX1_writeHead_X0_write
theorem dX1_writeHead_0 : decode cX1_writeHead 0 = .ok (.iload_n 1, 1) := by decide +kernel
theorem dX1_writeHead_1 : decode cX1_writeHead 1 = .ok (.invokestatic 66, 3) := by decide +kernel
theorem dX1_writeHead_4 : decode cX1_writeHead 4 = .ok (.istore_n 2, 1) := by decide +kernel
theorem dX1_writeHead_5 : decode cX1_writeHead 5 = .ok (.aload_n 0, 1) := by decide +kernel
theorem dX1_writeHead_6 : decode cX1_writeHead 6 = .ok (.getfield 9, 3) := by decide +kernel
theorem dX1_writeHead_9 : decode cX1_writeHead 9 = .ok (.iconst 0, 1) := by decide +kernel
theorem dX1_writeHead_10 : decode cX1_writeHead 10 = .ok (.sipush 6517, 3) := by decide +kernel
theorem dX1_writeHead_13 : decode cX1_writeHead 13 = .ok (.iastore, 1) := by decide +kernel
theorem dX1_writeHead_14 : decode cX1_writeHead 14 = .ok (.aload_n 0, 1) := by decide +kernel
theorem dX1_writeHead_15 : decode cX1_writeHead 15 = .ok (.getfield 9, 3) := by decide +kernel
theorem dX1_writeHead_18 : decode cX1_writeHead 18 = .ok (.iconst 1, 1) := by decide +kernel
theorem dX1_writeHead_19 : decode cX1_writeHead 19 = .ok (.iload_n 2, 1) := by decide +kernel
theorem dX1_writeHead_20 : decode cX1_writeHead 20 = .ok (.iastore, 1) := by decide +kernel
theorem dX1_writeHead_21 : decode cX1_writeHead 21 = .ok (.aload_n 0, 1) := by decide +kernel
theorem dX1_writeHead_22 : decode cX1_writeHead 22 = .ok (.getfield 9, 3) := by decide +kernel
theorem dX1_writeHead_25 : decode cX1_writeHead 25 = .ok (.iconst 2, 1) := by decide +kernel
theorem dX1_writeHead_26 : decode cX1_writeHead 26 = .ok (.iload_n 1, 1) := by decide +kernel
theorem dX1_writeHead_27 : decode cX1_writeHead 27 = .ok (.iastore, 1) := by decide +kernel
theorem dX1_writeHead_28 : decode cX1_writeHead 28 = .ok (.aload_n 0, 1) := by decide +kernel
theorem dX1_writeHead_29 : decode cX1_writeHead 29 = .ok (.getfield 9, 3) := by decide +kernel
theorem dX1_writeHead_32 : decode cX1_writeHead 32 = .ok (.iconst 3, 1) := by decide +kernel
theorem dX1_writeHead_33 : decode cX1_writeHead 33 = .ok (.aload_n 0, 1) := by decide +kernel
theorem dX1_writeHead_34 : decode cX1_writeHead 34 = .ok (.iload_n 2, 1) := by decide +kernel
theorem dX1_writeHead_35 : decode cX1_writeHead 35 = .ok (.invokevirtual 72, 3) := by decide +kernel
theorem dX1_writeHead_38 : decode cX1_writeHead 38 = .ok (.iastore, 1) := by decide +kernel
theorem dX1_writeHead_39 : decode cX1_writeHead 39 = .ok (.aload_n 0, 1) := by decide +kernel
theorem dX1_writeHead_40 : decode cX1_writeHead 40 = .ok (.getfield 15, 3) := by decide +kernel
theorem dX1_writeHead_43 : decode cX1_writeHead 43 = .ok (.bipush 16, 2) := by decide +kernel
theorem dX1_writeHead_45 : decode cX1_writeHead 45 = .ok (.aload_n 0, 1) := by decide +kernel
theorem dX1_writeHead_46 : decode cX1_writeHead 46 = .ok (.getfield 9, 3) := by decide +kernel
theorem dX1_writeHead_49 : decode cX1_writeHead 49 = .ok (.iconst 0, 1) := by decide +kernel
theorem dX1_writeHead_50 : decode cX1_writeHead 50 = .ok (.invokevirtual 75, 3) := by decide +kernel
theorem dX1_writeHead_53 : decode cX1_writeHead 53 = .ok (.ireturn, 1) := by decide +kernel
set_option maxRecDepth 20000 in
theorem ggX1_saveBlocks_X1_contains : GoodIn wsX1_saveBlocks wsX1_contains := goodIn_r _ [6] (by decide +kernel) (by decide +kernel)
set_option maxRecDepth 20000 in
theorem gX1_saveBlocks_X1_contains : GoodIn wsX1_saveBlocks (va_wsS RX1 53 yX1_contains wsX1_contains) := goodIn_app (goodIn_of _ (by decide +kernel)) ggX1_saveBlocks_X1_contains
set_option maxRecDepth 20000 in
theorem ggX1_saveBlocks_X2_save : GoodIn wsX1_saveBlocks wsX2_save := goodIn_r _ [11, 12, 13, 14, 15, 16, 17, 18, 19, 20, 21, 22, 23, 24, 25, 29, 30, 31, 32, 33] (by decide +kernel) (by decide +kernel)
set_option maxRecDepth 20000 in
theorem gX1_saveBlocks_X2_save : GoodIn wsX1_saveBlocks (wsV RX1 79 RX2 yX2_save wsX2_save) := goodIn_app (goodIn_of _ (by decide +kernel)) ggX1_saveBlocks_X2_save
theorem dX1_saveBlocks_0 : decode cX1_saveBlocks 0 = .ok (.iconst 0, 1) := by decide +kernel
theorem dX1_saveBlocks_1 : decode cX1_saveBlocks 1 = .ok (.istore_n 2, 1) := by decide +kernel
theorem dX1_saveBlocks_2 : decode cX1_saveBlocks 2 = .ok (.iload_n 2, 1) := by decide +kernel
theorem dX1_saveBlocks_3 : decode cX1_saveBlocks 3 = .ok (.bipush 16, 2) := by decide +kernel
theorem dX1_saveBlocks_5 : decode cX1_saveBlocks 5 = .ok (.if_icmp .ge 34, 3) := by decide +kernel
theorem dX1_saveBlocks_8 : decode cX1_saveBlocks 8 = .ok (.iload_n 1, 1) := by decide +kernel
theorem dX1_saveBlocks_9 : decode cX1_saveBlocks 9 = .ok (.iload_n 2, 1) := by decide +kernel
theorem dX1_saveBlocks_10 : decode cX1_saveBlocks 10 = .ok (.invokestatic 53, 3) := by decide +kernel
theorem dX1_saveBlocks_13 : decode cX1_saveBlocks 13 = .ok (.ifCond .eq 20, 3) := by decide +kernel
theorem dX1_saveBlocks_16 : decode cX1_saveBlocks 16 = .ok (.aload_n 0, 1) := by decide +kernel
theorem dX1_saveBlocks_17 : decode cX1_saveBlocks 17 = .ok (.getfield 19, 3) := by decide +kernel
theorem dX1_saveBlocks_20 : decode cX1_saveBlocks 20 = .ok (.aload_n 0, 1) := by decide +kernel
theorem dX1_saveBlocks_21 : decode cX1_saveBlocks 21 = .ok (.getfield 15, 3) := by decide +kernel
theorem dX1_saveBlocks_24 : decode cX1_saveBlocks 24 = .ok (.iload_n 2, 1) := by decide +kernel
theorem dX1_saveBlocks_25 : decode cX1_saveBlocks 25 = .ok (.invokevirtual 79, 3) := by decide +kernel
theorem dX1_saveBlocks_28 : decode cX1_saveBlocks 28 = .ok (.ifCond .ne 5, 3) := by decide +kernel
theorem dX1_saveBlocks_31 : decode cX1_saveBlocks 31 = .ok (.iconst 0, 1) := by decide +kernel
theorem dX1_saveBlocks_32 : decode cX1_saveBlocks 32 = .ok (.ireturn, 1) := by decide +kernel
theorem dX1_saveBlocks_33 : decode cX1_saveBlocks 33 = .ok (.iinc 2 1, 3) := by decide +kernel
theorem dX1_saveBlocks_36 : decode cX1_saveBlocks 36 = .ok (.goto (-34), 3) := by decide +kernel
theorem dX1_saveBlocks_39 : decode cX1_saveBlocks 39 = .ok (.iconst 1, 1) := by decide +kernel
theorem dX1_saveBlocks_40 : decode cX1_saveBlocks 40 = .ok (.ireturn, 1) := by decide +kernel
set_option maxRecDepth 20000 in
theorem ggX1_clearHead_X0_write : GoodIn wsX1_clearHead wsX0_write := goodIn_r _ [7, 8, 9, 10, 11, 12, 13, 14, 15, 19, 20, 21, 22] (by decide +kernel) (by decide +kernel)
set_option maxRecDepth 20000 in
theorem gX1_clearHead_X0_write : GoodIn wsX1_clearHead (wsV RX1 75 RX0 yX0_write wsX0_write) := goodIn_app (goodIn_of _ (by decide +kernel)) ggX1_clearHead_X0_write
theorem dX1_clearHead_0 : decode cX1_clearHead 0 = .ok (.iconst 0, 1) := by decide +kernel
theorem dX1_clearHead_1 : decode cX1_clearHead 1 = .ok (.istore_n 1, 1) := by decide +kernel
theorem dX1_clearHead_2 : decode cX1_clearHead 2 = .ok (.iload_n 1, 1) := by decide +kernel
theorem dX1_clearHead_3 : decode cX1_clearHead 3 = .ok (.iconst 4, 1) := by decide +kernel
theorem dX1_clearHead_4 : decode cX1_clearHead 4 = .ok (.if_icmp .ge 16, 3) := by decide +kernel
theorem dX1_clearHead_7 : decode cX1_clearHead 7 = .ok (.aload_n 0, 1) := by decide +kernel
theorem dX1_clearHead_8 : decode cX1_clearHead 8 = .ok (.getfield 9, 3) := by decide +kernel
theorem dX1_clearHead_11 : decode cX1_clearHead 11 = .ok (.iload_n 1, 1) := by decide +kernel
theorem dX1_clearHead_12 : decode cX1_clearHead 12 = .ok (.iconst 0, 1) := by decide +kernel
theorem dX1_clearHead_13 : decode cX1_clearHead 13 = .ok (.iastore, 1) := by decide +kernel
theorem dX1_clearHead_14 : decode cX1_clearHead 14 = .ok (.iinc 1 1, 3) := by decide +kernel
theorem dX1_clearHead_17 : decode cX1_clearHead 17 = .ok (.goto (-15), 3) := by decide +kernel
theorem dX1_clearHead_20 : decode cX1_clearHead 20 = .ok (.aload_n 0, 1) := by decide +kernel
theorem dX1_clearHead_21 : decode cX1_clearHead 21 = .ok (.getfield 15, 3) := by decide +kernel
theorem dX1_clearHead_24 : decode cX1_clearHead 24 = .ok (.bipush 16, 2) := by decide +kernel
theorem dX1_clearHead_26 : decode cX1_clearHead 26 = .ok (.aload_n 0, 1) := by decide +kernel
theorem dX1_clearHead_27 : decode cX1_clearHead 27 = .ok (.getfield 9, 3) := by decide +kernel
theorem dX1_clearHead_30 : decode cX1_clearHead 30 = .ok (.iconst 0, 1) := by decide +kernel
theorem dX1_clearHead_31 : decode cX1_clearHead 31 = .ok (.invokevirtual 75, 3) := by decide +kernel
theorem dX1_clearHead_34 : decode cX1_clearHead 34 = .ok (.ireturn, 1) := by decide +kernel
set_option maxRecDepth 20000 in
theorem ggX1_restoreBlocks_X1_contains : GoodIn wsX1_restoreBlocks wsX1_contains := goodIn_r _ [5] (by decide +kernel) (by decide +kernel)
set_option maxRecDepth 20000 in
theorem gX1_restoreBlocks_X1_contains : GoodIn wsX1_restoreBlocks (va_wsS RX1 53 yX1_contains wsX1_contains) := goodIn_app (goodIn_of _ (by decide +kernel)) ggX1_restoreBlocks_X1_contains
set_option maxRecDepth 20000 in
theorem ggX1_restoreBlocks_X1_imageOf : GoodIn wsX1_restoreBlocks wsX1_imageOf := goodIn_r _ [8, 9, 10, 11, 12, 13, 14, 15] (by decide +kernel) (by decide +kernel)
set_option maxRecDepth 20000 in
theorem gX1_restoreBlocks_X1_imageOf : GoodIn wsX1_restoreBlocks (va_wsS RX1 57 yX1_imageOf wsX1_imageOf) := goodIn_app (goodIn_of _ (by decide +kernel)) ggX1_restoreBlocks_X1_imageOf
set_option maxRecDepth 20000 in
theorem ggX1_restoreBlocks_X0_copyBlock : GoodIn wsX1_restoreBlocks wsX0_copyBlock := goodIn_r _ [20, 21, 22, 23, 24, 19, 25, 26, 27, 28, 29, 30, 31, 32, 36, 37, 38, 39] (by decide +kernel) (by decide +kernel)
set_option maxRecDepth 20000 in
theorem gX1_restoreBlocks_X0_copyBlock : GoodIn wsX1_restoreBlocks (wsV RX1 61 RX0 yX0_copyBlock wsX0_copyBlock) := goodIn_app (goodIn_of _ (by decide +kernel)) ggX1_restoreBlocks_X0_copyBlock
theorem dX1_restoreBlocks_0 : decode cX1_restoreBlocks 0 = .ok (.iconst 0, 1) := by decide +kernel
theorem dX1_restoreBlocks_1 : decode cX1_restoreBlocks 1 = .ok (.istore_n 2, 1) := by decide +kernel
theorem dX1_restoreBlocks_2 : decode cX1_restoreBlocks 2 = .ok (.iload_n 2, 1) := by decide +kernel
theorem dX1_restoreBlocks_3 : decode cX1_restoreBlocks 3 = .ok (.bipush 16, 2) := by decide +kernel
theorem dX1_restoreBlocks_5 : decode cX1_restoreBlocks 5 = .ok (.if_icmp .ge 35, 3) := by decide +kernel
theorem dX1_restoreBlocks_8 : decode cX1_restoreBlocks 8 = .ok (.iload_n 1, 1) := by decide +kernel
theorem dX1_restoreBlocks_9 : decode cX1_restoreBlocks 9 = .ok (.iload_n 2, 1) := by decide +kernel
theorem dX1_restoreBlocks_10 : decode cX1_restoreBlocks 10 = .ok (.invokestatic 53, 3) := by decide +kernel
theorem dX1_restoreBlocks_13 : decode cX1_restoreBlocks 13 = .ok (.ifCond .eq 21, 3) := by decide +kernel
theorem dX1_restoreBlocks_16 : decode cX1_restoreBlocks 16 = .ok (.aload_n 0, 1) := by decide +kernel
theorem dX1_restoreBlocks_17 : decode cX1_restoreBlocks 17 = .ok (.getfield 15, 3) := by decide +kernel
theorem dX1_restoreBlocks_20 : decode cX1_restoreBlocks 20 = .ok (.iload_n 2, 1) := by decide +kernel
theorem dX1_restoreBlocks_21 : decode cX1_restoreBlocks 21 = .ok (.iload_n 1, 1) := by decide +kernel
theorem dX1_restoreBlocks_22 : decode cX1_restoreBlocks 22 = .ok (.iload_n 2, 1) := by decide +kernel
theorem dX1_restoreBlocks_23 : decode cX1_restoreBlocks 23 = .ok (.invokestatic 57, 3) := by decide +kernel
theorem dX1_restoreBlocks_26 : decode cX1_restoreBlocks 26 = .ok (.invokevirtual 61, 3) := by decide +kernel
theorem dX1_restoreBlocks_29 : decode cX1_restoreBlocks 29 = .ok (.ifCond .ne 5, 3) := by decide +kernel
theorem dX1_restoreBlocks_32 : decode cX1_restoreBlocks 32 = .ok (.iconst 0, 1) := by decide +kernel
theorem dX1_restoreBlocks_33 : decode cX1_restoreBlocks 33 = .ok (.ireturn, 1) := by decide +kernel
theorem dX1_restoreBlocks_34 : decode cX1_restoreBlocks 34 = .ok (.iinc 2 1, 3) := by decide +kernel
theorem dX1_restoreBlocks_37 : decode cX1_restoreBlocks 37 = .ok (.goto (-35), 3) := by decide +kernel
theorem dX1_restoreBlocks_40 : decode cX1_restoreBlocks 40 = .ok (.iconst 1, 1) := by decide +kernel
theorem dX1_restoreBlocks_41 : decode cX1_restoreBlocks 41 = .ok (.ireturn, 1) := by decide +kernel
set_option maxRecDepth 20000 in
theorem ggX1_blocksToUndo_X0_word : GoodIn wsX1_blocksToUndo wsX0_word := goodIn_r _ [6, 7, 23, 24, 25, 26] (by decide +kernel) (by decide +kernel)
set_option maxRecDepth 20000 in
theorem gX1_blocksToUndo_X0_word : GoodIn wsX1_blocksToUndo (wsV RX1 82 RX0 yX0_word wsX0_word) := goodIn_app (goodIn_of _ (by decide +kernel)) ggX1_blocksToUndo_X0_word
set_option maxRecDepth 20000 in
theorem ggX1_blocksToUndo_J6_bitCount_0f7a4 : GoodIn wsX1_blocksToUndo wsJ6_bitCount_0f7a4 := goodIn_r _ [11, 12, 13, 14] (by decide +kernel) (by decide +kernel)
set_option maxRecDepth 20000 in
theorem gX1_blocksToUndo_J6_bitCount_0f7a4 : GoodIn wsX1_blocksToUndo (va_wsS RX1 66 yJ6_bitCount_0f7a4 wsJ6_bitCount_0f7a4) := goodIn_app (goodIn_of _ (by decide +kernel)) ggX1_blocksToUndo_J6_bitCount_0f7a4
set_option maxRecDepth 20000 in
theorem ggX1_blocksToUndo_X1_checkOfImages : GoodIn wsX1_blocksToUndo wsX1_checkOfImages := goodIn_r _ [19, 1, 2, 3, 4, 5, 6, 7, 20, 21, 22, 23, 24, 25, 26] (by decide +kernel) (by decide +kernel)
set_option maxRecDepth 20000 in
theorem gX1_blocksToUndo_X1_checkOfImages : GoodIn wsX1_blocksToUndo (wsV RX1 72 RX1 yX1_checkOfImages wsX1_checkOfImages) := goodIn_app (goodIn_of _ (by decide +kernel)) ggX1_blocksToUndo_X1_checkOfImages
theorem dX1_blocksToUndo_0 : decode cX1_blocksToUndo 0 = .ok (.aload_n 0, 1) := by decide +kernel
theorem dX1_blocksToUndo_1 : decode cX1_blocksToUndo 1 = .ok (.getfield 15, 3) := by decide +kernel
theorem dX1_blocksToUndo_4 : decode cX1_blocksToUndo 4 = .ok (.bipush 16, 2) := by decide +kernel
theorem dX1_blocksToUndo_6 : decode cX1_blocksToUndo 6 = .ok (.iconst 1, 1) := by decide +kernel
theorem dX1_blocksToUndo_7 : decode cX1_blocksToUndo 7 = .ok (.invokevirtual 82, 3) := by decide +kernel
theorem dX1_blocksToUndo_10 : decode cX1_blocksToUndo 10 = .ok (.istore_n 1, 1) := by decide +kernel
theorem dX1_blocksToUndo_11 : decode cX1_blocksToUndo 11 = .ok (.aload_n 0, 1) := by decide +kernel
theorem dX1_blocksToUndo_12 : decode cX1_blocksToUndo 12 = .ok (.getfield 15, 3) := by decide +kernel
theorem dX1_blocksToUndo_15 : decode cX1_blocksToUndo 15 = .ok (.bipush 16, 2) := by decide +kernel
theorem dX1_blocksToUndo_17 : decode cX1_blocksToUndo 17 = .ok (.iconst 2, 1) := by decide +kernel
theorem dX1_blocksToUndo_18 : decode cX1_blocksToUndo 18 = .ok (.invokevirtual 82, 3) := by decide +kernel
theorem dX1_blocksToUndo_21 : decode cX1_blocksToUndo 21 = .ok (.istore_n 2, 1) := by decide +kernel
theorem dX1_blocksToUndo_22 : decode cX1_blocksToUndo 22 = .ok (.aload_n 0, 1) := by decide +kernel
theorem dX1_blocksToUndo_23 : decode cX1_blocksToUndo 23 = .ok (.getfield 15, 3) := by decide +kernel
theorem dX1_blocksToUndo_26 : decode cX1_blocksToUndo 26 = .ok (.bipush 16, 2) := by decide +kernel
theorem dX1_blocksToUndo_28 : decode cX1_blocksToUndo 28 = .ok (.iconst 0, 1) := by decide +kernel
theorem dX1_blocksToUndo_29 : decode cX1_blocksToUndo 29 = .ok (.invokevirtual 82, 3) := by decide +kernel
theorem dX1_blocksToUndo_32 : decode cX1_blocksToUndo 32 = .ok (.sipush 6517, 3) := by decide +kernel
theorem dX1_blocksToUndo_35 : decode cX1_blocksToUndo 35 = .ok (.if_icmp .ne 14, 3) := by decide +kernel
theorem dX1_blocksToUndo_38 : decode cX1_blocksToUndo 38 = .ok (.iload_n 1, 1) := by decide +kernel
theorem dX1_blocksToUndo_39 : decode cX1_blocksToUndo 39 = .ok (.iconst 1, 1) := by decide +kernel
theorem dX1_blocksToUndo_40 : decode cX1_blocksToUndo 40 = .ok (.if_icmp .lt 9, 3) := by decide +kernel
theorem dX1_blocksToUndo_43 : decode cX1_blocksToUndo 43 = .ok (.iload_n 1, 1) := by decide +kernel
theorem dX1_blocksToUndo_44 : decode cX1_blocksToUndo 44 = .ok (.bipush 16, 2) := by decide +kernel
theorem dX1_blocksToUndo_46 : decode cX1_blocksToUndo 46 = .ok (.if_icmp .le 5, 3) := by decide +kernel
theorem dX1_blocksToUndo_49 : decode cX1_blocksToUndo 49 = .ok (.iconst 0, 1) := by decide +kernel
theorem dX1_blocksToUndo_50 : decode cX1_blocksToUndo 50 = .ok (.ireturn, 1) := by decide +kernel
theorem dX1_blocksToUndo_51 : decode cX1_blocksToUndo 51 = .ok (.iload_n 2, 1) := by decide +kernel
theorem dX1_blocksToUndo_52 : decode cX1_blocksToUndo 52 = .ok (.bipush 16, 2) := by decide +kernel
theorem dX1_blocksToUndo_54 : decode cX1_blocksToUndo 54 = .ok (.iushr, 1) := by decide +kernel
theorem dX1_blocksToUndo_55 : decode cX1_blocksToUndo 55 = .ok (.ifCond .ne 11, 3) := by decide +kernel
theorem dX1_blocksToUndo_58 : decode cX1_blocksToUndo 58 = .ok (.iload_n 2, 1) := by decide +kernel
theorem dX1_blocksToUndo_59 : decode cX1_blocksToUndo 59 = .ok (.invokestatic 66, 3) := by decide +kernel
theorem dX1_blocksToUndo_62 : decode cX1_blocksToUndo 62 = .ok (.iload_n 1, 1) := by decide +kernel
theorem dX1_blocksToUndo_63 : decode cX1_blocksToUndo 63 = .ok (.if_icmp .eq 5, 3) := by decide +kernel
theorem dX1_blocksToUndo_66 : decode cX1_blocksToUndo 66 = .ok (.iconst 0, 1) := by decide +kernel
theorem dX1_blocksToUndo_67 : decode cX1_blocksToUndo 67 = .ok (.ireturn, 1) := by decide +kernel
theorem dX1_blocksToUndo_68 : decode cX1_blocksToUndo 68 = .ok (.iconst 4, 1) := by decide +kernel
theorem dX1_blocksToUndo_69 : decode cX1_blocksToUndo 69 = .ok (.istore_n 3, 1) := by decide +kernel
theorem dX1_blocksToUndo_70 : decode cX1_blocksToUndo 70 = .ok (.iload_n 3, 1) := by decide +kernel
theorem dX1_blocksToUndo_71 : decode cX1_blocksToUndo 71 = .ok (.bipush 16, 2) := by decide +kernel
theorem dX1_blocksToUndo_73 : decode cX1_blocksToUndo 73 = .ok (.if_icmp .ge 24, 3) := by decide +kernel
theorem dX1_blocksToUndo_76 : decode cX1_blocksToUndo 76 = .ok (.aload_n 0, 1) := by decide +kernel
theorem dX1_blocksToUndo_77 : decode cX1_blocksToUndo 77 = .ok (.getfield 15, 3) := by decide +kernel
theorem dX1_blocksToUndo_80 : decode cX1_blocksToUndo 80 = .ok (.bipush 16, 2) := by decide +kernel
theorem dX1_blocksToUndo_82 : decode cX1_blocksToUndo 82 = .ok (.iload_n 3, 1) := by decide +kernel
theorem dX1_blocksToUndo_83 : decode cX1_blocksToUndo 83 = .ok (.invokevirtual 82, 3) := by decide +kernel
theorem dX1_blocksToUndo_86 : decode cX1_blocksToUndo 86 = .ok (.ifCond .eq 5, 3) := by decide +kernel
theorem dX1_blocksToUndo_89 : decode cX1_blocksToUndo 89 = .ok (.iconst 0, 1) := by decide +kernel
theorem dX1_blocksToUndo_90 : decode cX1_blocksToUndo 90 = .ok (.ireturn, 1) := by decide +kernel
theorem dX1_blocksToUndo_91 : decode cX1_blocksToUndo 91 = .ok (.iinc 3 1, 3) := by decide +kernel
theorem dX1_blocksToUndo_94 : decode cX1_blocksToUndo 94 = .ok (.goto (-24), 3) := by decide +kernel
theorem dX1_blocksToUndo_97 : decode cX1_blocksToUndo 97 = .ok (.aload_n 0, 1) := by decide +kernel
theorem dX1_blocksToUndo_98 : decode cX1_blocksToUndo 98 = .ok (.getfield 15, 3) := by decide +kernel
theorem dX1_blocksToUndo_101 : decode cX1_blocksToUndo 101 = .ok (.bipush 16, 2) := by decide +kernel
theorem dX1_blocksToUndo_103 : decode cX1_blocksToUndo 103 = .ok (.iconst 3, 1) := by decide +kernel
theorem dX1_blocksToUndo_104 : decode cX1_blocksToUndo 104 = .ok (.invokevirtual 82, 3) := by decide +kernel
end
section
theorem dX1_blocksToUndo_107 : decode cX1_blocksToUndo 107 = .ok (.aload_n 0, 1) := by decide +kernel
theorem dX1_blocksToUndo_108 : decode cX1_blocksToUndo 108 = .ok (.iload_n 1, 1) := by decide +kernel
theorem dX1_blocksToUndo_109 : decode cX1_blocksToUndo 109 = .ok (.invokevirtual 72, 3) := by decide +kernel
theorem dX1_blocksToUndo_112 : decode cX1_blocksToUndo 112 = .ok (.if_icmp .ne 7, 3) := by decide +kernel
theorem dX1_blocksToUndo_115 : decode cX1_blocksToUndo 115 = .ok (.iload_n 2, 1) := by decide +kernel
theorem dX1_blocksToUndo_116 : decode cX1_blocksToUndo 116 = .ok (.goto 4, 3) := by decide +kernel
theorem dX1_blocksToUndo_119 : decode cX1_blocksToUndo 119 = .ok (.iconst 0, 1) := by decide +kernel
theorem dX1_blocksToUndo_120 : decode cX1_blocksToUndo 120 = .ok (.ireturn, 1) := by decide +kernel
set_option maxRecDepth 20000 in
theorem ggX1_checkOfImages_X0_word : GoodIn wsX1_checkOfImages wsX0_word := goodIn_r _ [6, 7, 11, 12, 13, 14] (by decide +kernel) (by decide +kernel)
set_option maxRecDepth 20000 in
theorem gX1_checkOfImages_X0_word : GoodIn wsX1_checkOfImages (wsV RX1 82 RX0 yX0_word wsX0_word) := goodIn_app (goodIn_of _ (by decide +kernel)) ggX1_checkOfImages_X0_word
theorem dX1_checkOfImages_0 : decode cX1_checkOfImages 0 = .ok (.iconst 1, 1) := by decide +kernel
theorem dX1_checkOfImages_1 : decode cX1_checkOfImages 1 = .ok (.istore_n 2, 1) := by decide +kernel
theorem dX1_checkOfImages_2 : decode cX1_checkOfImages 2 = .ok (.bipush 17, 2) := by decide +kernel
theorem dX1_checkOfImages_4 : decode cX1_checkOfImages 4 = .ok (.istore_n 3, 1) := by decide +kernel
theorem dX1_checkOfImages_5 : decode cX1_checkOfImages 5 = .ok (.iload_n 3, 1) := by decide +kernel
theorem dX1_checkOfImages_6 : decode cX1_checkOfImages 6 = .ok (.bipush 17, 2) := by decide +kernel
theorem dX1_checkOfImages_8 : decode cX1_checkOfImages 8 = .ok (.iload_n 1, 1) := by decide +kernel
theorem dX1_checkOfImages_9 : decode cX1_checkOfImages 9 = .ok (.iadd, 1) := by decide +kernel
theorem dX1_checkOfImages_10 : decode cX1_checkOfImages 10 = .ok (.if_icmp .ge 41, 3) := by decide +kernel
theorem dX1_checkOfImages_13 : decode cX1_checkOfImages 13 = .ok (.iconst 0, 1) := by decide +kernel
theorem dX1_checkOfImages_14 : decode cX1_checkOfImages 14 = .ok (.istore 4, 2) := by decide +kernel
theorem dX1_checkOfImages_16 : decode cX1_checkOfImages 16 = .ok (.iload 4, 2) := by decide +kernel
theorem dX1_checkOfImages_18 : decode cX1_checkOfImages 18 = .ok (.bipush 16, 2) := by decide +kernel
theorem dX1_checkOfImages_20 : decode cX1_checkOfImages 20 = .ok (.if_icmp .ge 25, 3) := by decide +kernel
theorem dX1_checkOfImages_23 : decode cX1_checkOfImages 23 = .ok (.bipush 31, 2) := by decide +kernel
theorem dX1_checkOfImages_25 : decode cX1_checkOfImages 25 = .ok (.iload_n 2, 1) := by decide +kernel
theorem dX1_checkOfImages_26 : decode cX1_checkOfImages 26 = .ok (.imul, 1) := by decide +kernel
theorem dX1_checkOfImages_27 : decode cX1_checkOfImages 27 = .ok (.aload_n 0, 1) := by decide +kernel
theorem dX1_checkOfImages_28 : decode cX1_checkOfImages 28 = .ok (.getfield 15, 3) := by decide +kernel
theorem dX1_checkOfImages_31 : decode cX1_checkOfImages 31 = .ok (.iload_n 3, 1) := by decide +kernel
theorem dX1_checkOfImages_32 : decode cX1_checkOfImages 32 = .ok (.iload 4, 2) := by decide +kernel
theorem dX1_checkOfImages_34 : decode cX1_checkOfImages 34 = .ok (.invokevirtual 82, 3) := by decide +kernel
theorem dX1_checkOfImages_37 : decode cX1_checkOfImages 37 = .ok (.iadd, 1) := by decide +kernel
theorem dX1_checkOfImages_38 : decode cX1_checkOfImages 38 = .ok (.istore_n 2, 1) := by decide +kernel
theorem dX1_checkOfImages_39 : decode cX1_checkOfImages 39 = .ok (.iinc 4 1, 3) := by decide +kernel
theorem dX1_checkOfImages_42 : decode cX1_checkOfImages 42 = .ok (.goto (-26), 3) := by decide +kernel
theorem dX1_checkOfImages_45 : decode cX1_checkOfImages 45 = .ok (.iinc 3 1, 3) := by decide +kernel
theorem dX1_checkOfImages_48 : decode cX1_checkOfImages 48 = .ok (.goto (-43), 3) := by decide +kernel
theorem dX1_checkOfImages_51 : decode cX1_checkOfImages 51 = .ok (.iload_n 2, 1) := by decide +kernel
theorem dX1_checkOfImages_52 : decode cX1_checkOfImages 52 = .ok (.ireturn, 1) := by decide +kernel
set_option maxRecDepth 20000 in
theorem ggX1_imageOf_J6_bitCount_0f7a4 : GoodIn wsX1_imageOf wsJ6_bitCount_0f7a4 := goodIn_r _ [4, 5, 6, 7] (by decide +kernel) (by decide +kernel)
set_option maxRecDepth 20000 in
theorem gX1_imageOf_J6_bitCount_0f7a4 : GoodIn wsX1_imageOf (va_wsS RX1 66 yJ6_bitCount_0f7a4 wsJ6_bitCount_0f7a4) := goodIn_app (goodIn_of _ (by decide +kernel)) ggX1_imageOf_J6_bitCount_0f7a4
theorem dX1_imageOf_0 : decode cX1_imageOf 0 = .ok (.bipush 17, 2) := by decide +kernel
theorem dX1_imageOf_2 : decode cX1_imageOf 2 = .ok (.iload_n 0, 1) := by decide +kernel
theorem dX1_imageOf_3 : decode cX1_imageOf 3 = .ok (.iconst 1, 1) := by decide +kernel
theorem dX1_imageOf_4 : decode cX1_imageOf 4 = .ok (.iload_n 1, 1) := by decide +kernel
theorem dX1_imageOf_5 : decode cX1_imageOf 5 = .ok (.ishl, 1) := by decide +kernel
theorem dX1_imageOf_6 : decode cX1_imageOf 6 = .ok (.iconst 1, 1) := by decide +kernel
theorem dX1_imageOf_7 : decode cX1_imageOf 7 = .ok (.isub, 1) := by decide +kernel
theorem dX1_imageOf_8 : decode cX1_imageOf 8 = .ok (.iand, 1) := by decide +kernel
theorem dX1_imageOf_9 : decode cX1_imageOf 9 = .ok (.invokestatic 66, 3) := by decide +kernel
theorem dX1_imageOf_12 : decode cX1_imageOf 12 = .ok (.iadd, 1) := by decide +kernel
theorem dX1_imageOf_13 : decode cX1_imageOf 13 = .ok (.ireturn, 1) := by decide +kernel
theorem dX1_contains_0 : decode cX1_contains 0 = .ok (.iload_n 0, 1) := by decide +kernel
theorem dX1_contains_1 : decode cX1_contains 1 = .ok (.iload_n 1, 1) := by decide +kernel
theorem dX1_contains_2 : decode cX1_contains 2 = .ok (.ishr, 1) := by decide +kernel
theorem dX1_contains_3 : decode cX1_contains 3 = .ok (.iconst 1, 1) := by decide +kernel
theorem dX1_contains_4 : decode cX1_contains 4 = .ok (.iand, 1) := by decide +kernel
theorem dX1_contains_5 : decode cX1_contains 5 = .ok (.iconst 1, 1) := by decide +kernel
theorem dX1_contains_6 : decode cX1_contains 6 = .ok (.if_icmp .ne 7, 3) := by decide +kernel
theorem dX1_contains_9 : decode cX1_contains 9 = .ok (.iconst 1, 1) := by decide +kernel
theorem dX1_contains_10 : decode cX1_contains 10 = .ok (.goto 4, 3) := by decide +kernel
theorem dX1_contains_13 : decode cX1_contains 13 = .ok (.iconst 0, 1) := by decide +kernel
theorem dX1_contains_14 : decode cX1_contains 14 = .ok (.ireturn, 1) := by decide +kernel
theorem dX2_init_0 : decode cX2_init 0 = .ok (.aload_n 0, 1) := by decide +kernel
theorem dX2_init_1 : decode cX2_init 1 = .ok (.invokespecial 3, 3) := by decide +kernel
theorem dX2_init_4 : decode cX2_init 4 = .ok (.aload_n 0, 1) := by decide +kernel
theorem dX2_init_5 : decode cX2_init 5 = .ok (.sipush 256, 3) := by decide +kernel
theorem dX2_init_8 : decode cX2_init 8 = .ok (.newarray .int, 2) := by decide +kernel
theorem dX2_init_10 : decode cX2_init 10 = .ok (.putfield 9, 3) := by decide +kernel
theorem dX2_init_13 : decode cX2_init 13 = .ok (.return_, 1) := by decide +kernel
theorem dX2_load_0 : decode cX2_load 0 = .ok (.aload_n 1, 1) := by decide +kernel
theorem dX2_load_1 : decode cX2_load 1 = .ok (.getfield 15, 3) := by decide +kernel
theorem dX2_load_4 : decode cX2_load 4 = .ok (.iconst 0, 1) := by decide +kernel
theorem dX2_load_5 : decode cX2_load 5 = .ok (.aload_n 0, 1) := by decide +kernel
theorem dX2_load_6 : decode cX2_load 6 = .ok (.getfield 9, 3) := by decide +kernel
theorem dX2_load_9 : decode cX2_load 9 = .ok (.iconst 0, 1) := by decide +kernel
theorem dX2_load_10 : decode cX2_load 10 = .ok (.aload_n 0, 1) := by decide +kernel
theorem dX2_load_11 : decode cX2_load 11 = .ok (.getfield 9, 3) := by decide +kernel
theorem dX2_load_14 : decode cX2_load 14 = .ok (.arraylength, 1) := by decide +kernel
theorem dX2_load_15 : decode cX2_load 15 = .ok (.invokestatic 18, 3) := by decide +kernel
theorem dX2_load_18 : decode cX2_load 18 = .ok (.return_, 1) := by decide +kernel
theorem dX2_differs_0 : decode cX2_differs 0 = .ok (.iload_n 2, 1) := by decide +kernel
theorem dX2_differs_1 : decode cX2_differs 1 = .ok (.bipush 16, 2) := by decide +kernel
theorem dX2_differs_3 : decode cX2_differs 3 = .ok (.imul, 1) := by decide +kernel
theorem dX2_differs_4 : decode cX2_differs 4 = .ok (.istore_n 3, 1) := by decide +kernel
theorem dX2_differs_5 : decode cX2_differs 5 = .ok (.iload_n 3, 1) := by decide +kernel
theorem dX2_differs_6 : decode cX2_differs 6 = .ok (.istore 4, 2) := by decide +kernel
theorem dX2_differs_8 : decode cX2_differs 8 = .ok (.iload 4, 2) := by decide +kernel
theorem dX2_differs_10 : decode cX2_differs 10 = .ok (.iload_n 3, 1) := by decide +kernel
theorem dX2_differs_11 : decode cX2_differs 11 = .ok (.bipush 16, 2) := by decide +kernel
theorem dX2_differs_13 : decode cX2_differs 13 = .ok (.iadd, 1) := by decide +kernel
theorem dX2_differs_14 : decode cX2_differs 14 = .ok (.if_icmp .ge 28, 3) := by decide +kernel
theorem dX2_differs_17 : decode cX2_differs 17 = .ok (.aload_n 0, 1) := by decide +kernel
theorem dX2_differs_18 : decode cX2_differs 18 = .ok (.getfield 9, 3) := by decide +kernel
theorem dX2_differs_21 : decode cX2_differs 21 = .ok (.iload 4, 2) := by decide +kernel
theorem dX2_differs_23 : decode cX2_differs 23 = .ok (.iaload, 1) := by decide +kernel
theorem dX2_differs_24 : decode cX2_differs 24 = .ok (.aload_n 1, 1) := by decide +kernel
theorem dX2_differs_25 : decode cX2_differs 25 = .ok (.getfield 15, 3) := by decide +kernel
theorem dX2_differs_28 : decode cX2_differs 28 = .ok (.iload 4, 2) := by decide +kernel
theorem dX2_differs_30 : decode cX2_differs 30 = .ok (.iaload, 1) := by decide +kernel
theorem dX2_differs_31 : decode cX2_differs 31 = .ok (.if_icmp .eq 5, 3) := by decide +kernel
theorem dX2_differs_34 : decode cX2_differs 34 = .ok (.iconst 1, 1) := by decide +kernel
theorem dX2_differs_35 : decode cX2_differs 35 = .ok (.ireturn, 1) := by decide +kernel
theorem dX2_differs_36 : decode cX2_differs 36 = .ok (.iinc 4 1, 3) := by decide +kernel
theorem dX2_differs_39 : decode cX2_differs 39 = .ok (.goto (-31), 3) := by decide +kernel
theorem dX2_differs_42 : decode cX2_differs 42 = .ok (.iconst 0, 1) := by decide +kernel
theorem dX2_differs_43 : decode cX2_differs 43 = .ok (.ireturn, 1) := by decide +kernel
set_option maxRecDepth 20000 in
theorem ggX2_save_X0_write : GoodIn wsX2_save wsX0_write := goodIn_r _ [6, 7, 8, 9, 10, 11, 12, 13, 14, 16, 17, 18, 19] (by decide +kernel) (by decide +kernel)
set_option maxRecDepth 20000 in
theorem gX2_save_X0_write : GoodIn wsX2_save (wsV RX2 24 RX0 yX0_write wsX0_write) := goodIn_app (goodIn_of _ (by decide +kernel)) ggX2_save_X0_write
theorem dX2_save_0 : decode cX2_save 0 = .ok (.aload_n 1, 1) := by decide +kernel
theorem dX2_save_1 : decode cX2_save 1 = .ok (.iload_n 2, 1) := by decide +kernel
theorem dX2_save_2 : decode cX2_save 2 = .ok (.aload_n 0, 1) := by decide +kernel
theorem dX2_save_3 : decode cX2_save 3 = .ok (.getfield 9, 3) := by decide +kernel
theorem dX2_save_6 : decode cX2_save 6 = .ok (.iload_n 2, 1) := by decide +kernel
theorem dX2_save_7 : decode cX2_save 7 = .ok (.invokevirtual 24, 3) := by decide +kernel
theorem dX2_save_10 : decode cX2_save 10 = .ok (.ireturn, 1) := by decide +kernel
theorem dX2_word_0 : decode cX2_word 0 = .ok (.aload_n 0, 1) := by decide +kernel
theorem dX2_word_1 : decode cX2_word 1 = .ok (.getfield 9, 3) := by decide +kernel
theorem dX2_word_4 : decode cX2_word 4 = .ok (.iload_n 1, 1) := by decide +kernel
theorem dX2_word_5 : decode cX2_word 5 = .ok (.iaload, 1) := by decide +kernel
theorem dX2_word_6 : decode cX2_word 6 = .ok (.ireturn, 1) := by decide +kernel
theorem dX2_setWord_0 : decode cX2_setWord 0 = .ok (.aload_n 0, 1) := by decide +kernel
theorem dX2_setWord_1 : decode cX2_setWord 1 = .ok (.getfield 9, 3) := by decide +kernel
theorem dX2_setWord_4 : decode cX2_setWord 4 = .ok (.iload_n 1, 1) := by decide +kernel
theorem dX2_setWord_5 : decode cX2_setWord 5 = .ok (.iload_n 2, 1) := by decide +kernel
theorem dX2_setWord_6 : decode cX2_setWord 6 = .ok (.iastore, 1) := by decide +kernel
theorem dX2_setWord_7 : decode cX2_setWord 7 = .ok (.return_, 1) := by decide +kernel
theorem dX2_hasTable_0 : decode cX2_hasTable 0 = .ok (.iload_n 1, 1) := by decide +kernel
theorem dX2_hasTable_1 : decode cX2_hasTable 1 = .ok (.ifCond .lt 21, 3) := by decide +kernel
theorem dX2_hasTable_4 : decode cX2_hasTable 4 = .ok (.iload_n 1, 1) := by decide +kernel
theorem dX2_hasTable_5 : decode cX2_hasTable 5 = .ok (.iconst 5, 1) := by decide +kernel
theorem dX2_hasTable_6 : decode cX2_hasTable 6 = .ok (.if_icmp .ge 16, 3) := by decide +kernel
theorem dX2_hasTable_9 : decode cX2_hasTable 9 = .ok (.aload_n 0, 1) := by decide +kernel
theorem dX2_hasTable_10 : decode cX2_hasTable 10 = .ok (.getfield 9, 3) := by decide +kernel
theorem dX2_hasTable_13 : decode cX2_hasTable 13 = .ok (.iload_n 1, 1) := by decide +kernel
theorem dX2_hasTable_14 : decode cX2_hasTable 14 = .ok (.iaload, 1) := by decide +kernel
theorem dX2_hasTable_15 : decode cX2_hasTable 15 = .ok (.ifCond .eq 7, 3) := by decide +kernel
theorem dX2_hasTable_18 : decode cX2_hasTable 18 = .ok (.iconst 1, 1) := by decide +kernel
theorem dX2_hasTable_19 : decode cX2_hasTable 19 = .ok (.goto 4, 3) := by decide +kernel
theorem dX2_hasTable_22 : decode cX2_hasTable 22 = .ok (.iconst 0, 1) := by decide +kernel
theorem dX2_hasTable_23 : decode cX2_hasTable 23 = .ok (.ireturn, 1) := by decide +kernel
set_option maxRecDepth 20000 in
theorem ggX2_width_X2_hasTable : GoodIn wsX2_width wsX2_hasTable := goodIn_r _ [6, 1, 7] (by decide +kernel) (by decide +kernel)
set_option maxRecDepth 20000 in
theorem gX2_width_X2_hasTable : GoodIn wsX2_width (wsV RX2 28 RX2 yX2_hasTable wsX2_hasTable) := goodIn_app (goodIn_of _ (by decide +kernel)) ggX2_width_X2_hasTable
theorem dX2_width_0 : decode cX2_width 0 = .ok (.aload_n 0, 1) := by decide +kernel
theorem dX2_width_1 : decode cX2_width 1 = .ok (.iload_n 1, 1) := by decide +kernel
theorem dX2_width_2 : decode cX2_width 2 = .ok (.invokevirtual 28, 3) := by decide +kernel
theorem dX2_width_5 : decode cX2_width 5 = .ok (.ifCond .eq 12, 3) := by decide +kernel
theorem dX2_width_8 : decode cX2_width 8 = .ok (.aload_n 0, 1) := by decide +kernel
theorem dX2_width_9 : decode cX2_width 9 = .ok (.getfield 9, 3) := by decide +kernel
theorem dX2_width_12 : decode cX2_width 12 = .ok (.iload_n 1, 1) := by decide +kernel
theorem dX2_width_13 : decode cX2_width 13 = .ok (.iaload, 1) := by decide +kernel
theorem dX2_width_14 : decode cX2_width 14 = .ok (.goto 4, 3) := by decide +kernel
theorem dX2_width_17 : decode cX2_width 17 = .ok (.iconst 0, 1) := by decide +kernel
theorem dX2_width_18 : decode cX2_width 18 = .ok (.ireturn, 1) := by decide +kernel
set_option maxRecDepth 20000 in
theorem ggX2_hasCol_X2_width : GoodIn wsX2_hasCol wsX2_width := goodIn_r _ [5, 6, 7, 8, 9, 4, 10, 11] (by decide +kernel) (by decide +kernel)
set_option maxRecDepth 20000 in
theorem gX2_hasCol_X2_width : GoodIn wsX2_hasCol (wsV RX2 32 RX2 yX2_width wsX2_width) := goodIn_app (goodIn_of _ (by decide +kernel)) ggX2_hasCol_X2_width
theorem dX2_hasCol_0 : decode cX2_hasCol 0 = .ok (.iload_n 2, 1) := by decide +kernel
theorem dX2_hasCol_1 : decode cX2_hasCol 1 = .ok (.ifCond .lt 16, 3) := by decide +kernel
theorem dX2_hasCol_4 : decode cX2_hasCol 4 = .ok (.iload_n 2, 1) := by decide +kernel
theorem dX2_hasCol_5 : decode cX2_hasCol 5 = .ok (.aload_n 0, 1) := by decide +kernel
theorem dX2_hasCol_6 : decode cX2_hasCol 6 = .ok (.iload_n 1, 1) := by decide +kernel
theorem dX2_hasCol_7 : decode cX2_hasCol 7 = .ok (.invokevirtual 32, 3) := by decide +kernel
theorem dX2_hasCol_10 : decode cX2_hasCol 10 = .ok (.if_icmp .ge 7, 3) := by decide +kernel
theorem dX2_hasCol_13 : decode cX2_hasCol 13 = .ok (.iconst 1, 1) := by decide +kernel
theorem dX2_hasCol_14 : decode cX2_hasCol 14 = .ok (.goto 4, 3) := by decide +kernel
theorem dX2_hasCol_17 : decode cX2_hasCol 17 = .ok (.iconst 0, 1) := by decide +kernel
theorem dX2_hasCol_18 : decode cX2_hasCol 18 = .ok (.ireturn, 1) := by decide +kernel
theorem dX2_freeTable_0 : decode cX2_freeTable 0 = .ok (.iconst 0, 1) := by decide +kernel
theorem dX2_freeTable_1 : decode cX2_freeTable 1 = .ok (.istore_n 1, 1) := by decide +kernel
theorem dX2_freeTable_2 : decode cX2_freeTable 2 = .ok (.iload_n 1, 1) := by decide +kernel
theorem dX2_freeTable_3 : decode cX2_freeTable 3 = .ok (.iconst 5, 1) := by decide +kernel
theorem dX2_freeTable_4 : decode cX2_freeTable 4 = .ok (.if_icmp .ge 20, 3) := by decide +kernel
theorem dX2_freeTable_7 : decode cX2_freeTable 7 = .ok (.aload_n 0, 1) := by decide +kernel
theorem dX2_freeTable_8 : decode cX2_freeTable 8 = .ok (.getfield 9, 3) := by decide +kernel
theorem dX2_freeTable_11 : decode cX2_freeTable 11 = .ok (.iload_n 1, 1) := by decide +kernel
theorem dX2_freeTable_12 : decode cX2_freeTable 12 = .ok (.iaload, 1) := by decide +kernel
theorem dX2_freeTable_13 : decode cX2_freeTable 13 = .ok (.ifCond .ne 5, 3) := by decide +kernel
theorem dX2_freeTable_16 : decode cX2_freeTable 16 = .ok (.iload_n 1, 1) := by decide +kernel
theorem dX2_freeTable_17 : decode cX2_freeTable 17 = .ok (.ireturn, 1) := by decide +kernel
theorem dX2_freeTable_18 : decode cX2_freeTable 18 = .ok (.iinc 1 1, 3) := by decide +kernel
theorem dX2_freeTable_21 : decode cX2_freeTable 21 = .ok (.goto (-19), 3) := by decide +kernel
theorem dX2_freeTable_24 : decode cX2_freeTable 24 = .ok (.iconst (-1), 1) := by decide +kernel
theorem dX2_freeTable_25 : decode cX2_freeTable 25 = .ok (.ireturn, 1) := by decide +kernel
theorem dX2_addTable_0 : decode cX2_addTable 0 = .ok (.aload_n 0, 1) := by decide +kernel
theorem dX2_addTable_1 : decode cX2_addTable 1 = .ok (.getfield 9, 3) := by decide +kernel
theorem dX2_addTable_4 : decode cX2_addTable 4 = .ok (.iload_n 1, 1) := by decide +kernel
theorem dX2_addTable_5 : decode cX2_addTable 5 = .ok (.iload_n 2, 1) := by decide +kernel
theorem dX2_addTable_6 : decode cX2_addTable 6 = .ok (.iastore, 1) := by decide +kernel
theorem dX2_addTable_7 : decode cX2_addTable 7 = .ok (.return_, 1) := by decide +kernel
set_option maxRecDepth 20000 in
theorem ggX2_removeTable_X2_isPageOf : GoodIn wsX2_removeTable wsX2_isPageOf := goodIn_r _ [6, 1, 11] (by decide +kernel) (by decide +kernel)
set_option maxRecDepth 20000 in
theorem gX2_removeTable_X2_isPageOf : GoodIn wsX2_removeTable (wsV RX2 36 RX2 yX2_isPageOf wsX2_isPageOf) := goodIn_app (goodIn_of _ (by decide +kernel)) ggX2_removeTable_X2_isPageOf
set_option maxRecDepth 20000 in
theorem ggX2_removeTable_X2_clear : GoodIn wsX2_removeTable wsX2_clear := goodIn_r _ [10, 1, 11] (by decide +kernel) (by decide +kernel)
set_option maxRecDepth 20000 in
theorem gX2_removeTable_X2_clear : GoodIn wsX2_removeTable (wsV RX2 40 RX2 yX2_clear wsX2_clear) := goodIn_app (goodIn_of _ (by decide +kernel)) ggX2_removeTable_X2_clear
theorem dX2_removeTable_0 : decode cX2_removeTable 0 = .ok (.iconst 1, 1) := by decide +kernel
theorem dX2_removeTable_1 : decode cX2_removeTable 1 = .ok (.istore_n 2, 1) := by decide +kernel
theorem dX2_removeTable_2 : decode cX2_removeTable 2 = .ok (.iload_n 2, 1) := by decide +kernel
theorem dX2_removeTable_3 : decode cX2_removeTable 3 = .ok (.bipush 16, 2) := by decide +kernel
theorem dX2_removeTable_5 : decode cX2_removeTable 5 = .ok (.if_icmp .ge 28, 3) := by decide +kernel
theorem dX2_removeTable_8 : decode cX2_removeTable 8 = .ok (.aload_n 0, 1) := by decide +kernel
theorem dX2_removeTable_9 : decode cX2_removeTable 9 = .ok (.iload_n 1, 1) := by decide +kernel
theorem dX2_removeTable_10 : decode cX2_removeTable 10 = .ok (.iload_n 2, 1) := by decide +kernel
theorem dX2_removeTable_11 : decode cX2_removeTable 11 = .ok (.invokevirtual 36, 3) := by decide +kernel
theorem dX2_removeTable_14 : decode cX2_removeTable 14 = .ok (.ifCond .eq 13, 3) := by decide +kernel
theorem dX2_removeTable_17 : decode cX2_removeTable 17 = .ok (.aload_n 0, 1) := by decide +kernel
theorem dX2_removeTable_18 : decode cX2_removeTable 18 = .ok (.iload_n 2, 1) := by decide +kernel
theorem dX2_removeTable_19 : decode cX2_removeTable 19 = .ok (.bipush 16, 2) := by decide +kernel
theorem dX2_removeTable_21 : decode cX2_removeTable 21 = .ok (.imul, 1) := by decide +kernel
theorem dX2_removeTable_22 : decode cX2_removeTable 22 = .ok (.bipush 16, 2) := by decide +kernel
theorem dX2_removeTable_24 : decode cX2_removeTable 24 = .ok (.invokevirtual 40, 3) := by decide +kernel
theorem dX2_removeTable_27 : decode cX2_removeTable 27 = .ok (.iinc 2 1, 3) := by decide +kernel
theorem dX2_removeTable_30 : decode cX2_removeTable 30 = .ok (.goto (-28), 3) := by decide +kernel
theorem dX2_removeTable_33 : decode cX2_removeTable 33 = .ok (.aload_n 0, 1) := by decide +kernel
theorem dX2_removeTable_34 : decode cX2_removeTable 34 = .ok (.getfield 9, 3) := by decide +kernel
theorem dX2_removeTable_37 : decode cX2_removeTable 37 = .ok (.bipush 8, 2) := by decide +kernel
theorem dX2_removeTable_39 : decode cX2_removeTable 39 = .ok (.iload_n 1, 1) := by decide +kernel
theorem dX2_removeTable_40 : decode cX2_removeTable 40 = .ok (.iadd, 1) := by decide +kernel
theorem dX2_removeTable_41 : decode cX2_removeTable 41 = .ok (.iconst 0, 1) := by decide +kernel
theorem dX2_removeTable_42 : decode cX2_removeTable 42 = .ok (.iastore, 1) := by decide +kernel
theorem dX2_removeTable_43 : decode cX2_removeTable 43 = .ok (.aload_n 0, 1) := by decide +kernel
theorem dX2_removeTable_44 : decode cX2_removeTable 44 = .ok (.getfield 9, 3) := by decide +kernel
theorem dX2_removeTable_47 : decode cX2_removeTable 47 = .ok (.iload_n 1, 1) := by decide +kernel
theorem dX2_removeTable_48 : decode cX2_removeTable 48 = .ok (.iconst 0, 1) := by decide +kernel
theorem dX2_removeTable_49 : decode cX2_removeTable 49 = .ok (.iastore, 1) := by decide +kernel
theorem dX2_removeTable_50 : decode cX2_removeTable 50 = .ok (.return_, 1) := by decide +kernel
set_option maxRecDepth 20000 in
theorem ggX2_rowOf_X2_leastRow : GoodIn wsX2_rowOf wsX2_leastRow := goodIn_r _ [5, 6, 7, 8, 9, 4, 10, 11, 12, 13, 14, 15, 16, 17, 18, 19, 20, 21, 22, 23, 24, 25, 26, 27, 28, 29, 30, 31] (by decide +kernel) (by decide +kernel)
set_option maxRecDepth 20000 in
theorem gX2_rowOf_X2_leastRow : GoodIn wsX2_rowOf (wsV RX2 44 RX2 yX2_leastRow wsX2_leastRow) := goodIn_app (goodIn_of _ (by decide +kernel)) ggX2_rowOf_X2_leastRow
theorem dX2_rowOf_0 : decode cX2_rowOf 0 = .ok (.aload_n 0, 1) := by decide +kernel
theorem dX2_rowOf_1 : decode cX2_rowOf 1 = .ok (.iload_n 1, 1) := by decide +kernel
theorem dX2_rowOf_2 : decode cX2_rowOf 2 = .ok (.iconst 0, 1) := by decide +kernel
theorem dX2_rowOf_3 : decode cX2_rowOf 3 = .ok (.iload_n 2, 1) := by decide +kernel
theorem dX2_rowOf_4 : decode cX2_rowOf 4 = .ok (.iload_n 2, 1) := by decide +kernel
theorem dX2_rowOf_5 : decode cX2_rowOf 5 = .ok (.iload_n 2, 1) := by decide +kernel
theorem dX2_rowOf_6 : decode cX2_rowOf 6 = .ok (.i2l, 1) := by decide +kernel
theorem dX2_rowOf_7 : decode cX2_rowOf 7 = .ok (.lconst 1, 1) := by decide +kernel
theorem dX2_rowOf_8 : decode cX2_rowOf 8 = .ok (.lsub, 1) := by decide +kernel
theorem dX2_rowOf_9 : decode cX2_rowOf 9 = .ok (.invokevirtual 44, 3) := by decide +kernel
theorem dX2_rowOf_12 : decode cX2_rowOf 12 = .ok (.ireturn, 1) := by decide +kernel
set_option maxRecDepth 20000 in
theorem ggX2_leastRow_X2_slots : GoodIn wsX2_leastRow wsX2_slots := goodIn_r _ [6, 7, 8, 9, 5, 10, 1, 11, 12, 13, 14, 27] (by decide +kernel) (by decide +kernel)
set_option maxRecDepth 20000 in
theorem gX2_leastRow_X2_slots : GoodIn wsX2_leastRow (wsV RX2 48 RX2 yX2_slots wsX2_slots) := goodIn_app (goodIn_of _ (by decide +kernel)) ggX2_leastRow_X2_slots
set_option maxRecDepth 20000 in
theorem ggX2_leastRow_X2_isPageOf : GoodIn wsX2_leastRow wsX2_isPageOf := goodIn_r _ [18, 1, 27] (by decide +kernel) (by decide +kernel)
set_option maxRecDepth 20000 in
theorem gX2_leastRow_X2_isPageOf : GoodIn wsX2_leastRow (wsV RX2 36 RX2 yX2_isPageOf wsX2_isPageOf) := goodIn_app (goodIn_of _ (by decide +kernel)) ggX2_leastRow_X2_isPageOf
set_option maxRecDepth 20000 in
theorem ggX2_leastRow_X2_rowAt : GoodIn wsX2_leastRow wsX2_rowAt := goodIn_r _ [22, 7, 8, 9, 5, 10, 1, 11, 12, 13, 14, 27] (by decide +kernel) (by decide +kernel)
set_option maxRecDepth 20000 in
theorem gX2_leastRow_X2_rowAt : GoodIn wsX2_leastRow (wsV RX2 51 RX2 yX2_rowAt wsX2_rowAt) := goodIn_app (goodIn_of _ (by decide +kernel)) ggX2_leastRow_X2_rowAt
set_option maxRecDepth 20000 in
theorem ggX2_leastRow_X2_hasRow : GoodIn wsX2_leastRow wsX2_hasRow := goodIn_r _ [26, 1, 27] (by decide +kernel) (by decide +kernel)
set_option maxRecDepth 20000 in
theorem gX2_leastRow_X2_hasRow : GoodIn wsX2_leastRow (wsV RX2 55 RX2 yX2_hasRow wsX2_hasRow) := goodIn_app (goodIn_of _ (by decide +kernel)) ggX2_leastRow_X2_hasRow
theorem dX2_leastRow_0 : decode cX2_leastRow 0 = .ok (.iconst (-1), 1) := by decide +kernel
theorem dX2_leastRow_1 : decode cX2_leastRow 1 = .ok (.istore 7, 2) := by decide +kernel
theorem dX2_leastRow_3 : decode cX2_leastRow 3 = .ok (.aload_n 0, 1) := by decide +kernel
theorem dX2_leastRow_4 : decode cX2_leastRow 4 = .ok (.iload_n 1, 1) := by decide +kernel
theorem dX2_leastRow_5 : decode cX2_leastRow 5 = .ok (.invokevirtual 48, 3) := by decide +kernel
theorem dX2_leastRow_8 : decode cX2_leastRow 8 = .ok (.istore 8, 2) := by decide +kernel
theorem dX2_leastRow_10 : decode cX2_leastRow 10 = .ok (.iconst 1, 1) := by decide +kernel
theorem dX2_leastRow_11 : decode cX2_leastRow 11 = .ok (.istore 9, 2) := by decide +kernel
theorem dX2_leastRow_13 : decode cX2_leastRow 13 = .ok (.iload 9, 2) := by decide +kernel
theorem dX2_leastRow_15 : decode cX2_leastRow 15 = .ok (.bipush 16, 2) := by decide +kernel
theorem dX2_leastRow_17 : decode cX2_leastRow 17 = .ok (.if_icmp .ge 145, 3) := by decide +kernel
theorem dX2_leastRow_20 : decode cX2_leastRow 20 = .ok (.aload_n 0, 1) := by decide +kernel
theorem dX2_leastRow_21 : decode cX2_leastRow 21 = .ok (.iload_n 1, 1) := by decide +kernel
theorem dX2_leastRow_22 : decode cX2_leastRow 22 = .ok (.iload 9, 2) := by decide +kernel
theorem dX2_leastRow_24 : decode cX2_leastRow 24 = .ok (.invokevirtual 36, 3) := by decide +kernel
theorem dX2_leastRow_27 : decode cX2_leastRow 27 = .ok (.ifCond .eq 8, 3) := by decide +kernel
theorem dX2_leastRow_30 : decode cX2_leastRow 30 = .ok (.iload 8, 2) := by decide +kernel
theorem dX2_leastRow_32 : decode cX2_leastRow 32 = .ok (.goto 4, 3) := by decide +kernel
theorem dX2_leastRow_35 : decode cX2_leastRow 35 = .ok (.iconst 0, 1) := by decide +kernel
theorem dX2_leastRow_36 : decode cX2_leastRow 36 = .ok (.istore 10, 2) := by decide +kernel
theorem dX2_leastRow_38 : decode cX2_leastRow 38 = .ok (.iconst 0, 1) := by decide +kernel
theorem dX2_leastRow_39 : decode cX2_leastRow 39 = .ok (.istore 11, 2) := by decide +kernel
theorem dX2_leastRow_41 : decode cX2_leastRow 41 = .ok (.iload 11, 2) := by decide +kernel
theorem dX2_leastRow_43 : decode cX2_leastRow 43 = .ok (.iload 10, 2) := by decide +kernel
theorem dX2_leastRow_45 : decode cX2_leastRow 45 = .ok (.if_icmp .ge 111, 3) := by decide +kernel
theorem dX2_leastRow_48 : decode cX2_leastRow 48 = .ok (.aload_n 0, 1) := by decide +kernel
theorem dX2_leastRow_49 : decode cX2_leastRow 49 = .ok (.iload_n 1, 1) := by decide +kernel
theorem dX2_leastRow_50 : decode cX2_leastRow 50 = .ok (.iload 9, 2) := by decide +kernel
theorem dX2_leastRow_52 : decode cX2_leastRow 52 = .ok (.iload 11, 2) := by decide +kernel
theorem dX2_leastRow_54 : decode cX2_leastRow 54 = .ok (.invokevirtual 51, 3) := by decide +kernel
theorem dX2_leastRow_57 : decode cX2_leastRow 57 = .ok (.istore 12, 2) := by decide +kernel
theorem dX2_leastRow_59 : decode cX2_leastRow 59 = .ok (.aload_n 0, 1) := by decide +kernel
theorem dX2_leastRow_60 : decode cX2_leastRow 60 = .ok (.iload 9, 2) := by decide +kernel
theorem dX2_leastRow_62 : decode cX2_leastRow 62 = .ok (.iload 11, 2) := by decide +kernel
theorem dX2_leastRow_64 : decode cX2_leastRow 64 = .ok (.invokevirtual 55, 3) := by decide +kernel
theorem dX2_leastRow_67 : decode cX2_leastRow 67 = .ok (.ifCond .eq 48, 3) := by decide +kernel
theorem dX2_leastRow_70 : decode cX2_leastRow 70 = .ok (.aload_n 0, 1) := by decide +kernel
theorem dX2_leastRow_71 : decode cX2_leastRow 71 = .ok (.getfield 9, 3) := by decide +kernel
theorem dX2_leastRow_74 : decode cX2_leastRow 74 = .ok (.iload 12, 2) := by decide +kernel
theorem dX2_leastRow_76 : decode cX2_leastRow 76 = .ok (.iaload, 1) := by decide +kernel
theorem dX2_leastRow_77 : decode cX2_leastRow 77 = .ok (.i2l, 1) := by decide +kernel
theorem dX2_leastRow_78 : decode cX2_leastRow 78 = .ok (.lload 5, 2) := by decide +kernel
theorem dX2_leastRow_80 : decode cX2_leastRow 80 = .ok (.lcmp, 1) := by decide +kernel
theorem dX2_leastRow_81 : decode cX2_leastRow 81 = .ok (.ifCond .le 34, 3) := by decide +kernel
theorem dX2_leastRow_84 : decode cX2_leastRow 84 = .ok (.aload_n 0, 1) := by decide +kernel
theorem dX2_leastRow_85 : decode cX2_leastRow 85 = .ok (.getfield 9, 3) := by decide +kernel
theorem dX2_leastRow_88 : decode cX2_leastRow 88 = .ok (.iload 12, 2) := by decide +kernel
theorem dX2_leastRow_90 : decode cX2_leastRow 90 = .ok (.iload_n 2, 1) := by decide +kernel
theorem dX2_leastRow_91 : decode cX2_leastRow 91 = .ok (.iadd, 1) := by decide +kernel
theorem dX2_leastRow_92 : decode cX2_leastRow 92 = .ok (.iaload, 1) := by decide +kernel
theorem dX2_leastRow_93 : decode cX2_leastRow 93 = .ok (.iload_n 3, 1) := by decide +kernel
theorem dX2_leastRow_94 : decode cX2_leastRow 94 = .ok (.if_icmp .lt 21, 3) := by decide +kernel
theorem dX2_leastRow_97 : decode cX2_leastRow 97 = .ok (.aload_n 0, 1) := by decide +kernel
theorem dX2_leastRow_98 : decode cX2_leastRow 98 = .ok (.getfield 9, 3) := by decide +kernel
theorem dX2_leastRow_101 : decode cX2_leastRow 101 = .ok (.iload 12, 2) := by decide +kernel
theorem dX2_leastRow_103 : decode cX2_leastRow 103 = .ok (.iload_n 2, 1) := by decide +kernel
theorem dX2_leastRow_104 : decode cX2_leastRow 104 = .ok (.iadd, 1) := by decide +kernel
theorem dX2_leastRow_105 : decode cX2_leastRow 105 = .ok (.iaload, 1) := by decide +kernel
theorem dX2_leastRow_106 : decode cX2_leastRow 106 = .ok (.iload 4, 2) := by decide +kernel
theorem dX2_leastRow_108 : decode cX2_leastRow 108 = .ok (.if_icmp .gt 7, 3) := by decide +kernel
theorem dX2_leastRow_111 : decode cX2_leastRow 111 = .ok (.iconst 1, 1) := by decide +kernel
theorem dX2_leastRow_112 : decode cX2_leastRow 112 = .ok (.goto 4, 3) := by decide +kernel
theorem dX2_leastRow_115 : decode cX2_leastRow 115 = .ok (.iconst 0, 1) := by decide +kernel
theorem dX2_leastRow_116 : decode cX2_leastRow 116 = .ok (.istore 13, 2) := by decide +kernel
theorem dX2_leastRow_118 : decode cX2_leastRow 118 = .ok (.iload 13, 2) := by decide +kernel
theorem dX2_leastRow_120 : decode cX2_leastRow 120 = .ok (.ifCond .eq 30, 3) := by decide +kernel
theorem dX2_leastRow_123 : decode cX2_leastRow 123 = .ok (.iload 7, 2) := by decide +kernel
theorem dX2_leastRow_125 : decode cX2_leastRow 125 = .ok (.iconst (-1), 1) := by decide +kernel
theorem dX2_leastRow_126 : decode cX2_leastRow 126 = .ok (.if_icmp .eq 20, 3) := by decide +kernel
theorem dX2_leastRow_129 : decode cX2_leastRow 129 = .ok (.aload_n 0, 1) := by decide +kernel
theorem dX2_leastRow_130 : decode cX2_leastRow 130 = .ok (.getfield 9, 3) := by decide +kernel
theorem dX2_leastRow_133 : decode cX2_leastRow 133 = .ok (.iload 12, 2) := by decide +kernel
theorem dX2_leastRow_135 : decode cX2_leastRow 135 = .ok (.iaload, 1) := by decide +kernel
theorem dX2_leastRow_136 : decode cX2_leastRow 136 = .ok (.aload_n 0, 1) := by decide +kernel
theorem dX2_leastRow_137 : decode cX2_leastRow 137 = .ok (.getfield 9, 3) := by decide +kernel
theorem dX2_leastRow_140 : decode cX2_leastRow 140 = .ok (.iload 7, 2) := by decide +kernel
theorem dX2_leastRow_142 : decode cX2_leastRow 142 = .ok (.iaload, 1) := by decide +kernel
theorem dX2_leastRow_143 : decode cX2_leastRow 143 = .ok (.if_icmp .ge 7, 3) := by decide +kernel
theorem dX2_leastRow_146 : decode cX2_leastRow 146 = .ok (.iload 12, 2) := by decide +kernel
theorem dX2_leastRow_148 : decode cX2_leastRow 148 = .ok (.istore 7, 2) := by decide +kernel
theorem dX2_leastRow_150 : decode cX2_leastRow 150 = .ok (.iinc 11 1, 3) := by decide +kernel
theorem dX2_leastRow_153 : decode cX2_leastRow 153 = .ok (.goto (-112), 3) := by decide +kernel
theorem dX2_leastRow_156 : decode cX2_leastRow 156 = .ok (.iinc 9 1, 3) := by decide +kernel
theorem dX2_leastRow_159 : decode cX2_leastRow 159 = .ok (.goto (-146), 3) := by decide +kernel
theorem dX2_leastRow_162 : decode cX2_leastRow 162 = .ok (.iload 7, 2) := by decide +kernel
theorem dX2_leastRow_164 : decode cX2_leastRow 164 = .ok (.ireturn, 1) := by decide +kernel
set_option maxRecDepth 20000 in
theorem ggX2_rowsOf_X2_isPageOf : GoodIn wsX2_rowsOf wsX2_isPageOf := goodIn_r _ [6, 1, 14] (by decide +kernel) (by decide +kernel)
set_option maxRecDepth 20000 in
theorem gX2_rowsOf_X2_isPageOf : GoodIn wsX2_rowsOf (wsV RX2 36 RX2 yX2_isPageOf wsX2_isPageOf) := goodIn_app (goodIn_of _ (by decide +kernel)) ggX2_rowsOf_X2_isPageOf
set_option maxRecDepth 20000 in
theorem ggX2_rowsOf_J6_bitCount_0f7a4 : GoodIn wsX2_rowsOf wsJ6_bitCount_0f7a4 := goodIn_r _ [10, 11, 12, 13] (by decide +kernel) (by decide +kernel)
set_option maxRecDepth 20000 in
theorem gX2_rowsOf_J6_bitCount_0f7a4 : GoodIn wsX2_rowsOf (va_wsS RX2 58 yJ6_bitCount_0f7a4 wsJ6_bitCount_0f7a4) := goodIn_app (goodIn_of _ (by decide +kernel)) ggX2_rowsOf_J6_bitCount_0f7a4
theorem dX2_rowsOf_0 : decode cX2_rowsOf 0 = .ok (.iconst 0, 1) := by decide +kernel
theorem dX2_rowsOf_1 : decode cX2_rowsOf 1 = .ok (.istore_n 2, 1) := by decide +kernel
theorem dX2_rowsOf_2 : decode cX2_rowsOf 2 = .ok (.iconst 1, 1) := by decide +kernel
theorem dX2_rowsOf_3 : decode cX2_rowsOf 3 = .ok (.istore_n 3, 1) := by decide +kernel
theorem dX2_rowsOf_4 : decode cX2_rowsOf 4 = .ok (.iload_n 3, 1) := by decide +kernel
theorem dX2_rowsOf_5 : decode cX2_rowsOf 5 = .ok (.bipush 16, 2) := by decide +kernel
theorem dX2_rowsOf_7 : decode cX2_rowsOf 7 = .ok (.if_icmp .ge 35, 3) := by decide +kernel
theorem dX2_rowsOf_10 : decode cX2_rowsOf 10 = .ok (.aload_n 0, 1) := by decide +kernel
theorem dX2_rowsOf_11 : decode cX2_rowsOf 11 = .ok (.iload_n 1, 1) := by decide +kernel
theorem dX2_rowsOf_12 : decode cX2_rowsOf 12 = .ok (.iload_n 3, 1) := by decide +kernel
theorem dX2_rowsOf_13 : decode cX2_rowsOf 13 = .ok (.invokevirtual 36, 3) := by decide +kernel
theorem dX2_rowsOf_16 : decode cX2_rowsOf 16 = .ok (.ifCond .eq 20, 3) := by decide +kernel
theorem dX2_rowsOf_19 : decode cX2_rowsOf 19 = .ok (.iload_n 2, 1) := by decide +kernel
theorem dX2_rowsOf_20 : decode cX2_rowsOf 20 = .ok (.aload_n 0, 1) := by decide +kernel
theorem dX2_rowsOf_21 : decode cX2_rowsOf 21 = .ok (.getfield 9, 3) := by decide +kernel
theorem dX2_rowsOf_24 : decode cX2_rowsOf 24 = .ok (.iload_n 3, 1) := by decide +kernel
theorem dX2_rowsOf_25 : decode cX2_rowsOf 25 = .ok (.bipush 16, 2) := by decide +kernel
theorem dX2_rowsOf_27 : decode cX2_rowsOf 27 = .ok (.imul, 1) := by decide +kernel
theorem dX2_rowsOf_28 : decode cX2_rowsOf 28 = .ok (.iconst 2, 1) := by decide +kernel
theorem dX2_rowsOf_29 : decode cX2_rowsOf 29 = .ok (.iadd, 1) := by decide +kernel
theorem dX2_rowsOf_30 : decode cX2_rowsOf 30 = .ok (.iaload, 1) := by decide +kernel
theorem dX2_rowsOf_31 : decode cX2_rowsOf 31 = .ok (.invokestatic 58, 3) := by decide +kernel
theorem dX2_rowsOf_34 : decode cX2_rowsOf 34 = .ok (.iadd, 1) := by decide +kernel
theorem dX2_rowsOf_35 : decode cX2_rowsOf 35 = .ok (.istore_n 2, 1) := by decide +kernel
theorem dX2_rowsOf_36 : decode cX2_rowsOf 36 = .ok (.iinc 3 1, 3) := by decide +kernel
theorem dX2_rowsOf_39 : decode cX2_rowsOf 39 = .ok (.goto (-35), 3) := by decide +kernel
theorem dX2_rowsOf_42 : decode cX2_rowsOf 42 = .ok (.iload_n 2, 1) := by decide +kernel
theorem dX2_rowsOf_43 : decode cX2_rowsOf 43 = .ok (.ireturn, 1) := by decide +kernel
set_option maxRecDepth 20000 in
theorem ggX2_addRow_X2_pageWithRoom : GoodIn wsX2_addRow wsX2_pageWithRoom := goodIn_r _ [6, 1, 7, 8, 9, 5, 10, 11, 12, 13, 14, 15, 16, 17, 18, 19, 20, 21, 22, 23, 24, 25, 26, 27, 28, 29, 30, 51] (by decide +kernel) (by decide +kernel)
set_option maxRecDepth 20000 in
theorem gX2_addRow_X2_pageWithRoom : GoodIn wsX2_addRow (wsV RX2 63 RX2 yX2_pageWithRoom wsX2_pageWithRoom) := goodIn_app (goodIn_of _ (by decide +kernel)) ggX2_addRow_X2_pageWithRoom
set_option maxRecDepth 20000 in
theorem ggX2_addRow_X2_freeSlot : GoodIn wsX2_addRow wsX2_freeSlot := goodIn_r _ [14, 15, 16, 17, 5, 18, 19, 20, 21, 22, 1, 23, 24, 25, 26, 27, 28, 29, 30, 51] (by decide +kernel) (by decide +kernel)
set_option maxRecDepth 20000 in
theorem gX2_addRow_X2_freeSlot : GoodIn wsX2_addRow (wsV RX2 66 RX2 yX2_freeSlot wsX2_freeSlot) := goodIn_app (goodIn_of _ (by decide +kernel)) ggX2_addRow_X2_freeSlot
end
section
set_option maxRecDepth 20000 in
theorem ggX2_addRow_X2_putRow : GoodIn wsX2_addRow wsX2_putRow := goodIn_r _ [34, 1, 35, 36, 37, 38, 39, 40, 41, 5, 42, 19, 20, 21, 22, 23, 24, 25, 26, 51] (by decide +kernel) (by decide +kernel)
set_option maxRecDepth 20000 in
theorem gX2_addRow_X2_putRow : GoodIn wsX2_addRow (wsV RX2 70 RX2 yX2_putRow wsX2_putRow) := goodIn_app (goodIn_of _ (by decide +kernel)) ggX2_addRow_X2_putRow
set_option maxRecDepth 20000 in
theorem ggX2_addRow_X2_freePage : GoodIn wsX2_addRow wsX2_freePage := goodIn_r _ [46, 1, 51] (by decide +kernel) (by decide +kernel)
set_option maxRecDepth 20000 in
theorem gX2_addRow_X2_freePage : GoodIn wsX2_addRow (wsV RX2 74 RX2 yX2_freePage wsX2_freePage) := goodIn_app (goodIn_of _ (by decide +kernel)) ggX2_addRow_X2_freePage
set_option maxRecDepth 20000 in
theorem ggX2_addRow_X2_linkTo : GoodIn wsX2_addRow wsX2_linkTo := goodIn_r _ [50, 1, 7, 8, 9, 5, 10, 51] (by decide +kernel) (by decide +kernel)
set_option maxRecDepth 20000 in
theorem gX2_addRow_X2_linkTo : GoodIn wsX2_addRow (wsV RX2 78 RX2 yX2_linkTo wsX2_linkTo) := goodIn_app (goodIn_of _ (by decide +kernel)) ggX2_addRow_X2_linkTo
theorem dX2_addRow_0 : decode cX2_addRow 0 = .ok (.aload_n 0, 1) := by decide +kernel
theorem dX2_addRow_1 : decode cX2_addRow 1 = .ok (.iload_n 1, 1) := by decide +kernel
theorem dX2_addRow_2 : decode cX2_addRow 2 = .ok (.invokevirtual 63, 3) := by decide +kernel
theorem dX2_addRow_5 : decode cX2_addRow 5 = .ok (.istore_n 3, 1) := by decide +kernel
theorem dX2_addRow_6 : decode cX2_addRow 6 = .ok (.iload_n 3, 1) := by decide +kernel
theorem dX2_addRow_7 : decode cX2_addRow 7 = .ok (.ifCond .eq 18, 3) := by decide +kernel
theorem dX2_addRow_10 : decode cX2_addRow 10 = .ok (.aload_n 0, 1) := by decide +kernel
theorem dX2_addRow_11 : decode cX2_addRow 11 = .ok (.iload_n 1, 1) := by decide +kernel
theorem dX2_addRow_12 : decode cX2_addRow 12 = .ok (.iload_n 3, 1) := by decide +kernel
theorem dX2_addRow_13 : decode cX2_addRow 13 = .ok (.aload_n 0, 1) := by decide +kernel
theorem dX2_addRow_14 : decode cX2_addRow 14 = .ok (.iload_n 1, 1) := by decide +kernel
theorem dX2_addRow_15 : decode cX2_addRow 15 = .ok (.iload_n 3, 1) := by decide +kernel
theorem dX2_addRow_16 : decode cX2_addRow 16 = .ok (.invokevirtual 66, 3) := by decide +kernel
theorem dX2_addRow_19 : decode cX2_addRow 19 = .ok (.aload_n 2, 1) := by decide +kernel
theorem dX2_addRow_20 : decode cX2_addRow 20 = .ok (.invokevirtual 70, 3) := by decide +kernel
theorem dX2_addRow_23 : decode cX2_addRow 23 = .ok (.iconst 1, 1) := by decide +kernel
theorem dX2_addRow_24 : decode cX2_addRow 24 = .ok (.ireturn, 1) := by decide +kernel
theorem dX2_addRow_25 : decode cX2_addRow 25 = .ok (.aload_n 0, 1) := by decide +kernel
theorem dX2_addRow_26 : decode cX2_addRow 26 = .ok (.invokevirtual 74, 3) := by decide +kernel
theorem dX2_addRow_29 : decode cX2_addRow 29 = .ok (.istore_n 3, 1) := by decide +kernel
theorem dX2_addRow_30 : decode cX2_addRow 30 = .ok (.iload_n 3, 1) := by decide +kernel
theorem dX2_addRow_31 : decode cX2_addRow 31 = .ok (.ifCond .ne 5, 3) := by decide +kernel
theorem dX2_addRow_34 : decode cX2_addRow 34 = .ok (.iconst 0, 1) := by decide +kernel
theorem dX2_addRow_35 : decode cX2_addRow 35 = .ok (.ireturn, 1) := by decide +kernel
theorem dX2_addRow_36 : decode cX2_addRow 36 = .ok (.aload_n 0, 1) := by decide +kernel
theorem dX2_addRow_37 : decode cX2_addRow 37 = .ok (.getfield 9, 3) := by decide +kernel
theorem dX2_addRow_40 : decode cX2_addRow 40 = .ok (.aload_n 0, 1) := by decide +kernel
theorem dX2_addRow_41 : decode cX2_addRow 41 = .ok (.iload_n 1, 1) := by decide +kernel
theorem dX2_addRow_42 : decode cX2_addRow 42 = .ok (.iconst 0, 1) := by decide +kernel
theorem dX2_addRow_43 : decode cX2_addRow 43 = .ok (.invokevirtual 78, 3) := by decide +kernel
theorem dX2_addRow_46 : decode cX2_addRow 46 = .ok (.iload_n 3, 1) := by decide +kernel
theorem dX2_addRow_47 : decode cX2_addRow 47 = .ok (.iastore, 1) := by decide +kernel
theorem dX2_addRow_48 : decode cX2_addRow 48 = .ok (.aload_n 0, 1) := by decide +kernel
theorem dX2_addRow_49 : decode cX2_addRow 49 = .ok (.getfield 9, 3) := by decide +kernel
theorem dX2_addRow_52 : decode cX2_addRow 52 = .ok (.iload_n 3, 1) := by decide +kernel
theorem dX2_addRow_53 : decode cX2_addRow 53 = .ok (.bipush 16, 2) := by decide +kernel
theorem dX2_addRow_55 : decode cX2_addRow 55 = .ok (.imul, 1) := by decide +kernel
theorem dX2_addRow_56 : decode cX2_addRow 56 = .ok (.iload_n 1, 1) := by decide +kernel
theorem dX2_addRow_57 : decode cX2_addRow 57 = .ok (.iconst 1, 1) := by decide +kernel
theorem dX2_addRow_58 : decode cX2_addRow 58 = .ok (.iadd, 1) := by decide +kernel
theorem dX2_addRow_59 : decode cX2_addRow 59 = .ok (.iastore, 1) := by decide +kernel
theorem dX2_addRow_60 : decode cX2_addRow 60 = .ok (.aload_n 0, 1) := by decide +kernel
theorem dX2_addRow_61 : decode cX2_addRow 61 = .ok (.iload_n 1, 1) := by decide +kernel
theorem dX2_addRow_62 : decode cX2_addRow 62 = .ok (.iload_n 3, 1) := by decide +kernel
theorem dX2_addRow_63 : decode cX2_addRow 63 = .ok (.iconst 0, 1) := by decide +kernel
theorem dX2_addRow_64 : decode cX2_addRow 64 = .ok (.aload_n 2, 1) := by decide +kernel
theorem dX2_addRow_65 : decode cX2_addRow 65 = .ok (.invokevirtual 70, 3) := by decide +kernel
theorem dX2_addRow_68 : decode cX2_addRow 68 = .ok (.iconst 1, 1) := by decide +kernel
theorem dX2_addRow_69 : decode cX2_addRow 69 = .ok (.ireturn, 1) := by decide +kernel
set_option maxRecDepth 20000 in
theorem ggX2_putRow_X2_rowAt : GoodIn wsX2_putRow wsX2_rowAt := goodIn_r _ [10, 11, 12, 13, 9, 14, 1, 15, 16, 17, 18, 19] (by decide +kernel) (by decide +kernel)
set_option maxRecDepth 20000 in
theorem gX2_putRow_X2_rowAt : GoodIn wsX2_putRow (wsV RX2 51 RX2 yX2_rowAt wsX2_rowAt) := goodIn_app (goodIn_of _ (by decide +kernel)) ggX2_putRow_X2_rowAt
set_option maxRecDepth 20000 in
theorem ggX2_putRow_X2_width : GoodIn wsX2_putRow wsX2_width := goodIn_r _ [14, 1, 15, 16, 17, 9, 18, 19] (by decide +kernel) (by decide +kernel)
set_option maxRecDepth 20000 in
theorem gX2_putRow_X2_width : GoodIn wsX2_putRow (wsV RX2 32 RX2 yX2_width wsX2_width) := goodIn_app (goodIn_of _ (by decide +kernel)) ggX2_putRow_X2_width
theorem dX2_putRow_0 : decode cX2_putRow 0 = .ok (.aload 4, 2) := by decide +kernel
theorem dX2_putRow_2 : decode cX2_putRow 2 = .ok (.iconst 0, 1) := by decide +kernel
theorem dX2_putRow_3 : decode cX2_putRow 3 = .ok (.aload_n 0, 1) := by decide +kernel
theorem dX2_putRow_4 : decode cX2_putRow 4 = .ok (.getfield 9, 3) := by decide +kernel
theorem dX2_putRow_7 : decode cX2_putRow 7 = .ok (.aload_n 0, 1) := by decide +kernel
theorem dX2_putRow_8 : decode cX2_putRow 8 = .ok (.iload_n 1, 1) := by decide +kernel
theorem dX2_putRow_9 : decode cX2_putRow 9 = .ok (.iload_n 2, 1) := by decide +kernel
theorem dX2_putRow_10 : decode cX2_putRow 10 = .ok (.iload_n 3, 1) := by decide +kernel
theorem dX2_putRow_11 : decode cX2_putRow 11 = .ok (.invokevirtual 51, 3) := by decide +kernel
theorem dX2_putRow_14 : decode cX2_putRow 14 = .ok (.aload_n 0, 1) := by decide +kernel
theorem dX2_putRow_15 : decode cX2_putRow 15 = .ok (.iload_n 1, 1) := by decide +kernel
theorem dX2_putRow_16 : decode cX2_putRow 16 = .ok (.invokevirtual 32, 3) := by decide +kernel
theorem dX2_putRow_19 : decode cX2_putRow 19 = .ok (.invokestatic 18, 3) := by decide +kernel
theorem dX2_putRow_22 : decode cX2_putRow 22 = .ok (.aload_n 0, 1) := by decide +kernel
theorem dX2_putRow_23 : decode cX2_putRow 23 = .ok (.getfield 9, 3) := by decide +kernel
theorem dX2_putRow_26 : decode cX2_putRow 26 = .ok (.iload_n 2, 1) := by decide +kernel
theorem dX2_putRow_27 : decode cX2_putRow 27 = .ok (.bipush 16, 2) := by decide +kernel
theorem dX2_putRow_29 : decode cX2_putRow 29 = .ok (.imul, 1) := by decide +kernel
theorem dX2_putRow_30 : decode cX2_putRow 30 = .ok (.iconst 2, 1) := by decide +kernel
theorem dX2_putRow_31 : decode cX2_putRow 31 = .ok (.iadd, 1) := by decide +kernel
theorem dX2_putRow_32 : decode cX2_putRow 32 = .ok (.dup2, 1) := by decide +kernel
theorem dX2_putRow_33 : decode cX2_putRow 33 = .ok (.iaload, 1) := by decide +kernel
theorem dX2_putRow_34 : decode cX2_putRow 34 = .ok (.iconst 1, 1) := by decide +kernel
theorem dX2_putRow_35 : decode cX2_putRow 35 = .ok (.iload_n 3, 1) := by decide +kernel
theorem dX2_putRow_36 : decode cX2_putRow 36 = .ok (.ishl, 1) := by decide +kernel
theorem dX2_putRow_37 : decode cX2_putRow 37 = .ok (.ior, 1) := by decide +kernel
theorem dX2_putRow_38 : decode cX2_putRow 38 = .ok (.iastore, 1) := by decide +kernel
theorem dX2_putRow_39 : decode cX2_putRow 39 = .ok (.return_, 1) := by decide +kernel
set_option maxRecDepth 20000 in
theorem ggX2_removeRow_X2_slots : GoodIn wsX2_removeRow wsX2_slots := goodIn_r _ [6, 7, 8, 9, 5, 10, 1, 11, 12, 13, 14, 31] (by decide +kernel) (by decide +kernel)
set_option maxRecDepth 20000 in
theorem gX2_removeRow_X2_slots : GoodIn wsX2_removeRow (wsV RX2 48 RX2 yX2_slots wsX2_slots) := goodIn_app (goodIn_of _ (by decide +kernel)) ggX2_removeRow_X2_slots
set_option maxRecDepth 20000 in
theorem ggX2_removeRow_X2_rowAt : GoodIn wsX2_removeRow wsX2_rowAt := goodIn_r _ [18, 7, 8, 9, 5, 10, 1, 11, 12, 13, 14, 31] (by decide +kernel) (by decide +kernel)
set_option maxRecDepth 20000 in
theorem gX2_removeRow_X2_rowAt : GoodIn wsX2_removeRow (wsV RX2 51 RX2 yX2_rowAt wsX2_rowAt) := goodIn_app (goodIn_of _ (by decide +kernel)) ggX2_removeRow_X2_rowAt
set_option maxRecDepth 20000 in
theorem ggX2_removeRow_X2_width : GoodIn wsX2_removeRow wsX2_width := goodIn_r _ [10, 1, 11, 12, 13, 5, 14, 31] (by decide +kernel) (by decide +kernel)
set_option maxRecDepth 20000 in
theorem gX2_removeRow_X2_width : GoodIn wsX2_removeRow (wsV RX2 32 RX2 yX2_width wsX2_width) := goodIn_app (goodIn_of _ (by decide +kernel)) ggX2_removeRow_X2_width
set_option maxRecDepth 20000 in
theorem ggX2_removeRow_X2_clear : GoodIn wsX2_removeRow wsX2_clear := goodIn_r _ [22, 1, 31] (by decide +kernel) (by decide +kernel)
set_option maxRecDepth 20000 in
theorem gX2_removeRow_X2_clear : GoodIn wsX2_removeRow (wsV RX2 40 RX2 yX2_clear wsX2_clear) := goodIn_app (goodIn_of _ (by decide +kernel)) ggX2_removeRow_X2_clear
set_option maxRecDepth 20000 in
theorem ggX2_removeRow_X2_linkTo : GoodIn wsX2_removeRow wsX2_linkTo := goodIn_r _ [26, 1, 27, 28, 29, 5, 30, 31] (by decide +kernel) (by decide +kernel)
set_option maxRecDepth 20000 in
theorem gX2_removeRow_X2_linkTo : GoodIn wsX2_removeRow (wsV RX2 78 RX2 yX2_linkTo wsX2_linkTo) := goodIn_app (goodIn_of _ (by decide +kernel)) ggX2_removeRow_X2_linkTo
theorem dX2_removeRow_0 : decode cX2_removeRow 0 = .ok (.iload_n 2, 1) := by decide +kernel
theorem dX2_removeRow_1 : decode cX2_removeRow 1 = .ok (.bipush 16, 2) := by decide +kernel
theorem dX2_removeRow_3 : decode cX2_removeRow 3 = .ok (.idiv, 1) := by decide +kernel
theorem dX2_removeRow_4 : decode cX2_removeRow 4 = .ok (.istore_n 3, 1) := by decide +kernel
theorem dX2_removeRow_5 : decode cX2_removeRow 5 = .ok (.iload_n 3, 1) := by decide +kernel
theorem dX2_removeRow_6 : decode cX2_removeRow 6 = .ok (.bipush 16, 2) := by decide +kernel
theorem dX2_removeRow_8 : decode cX2_removeRow 8 = .ok (.imul, 1) := by decide +kernel
theorem dX2_removeRow_9 : decode cX2_removeRow 9 = .ok (.istore 4, 2) := by decide +kernel
theorem dX2_removeRow_11 : decode cX2_removeRow 11 = .ok (.iconst 0, 1) := by decide +kernel
theorem dX2_removeRow_12 : decode cX2_removeRow 12 = .ok (.istore 5, 2) := by decide +kernel
theorem dX2_removeRow_14 : decode cX2_removeRow 14 = .ok (.iload 5, 2) := by decide +kernel
theorem dX2_removeRow_16 : decode cX2_removeRow 16 = .ok (.aload_n 0, 1) := by decide +kernel
theorem dX2_removeRow_17 : decode cX2_removeRow 17 = .ok (.iload_n 1, 1) := by decide +kernel
theorem dX2_removeRow_18 : decode cX2_removeRow 18 = .ok (.invokevirtual 48, 3) := by decide +kernel
theorem dX2_removeRow_21 : decode cX2_removeRow 21 = .ok (.if_icmp .ge 39, 3) := by decide +kernel
theorem dX2_removeRow_24 : decode cX2_removeRow 24 = .ok (.aload_n 0, 1) := by decide +kernel
theorem dX2_removeRow_25 : decode cX2_removeRow 25 = .ok (.iload_n 1, 1) := by decide +kernel
theorem dX2_removeRow_26 : decode cX2_removeRow 26 = .ok (.iload_n 3, 1) := by decide +kernel
theorem dX2_removeRow_27 : decode cX2_removeRow 27 = .ok (.iload 5, 2) := by decide +kernel
theorem dX2_removeRow_29 : decode cX2_removeRow 29 = .ok (.invokevirtual 51, 3) := by decide +kernel
theorem dX2_removeRow_32 : decode cX2_removeRow 32 = .ok (.iload_n 2, 1) := by decide +kernel
theorem dX2_removeRow_33 : decode cX2_removeRow 33 = .ok (.if_icmp .ne 21, 3) := by decide +kernel
theorem dX2_removeRow_36 : decode cX2_removeRow 36 = .ok (.aload_n 0, 1) := by decide +kernel
theorem dX2_removeRow_37 : decode cX2_removeRow 37 = .ok (.getfield 9, 3) := by decide +kernel
theorem dX2_removeRow_40 : decode cX2_removeRow 40 = .ok (.iload 4, 2) := by decide +kernel
theorem dX2_removeRow_42 : decode cX2_removeRow 42 = .ok (.iconst 2, 1) := by decide +kernel
theorem dX2_removeRow_43 : decode cX2_removeRow 43 = .ok (.iadd, 1) := by decide +kernel
theorem dX2_removeRow_44 : decode cX2_removeRow 44 = .ok (.dup2, 1) := by decide +kernel
theorem dX2_removeRow_45 : decode cX2_removeRow 45 = .ok (.iaload, 1) := by decide +kernel
theorem dX2_removeRow_46 : decode cX2_removeRow 46 = .ok (.iconst 1, 1) := by decide +kernel
theorem dX2_removeRow_47 : decode cX2_removeRow 47 = .ok (.iload 5, 2) := by decide +kernel
theorem dX2_removeRow_49 : decode cX2_removeRow 49 = .ok (.ishl, 1) := by decide +kernel
theorem dX2_removeRow_50 : decode cX2_removeRow 50 = .ok (.iconst (-1), 1) := by decide +kernel
theorem dX2_removeRow_51 : decode cX2_removeRow 51 = .ok (.ixor, 1) := by decide +kernel
theorem dX2_removeRow_52 : decode cX2_removeRow 52 = .ok (.iand, 1) := by decide +kernel
theorem dX2_removeRow_53 : decode cX2_removeRow 53 = .ok (.iastore, 1) := by decide +kernel
theorem dX2_removeRow_54 : decode cX2_removeRow 54 = .ok (.iinc 5 1, 3) := by decide +kernel
theorem dX2_removeRow_57 : decode cX2_removeRow 57 = .ok (.goto (-43), 3) := by decide +kernel
theorem dX2_removeRow_60 : decode cX2_removeRow 60 = .ok (.aload_n 0, 1) := by decide +kernel
theorem dX2_removeRow_61 : decode cX2_removeRow 61 = .ok (.iload_n 2, 1) := by decide +kernel
theorem dX2_removeRow_62 : decode cX2_removeRow 62 = .ok (.aload_n 0, 1) := by decide +kernel
theorem dX2_removeRow_63 : decode cX2_removeRow 63 = .ok (.iload_n 1, 1) := by decide +kernel
theorem dX2_removeRow_64 : decode cX2_removeRow 64 = .ok (.invokevirtual 32, 3) := by decide +kernel
theorem dX2_removeRow_67 : decode cX2_removeRow 67 = .ok (.invokevirtual 40, 3) := by decide +kernel
theorem dX2_removeRow_70 : decode cX2_removeRow 70 = .ok (.aload_n 0, 1) := by decide +kernel
theorem dX2_removeRow_71 : decode cX2_removeRow 71 = .ok (.getfield 9, 3) := by decide +kernel
theorem dX2_removeRow_74 : decode cX2_removeRow 74 = .ok (.iload 4, 2) := by decide +kernel
theorem dX2_removeRow_76 : decode cX2_removeRow 76 = .ok (.iconst 2, 1) := by decide +kernel
theorem dX2_removeRow_77 : decode cX2_removeRow 77 = .ok (.iadd, 1) := by decide +kernel
theorem dX2_removeRow_78 : decode cX2_removeRow 78 = .ok (.iaload, 1) := by decide +kernel
theorem dX2_removeRow_79 : decode cX2_removeRow 79 = .ok (.ifCond .ne 31, 3) := by decide +kernel
theorem dX2_removeRow_82 : decode cX2_removeRow 82 = .ok (.aload_n 0, 1) := by decide +kernel
theorem dX2_removeRow_83 : decode cX2_removeRow 83 = .ok (.getfield 9, 3) := by decide +kernel
theorem dX2_removeRow_86 : decode cX2_removeRow 86 = .ok (.aload_n 0, 1) := by decide +kernel
theorem dX2_removeRow_87 : decode cX2_removeRow 87 = .ok (.iload_n 1, 1) := by decide +kernel
theorem dX2_removeRow_88 : decode cX2_removeRow 88 = .ok (.iload_n 3, 1) := by decide +kernel
theorem dX2_removeRow_89 : decode cX2_removeRow 89 = .ok (.invokevirtual 78, 3) := by decide +kernel
theorem dX2_removeRow_92 : decode cX2_removeRow 92 = .ok (.aload_n 0, 1) := by decide +kernel
theorem dX2_removeRow_93 : decode cX2_removeRow 93 = .ok (.getfield 9, 3) := by decide +kernel
theorem dX2_removeRow_96 : decode cX2_removeRow 96 = .ok (.iload 4, 2) := by decide +kernel
theorem dX2_removeRow_98 : decode cX2_removeRow 98 = .ok (.iconst 1, 1) := by decide +kernel
theorem dX2_removeRow_99 : decode cX2_removeRow 99 = .ok (.iadd, 1) := by decide +kernel
theorem dX2_removeRow_100 : decode cX2_removeRow 100 = .ok (.iaload, 1) := by decide +kernel
theorem dX2_removeRow_101 : decode cX2_removeRow 101 = .ok (.iastore, 1) := by decide +kernel
theorem dX2_removeRow_102 : decode cX2_removeRow 102 = .ok (.aload_n 0, 1) := by decide +kernel
theorem dX2_removeRow_103 : decode cX2_removeRow 103 = .ok (.iload 4, 2) := by decide +kernel
theorem dX2_removeRow_105 : decode cX2_removeRow 105 = .ok (.bipush 16, 2) := by decide +kernel
theorem dX2_removeRow_107 : decode cX2_removeRow 107 = .ok (.invokevirtual 40, 3) := by decide +kernel
theorem dX2_removeRow_110 : decode cX2_removeRow 110 = .ok (.return_, 1) := by decide +kernel
set_option maxRecDepth 20000 in
theorem ggX2_pageWithRoom_X2_isPageOf : GoodIn wsX2_pageWithRoom wsX2_isPageOf := goodIn_r _ [6, 1, 27] (by decide +kernel) (by decide +kernel)
set_option maxRecDepth 20000 in
theorem gX2_pageWithRoom_X2_isPageOf : GoodIn wsX2_pageWithRoom (wsV RX2 36 RX2 yX2_isPageOf wsX2_isPageOf) := goodIn_app (goodIn_of _ (by decide +kernel)) ggX2_pageWithRoom_X2_isPageOf
set_option maxRecDepth 20000 in
theorem ggX2_pageWithRoom_X2_freeSlot : GoodIn wsX2_pageWithRoom wsX2_freeSlot := goodIn_r _ [10, 11, 12, 13, 5, 14, 15, 16, 17, 18, 1, 19, 20, 21, 22, 23, 24, 25, 26, 27] (by decide +kernel) (by decide +kernel)
set_option maxRecDepth 20000 in
theorem gX2_pageWithRoom_X2_freeSlot : GoodIn wsX2_pageWithRoom (wsV RX2 66 RX2 yX2_freeSlot wsX2_freeSlot) := goodIn_app (goodIn_of _ (by decide +kernel)) ggX2_pageWithRoom_X2_freeSlot
theorem dX2_pageWithRoom_0 : decode cX2_pageWithRoom 0 = .ok (.aload_n 0, 1) := by decide +kernel
theorem dX2_pageWithRoom_1 : decode cX2_pageWithRoom 1 = .ok (.getfield 9, 3) := by decide +kernel
theorem dX2_pageWithRoom_4 : decode cX2_pageWithRoom 4 = .ok (.bipush 8, 2) := by decide +kernel
theorem dX2_pageWithRoom_6 : decode cX2_pageWithRoom 6 = .ok (.iload_n 1, 1) := by decide +kernel
theorem dX2_pageWithRoom_7 : decode cX2_pageWithRoom 7 = .ok (.iadd, 1) := by decide +kernel
theorem dX2_pageWithRoom_8 : decode cX2_pageWithRoom 8 = .ok (.iaload, 1) := by decide +kernel
theorem dX2_pageWithRoom_9 : decode cX2_pageWithRoom 9 = .ok (.istore_n 2, 1) := by decide +kernel
theorem dX2_pageWithRoom_10 : decode cX2_pageWithRoom 10 = .ok (.iconst 0, 1) := by decide +kernel
theorem dX2_pageWithRoom_11 : decode cX2_pageWithRoom 11 = .ok (.istore_n 3, 1) := by decide +kernel
theorem dX2_pageWithRoom_12 : decode cX2_pageWithRoom 12 = .ok (.iload_n 3, 1) := by decide +kernel
theorem dX2_pageWithRoom_13 : decode cX2_pageWithRoom 13 = .ok (.bipush 16, 2) := by decide +kernel
theorem dX2_pageWithRoom_15 : decode cX2_pageWithRoom 15 = .ok (.if_icmp .ge 42, 3) := by decide +kernel
theorem dX2_pageWithRoom_18 : decode cX2_pageWithRoom 18 = .ok (.aload_n 0, 1) := by decide +kernel
theorem dX2_pageWithRoom_19 : decode cX2_pageWithRoom 19 = .ok (.iload_n 1, 1) := by decide +kernel
theorem dX2_pageWithRoom_20 : decode cX2_pageWithRoom 20 = .ok (.iload_n 2, 1) := by decide +kernel
theorem dX2_pageWithRoom_21 : decode cX2_pageWithRoom 21 = .ok (.invokevirtual 36, 3) := by decide +kernel
theorem dX2_pageWithRoom_24 : decode cX2_pageWithRoom 24 = .ok (.ifCond .eq 33, 3) := by decide +kernel
theorem dX2_pageWithRoom_27 : decode cX2_pageWithRoom 27 = .ok (.aload_n 0, 1) := by decide +kernel
theorem dX2_pageWithRoom_28 : decode cX2_pageWithRoom 28 = .ok (.iload_n 1, 1) := by decide +kernel
theorem dX2_pageWithRoom_29 : decode cX2_pageWithRoom 29 = .ok (.iload_n 2, 1) := by decide +kernel
theorem dX2_pageWithRoom_30 : decode cX2_pageWithRoom 30 = .ok (.invokevirtual 66, 3) := by decide +kernel
theorem dX2_pageWithRoom_33 : decode cX2_pageWithRoom 33 = .ok (.iconst (-1), 1) := by decide +kernel
theorem dX2_pageWithRoom_34 : decode cX2_pageWithRoom 34 = .ok (.if_icmp .eq 5, 3) := by decide +kernel
theorem dX2_pageWithRoom_37 : decode cX2_pageWithRoom 37 = .ok (.iload_n 2, 1) := by decide +kernel
theorem dX2_pageWithRoom_38 : decode cX2_pageWithRoom 38 = .ok (.ireturn, 1) := by decide +kernel
theorem dX2_pageWithRoom_39 : decode cX2_pageWithRoom 39 = .ok (.aload_n 0, 1) := by decide +kernel
theorem dX2_pageWithRoom_40 : decode cX2_pageWithRoom 40 = .ok (.getfield 9, 3) := by decide +kernel
theorem dX2_pageWithRoom_43 : decode cX2_pageWithRoom 43 = .ok (.iload_n 2, 1) := by decide +kernel
theorem dX2_pageWithRoom_44 : decode cX2_pageWithRoom 44 = .ok (.bipush 16, 2) := by decide +kernel
theorem dX2_pageWithRoom_46 : decode cX2_pageWithRoom 46 = .ok (.imul, 1) := by decide +kernel
theorem dX2_pageWithRoom_47 : decode cX2_pageWithRoom 47 = .ok (.iconst 1, 1) := by decide +kernel
theorem dX2_pageWithRoom_48 : decode cX2_pageWithRoom 48 = .ok (.iadd, 1) := by decide +kernel
theorem dX2_pageWithRoom_49 : decode cX2_pageWithRoom 49 = .ok (.iaload, 1) := by decide +kernel
theorem dX2_pageWithRoom_50 : decode cX2_pageWithRoom 50 = .ok (.istore_n 2, 1) := by decide +kernel
theorem dX2_pageWithRoom_51 : decode cX2_pageWithRoom 51 = .ok (.iinc 3 1, 3) := by decide +kernel
theorem dX2_pageWithRoom_54 : decode cX2_pageWithRoom 54 = .ok (.goto (-42), 3) := by decide +kernel
theorem dX2_pageWithRoom_57 : decode cX2_pageWithRoom 57 = .ok (.iconst 0, 1) := by decide +kernel
theorem dX2_pageWithRoom_58 : decode cX2_pageWithRoom 58 = .ok (.ireturn, 1) := by decide +kernel
set_option maxRecDepth 20000 in
theorem ggX2_linkTo_X2_isPageOf : GoodIn wsX2_linkTo wsX2_isPageOf := goodIn_r _ [6, 1, 7] (by decide +kernel) (by decide +kernel)
set_option maxRecDepth 20000 in
theorem gX2_linkTo_X2_isPageOf : GoodIn wsX2_linkTo (wsV RX2 36 RX2 yX2_isPageOf wsX2_isPageOf) := goodIn_app (goodIn_of _ (by decide +kernel)) ggX2_linkTo_X2_isPageOf
theorem dX2_linkTo_0 : decode cX2_linkTo 0 = .ok (.bipush 8, 2) := by decide +kernel
theorem dX2_linkTo_2 : decode cX2_linkTo 2 = .ok (.iload_n 1, 1) := by decide +kernel
theorem dX2_linkTo_3 : decode cX2_linkTo 3 = .ok (.iadd, 1) := by decide +kernel
theorem dX2_linkTo_4 : decode cX2_linkTo 4 = .ok (.istore_n 3, 1) := by decide +kernel
theorem dX2_linkTo_5 : decode cX2_linkTo 5 = .ok (.iconst 0, 1) := by decide +kernel
theorem dX2_linkTo_6 : decode cX2_linkTo 6 = .ok (.istore 4, 2) := by decide +kernel
theorem dX2_linkTo_8 : decode cX2_linkTo 8 = .ok (.iload 4, 2) := by decide +kernel
theorem dX2_linkTo_10 : decode cX2_linkTo 10 = .ok (.bipush 16, 2) := by decide +kernel
theorem dX2_linkTo_12 : decode cX2_linkTo 12 = .ok (.if_icmp .ge 47, 3) := by decide +kernel
theorem dX2_linkTo_15 : decode cX2_linkTo 15 = .ok (.aload_n 0, 1) := by decide +kernel
theorem dX2_linkTo_16 : decode cX2_linkTo 16 = .ok (.getfield 9, 3) := by decide +kernel
theorem dX2_linkTo_19 : decode cX2_linkTo 19 = .ok (.iload_n 3, 1) := by decide +kernel
theorem dX2_linkTo_20 : decode cX2_linkTo 20 = .ok (.iaload, 1) := by decide +kernel
theorem dX2_linkTo_21 : decode cX2_linkTo 21 = .ok (.iload_n 2, 1) := by decide +kernel
theorem dX2_linkTo_22 : decode cX2_linkTo 22 = .ok (.if_icmp .eq 37, 3) := by decide +kernel
theorem dX2_linkTo_25 : decode cX2_linkTo 25 = .ok (.aload_n 0, 1) := by decide +kernel
theorem dX2_linkTo_26 : decode cX2_linkTo 26 = .ok (.iload_n 1, 1) := by decide +kernel
theorem dX2_linkTo_27 : decode cX2_linkTo 27 = .ok (.aload_n 0, 1) := by decide +kernel
theorem dX2_linkTo_28 : decode cX2_linkTo 28 = .ok (.getfield 9, 3) := by decide +kernel
theorem dX2_linkTo_31 : decode cX2_linkTo 31 = .ok (.iload_n 3, 1) := by decide +kernel
theorem dX2_linkTo_32 : decode cX2_linkTo 32 = .ok (.iaload, 1) := by decide +kernel
theorem dX2_linkTo_33 : decode cX2_linkTo 33 = .ok (.invokevirtual 36, 3) := by decide +kernel
theorem dX2_linkTo_36 : decode cX2_linkTo 36 = .ok (.ifCond .ne 5, 3) := by decide +kernel
theorem dX2_linkTo_39 : decode cX2_linkTo 39 = .ok (.iload_n 3, 1) := by decide +kernel
theorem dX2_linkTo_40 : decode cX2_linkTo 40 = .ok (.ireturn, 1) := by decide +kernel
theorem dX2_linkTo_41 : decode cX2_linkTo 41 = .ok (.aload_n 0, 1) := by decide +kernel
theorem dX2_linkTo_42 : decode cX2_linkTo 42 = .ok (.getfield 9, 3) := by decide +kernel
theorem dX2_linkTo_45 : decode cX2_linkTo 45 = .ok (.iload_n 3, 1) := by decide +kernel
theorem dX2_linkTo_46 : decode cX2_linkTo 46 = .ok (.iaload, 1) := by decide +kernel
theorem dX2_linkTo_47 : decode cX2_linkTo 47 = .ok (.bipush 16, 2) := by decide +kernel
theorem dX2_linkTo_49 : decode cX2_linkTo 49 = .ok (.imul, 1) := by decide +kernel
theorem dX2_linkTo_50 : decode cX2_linkTo 50 = .ok (.iconst 1, 1) := by decide +kernel
theorem dX2_linkTo_51 : decode cX2_linkTo 51 = .ok (.iadd, 1) := by decide +kernel
theorem dX2_linkTo_52 : decode cX2_linkTo 52 = .ok (.istore_n 3, 1) := by decide +kernel
theorem dX2_linkTo_53 : decode cX2_linkTo 53 = .ok (.iinc 4 1, 3) := by decide +kernel
theorem dX2_linkTo_56 : decode cX2_linkTo 56 = .ok (.goto (-48), 3) := by decide +kernel
theorem dX2_linkTo_59 : decode cX2_linkTo 59 = .ok (.iload_n 3, 1) := by decide +kernel
theorem dX2_linkTo_60 : decode cX2_linkTo 60 = .ok (.ireturn, 1) := by decide +kernel
theorem dX2_freePage_0 : decode cX2_freePage 0 = .ok (.iconst 1, 1) := by decide +kernel
theorem dX2_freePage_1 : decode cX2_freePage 1 = .ok (.istore_n 1, 1) := by decide +kernel
theorem dX2_freePage_2 : decode cX2_freePage 2 = .ok (.iload_n 1, 1) := by decide +kernel
theorem dX2_freePage_3 : decode cX2_freePage 3 = .ok (.bipush 16, 2) := by decide +kernel
theorem dX2_freePage_5 : decode cX2_freePage 5 = .ok (.if_icmp .ge 23, 3) := by decide +kernel
theorem dX2_freePage_8 : decode cX2_freePage 8 = .ok (.aload_n 0, 1) := by decide +kernel
theorem dX2_freePage_9 : decode cX2_freePage 9 = .ok (.getfield 9, 3) := by decide +kernel
theorem dX2_freePage_12 : decode cX2_freePage 12 = .ok (.iload_n 1, 1) := by decide +kernel
theorem dX2_freePage_13 : decode cX2_freePage 13 = .ok (.bipush 16, 2) := by decide +kernel
theorem dX2_freePage_15 : decode cX2_freePage 15 = .ok (.imul, 1) := by decide +kernel
theorem dX2_freePage_16 : decode cX2_freePage 16 = .ok (.iaload, 1) := by decide +kernel
theorem dX2_freePage_17 : decode cX2_freePage 17 = .ok (.ifCond .ne 5, 3) := by decide +kernel
theorem dX2_freePage_20 : decode cX2_freePage 20 = .ok (.iload_n 1, 1) := by decide +kernel
theorem dX2_freePage_21 : decode cX2_freePage 21 = .ok (.ireturn, 1) := by decide +kernel
theorem dX2_freePage_22 : decode cX2_freePage 22 = .ok (.iinc 1 1, 3) := by decide +kernel
theorem dX2_freePage_25 : decode cX2_freePage 25 = .ok (.goto (-23), 3) := by decide +kernel
theorem dX2_freePage_28 : decode cX2_freePage 28 = .ok (.iconst 0, 1) := by decide +kernel
theorem dX2_freePage_29 : decode cX2_freePage 29 = .ok (.ireturn, 1) := by decide +kernel
set_option maxRecDepth 20000 in
theorem ggX2_freeSlot_X2_slots : GoodIn wsX2_freeSlot wsX2_slots := goodIn_r _ [5, 6, 7, 8, 4, 9, 10, 11, 12, 13, 14, 19] (by decide +kernel) (by decide +kernel)
set_option maxRecDepth 20000 in
theorem gX2_freeSlot_X2_slots : GoodIn wsX2_freeSlot (wsV RX2 48 RX2 yX2_slots wsX2_slots) := goodIn_app (goodIn_of _ (by decide +kernel)) ggX2_freeSlot_X2_slots
set_option maxRecDepth 20000 in
theorem ggX2_freeSlot_X2_hasRow : GoodIn wsX2_freeSlot wsX2_hasRow := goodIn_r _ [18, 10, 19] (by decide +kernel) (by decide +kernel)
set_option maxRecDepth 20000 in
theorem gX2_freeSlot_X2_hasRow : GoodIn wsX2_freeSlot (wsV RX2 55 RX2 yX2_hasRow wsX2_hasRow) := goodIn_app (goodIn_of _ (by decide +kernel)) ggX2_freeSlot_X2_hasRow
theorem dX2_freeSlot_0 : decode cX2_freeSlot 0 = .ok (.iconst 0, 1) := by decide +kernel
theorem dX2_freeSlot_1 : decode cX2_freeSlot 1 = .ok (.istore_n 3, 1) := by decide +kernel
theorem dX2_freeSlot_2 : decode cX2_freeSlot 2 = .ok (.iload_n 3, 1) := by decide +kernel
theorem dX2_freeSlot_3 : decode cX2_freeSlot 3 = .ok (.aload_n 0, 1) := by decide +kernel
theorem dX2_freeSlot_4 : decode cX2_freeSlot 4 = .ok (.iload_n 1, 1) := by decide +kernel
theorem dX2_freeSlot_5 : decode cX2_freeSlot 5 = .ok (.invokevirtual 48, 3) := by decide +kernel
theorem dX2_freeSlot_8 : decode cX2_freeSlot 8 = .ok (.if_icmp .ge 20, 3) := by decide +kernel
theorem dX2_freeSlot_11 : decode cX2_freeSlot 11 = .ok (.aload_n 0, 1) := by decide +kernel
theorem dX2_freeSlot_12 : decode cX2_freeSlot 12 = .ok (.iload_n 2, 1) := by decide +kernel
theorem dX2_freeSlot_13 : decode cX2_freeSlot 13 = .ok (.iload_n 3, 1) := by decide +kernel
theorem dX2_freeSlot_14 : decode cX2_freeSlot 14 = .ok (.invokevirtual 55, 3) := by decide +kernel
theorem dX2_freeSlot_17 : decode cX2_freeSlot 17 = .ok (.ifCond .ne 5, 3) := by decide +kernel
theorem dX2_freeSlot_20 : decode cX2_freeSlot 20 = .ok (.iload_n 3, 1) := by decide +kernel
theorem dX2_freeSlot_21 : decode cX2_freeSlot 21 = .ok (.ireturn, 1) := by decide +kernel
theorem dX2_freeSlot_22 : decode cX2_freeSlot 22 = .ok (.iinc 3 1, 3) := by decide +kernel
theorem dX2_freeSlot_25 : decode cX2_freeSlot 25 = .ok (.goto (-23), 3) := by decide +kernel
theorem dX2_freeSlot_28 : decode cX2_freeSlot 28 = .ok (.iconst (-1), 1) := by decide +kernel
theorem dX2_freeSlot_29 : decode cX2_freeSlot 29 = .ok (.ireturn, 1) := by decide +kernel
theorem dX2_isPageOf_0 : decode cX2_isPageOf 0 = .ok (.iload_n 2, 1) := by decide +kernel
theorem dX2_isPageOf_1 : decode cX2_isPageOf 1 = .ok (.iconst 1, 1) := by decide +kernel
theorem dX2_isPageOf_2 : decode cX2_isPageOf 2 = .ok (.if_icmp .lt 28, 3) := by decide +kernel
theorem dX2_isPageOf_5 : decode cX2_isPageOf 5 = .ok (.iload_n 2, 1) := by decide +kernel
theorem dX2_isPageOf_6 : decode cX2_isPageOf 6 = .ok (.bipush 16, 2) := by decide +kernel
theorem dX2_isPageOf_8 : decode cX2_isPageOf 8 = .ok (.if_icmp .ge 22, 3) := by decide +kernel
theorem dX2_isPageOf_11 : decode cX2_isPageOf 11 = .ok (.aload_n 0, 1) := by decide +kernel
theorem dX2_isPageOf_12 : decode cX2_isPageOf 12 = .ok (.getfield 9, 3) := by decide +kernel
theorem dX2_isPageOf_15 : decode cX2_isPageOf 15 = .ok (.iload_n 2, 1) := by decide +kernel
theorem dX2_isPageOf_16 : decode cX2_isPageOf 16 = .ok (.bipush 16, 2) := by decide +kernel
theorem dX2_isPageOf_18 : decode cX2_isPageOf 18 = .ok (.imul, 1) := by decide +kernel
theorem dX2_isPageOf_19 : decode cX2_isPageOf 19 = .ok (.iaload, 1) := by decide +kernel
theorem dX2_isPageOf_20 : decode cX2_isPageOf 20 = .ok (.iload_n 1, 1) := by decide +kernel
theorem dX2_isPageOf_21 : decode cX2_isPageOf 21 = .ok (.iconst 1, 1) := by decide +kernel
theorem dX2_isPageOf_22 : decode cX2_isPageOf 22 = .ok (.iadd, 1) := by decide +kernel
theorem dX2_isPageOf_23 : decode cX2_isPageOf 23 = .ok (.if_icmp .ne 7, 3) := by decide +kernel
theorem dX2_isPageOf_26 : decode cX2_isPageOf 26 = .ok (.iconst 1, 1) := by decide +kernel
theorem dX2_isPageOf_27 : decode cX2_isPageOf 27 = .ok (.goto 4, 3) := by decide +kernel
theorem dX2_isPageOf_30 : decode cX2_isPageOf 30 = .ok (.iconst 0, 1) := by decide +kernel
theorem dX2_isPageOf_31 : decode cX2_isPageOf 31 = .ok (.ireturn, 1) := by decide +kernel
theorem dX2_hasRow_0 : decode cX2_hasRow 0 = .ok (.aload_n 0, 1) := by decide +kernel
theorem dX2_hasRow_1 : decode cX2_hasRow 1 = .ok (.getfield 9, 3) := by decide +kernel
theorem dX2_hasRow_4 : decode cX2_hasRow 4 = .ok (.iload_n 1, 1) := by decide +kernel
theorem dX2_hasRow_5 : decode cX2_hasRow 5 = .ok (.bipush 16, 2) := by decide +kernel
theorem dX2_hasRow_7 : decode cX2_hasRow 7 = .ok (.imul, 1) := by decide +kernel
theorem dX2_hasRow_8 : decode cX2_hasRow 8 = .ok (.iconst 2, 1) := by decide +kernel
theorem dX2_hasRow_9 : decode cX2_hasRow 9 = .ok (.iadd, 1) := by decide +kernel
theorem dX2_hasRow_10 : decode cX2_hasRow 10 = .ok (.iaload, 1) := by decide +kernel
theorem dX2_hasRow_11 : decode cX2_hasRow 11 = .ok (.iload_n 2, 1) := by decide +kernel
theorem dX2_hasRow_12 : decode cX2_hasRow 12 = .ok (.ishr, 1) := by decide +kernel
theorem dX2_hasRow_13 : decode cX2_hasRow 13 = .ok (.iconst 1, 1) := by decide +kernel
theorem dX2_hasRow_14 : decode cX2_hasRow 14 = .ok (.iand, 1) := by decide +kernel
theorem dX2_hasRow_15 : decode cX2_hasRow 15 = .ok (.iconst 1, 1) := by decide +kernel
theorem dX2_hasRow_16 : decode cX2_hasRow 16 = .ok (.if_icmp .ne 7, 3) := by decide +kernel
theorem dX2_hasRow_19 : decode cX2_hasRow 19 = .ok (.iconst 1, 1) := by decide +kernel
theorem dX2_hasRow_20 : decode cX2_hasRow 20 = .ok (.goto 4, 3) := by decide +kernel
theorem dX2_hasRow_23 : decode cX2_hasRow 23 = .ok (.iconst 0, 1) := by decide +kernel
theorem dX2_hasRow_24 : decode cX2_hasRow 24 = .ok (.ireturn, 1) := by decide +kernel
set_option maxRecDepth 20000 in
theorem ggX2_rowAt_X2_width : GoodIn wsX2_rowAt wsX2_width := goodIn_r _ [5, 6, 7, 8, 9, 4, 10, 11] (by decide +kernel) (by decide +kernel)
set_option maxRecDepth 20000 in
theorem gX2_rowAt_X2_width : GoodIn wsX2_rowAt (wsV RX2 32 RX2 yX2_width wsX2_width) := goodIn_app (goodIn_of _ (by decide +kernel)) ggX2_rowAt_X2_width
theorem dX2_rowAt_0 : decode cX2_rowAt 0 = .ok (.iload_n 2, 1) := by decide +kernel
theorem dX2_rowAt_1 : decode cX2_rowAt 1 = .ok (.bipush 16, 2) := by decide +kernel
theorem dX2_rowAt_3 : decode cX2_rowAt 3 = .ok (.imul, 1) := by decide +kernel
theorem dX2_rowAt_4 : decode cX2_rowAt 4 = .ok (.iconst 3, 1) := by decide +kernel
theorem dX2_rowAt_5 : decode cX2_rowAt 5 = .ok (.iadd, 1) := by decide +kernel
theorem dX2_rowAt_6 : decode cX2_rowAt 6 = .ok (.iload_n 3, 1) := by decide +kernel
theorem dX2_rowAt_7 : decode cX2_rowAt 7 = .ok (.aload_n 0, 1) := by decide +kernel
theorem dX2_rowAt_8 : decode cX2_rowAt 8 = .ok (.iload_n 1, 1) := by decide +kernel
theorem dX2_rowAt_9 : decode cX2_rowAt 9 = .ok (.invokevirtual 32, 3) := by decide +kernel
theorem dX2_rowAt_12 : decode cX2_rowAt 12 = .ok (.imul, 1) := by decide +kernel
theorem dX2_rowAt_13 : decode cX2_rowAt 13 = .ok (.iadd, 1) := by decide +kernel
theorem dX2_rowAt_14 : decode cX2_rowAt 14 = .ok (.ireturn, 1) := by decide +kernel
set_option maxRecDepth 20000 in
theorem ggX2_slots_X2_width : GoodIn wsX2_slots wsX2_width := goodIn_r _ [5, 6, 7, 8, 9, 4, 10, 11] (by decide +kernel) (by decide +kernel)
set_option maxRecDepth 20000 in
theorem gX2_slots_X2_width : GoodIn wsX2_slots (wsV RX2 32 RX2 yX2_width wsX2_width) := goodIn_app (goodIn_of _ (by decide +kernel)) ggX2_slots_X2_width
theorem dX2_slots_0 : decode cX2_slots 0 = .ok (.aload_n 0, 1) := by decide +kernel
theorem dX2_slots_1 : decode cX2_slots 1 = .ok (.iload_n 1, 1) := by decide +kernel
theorem dX2_slots_2 : decode cX2_slots 2 = .ok (.invokevirtual 32, 3) := by decide +kernel
theorem dX2_slots_5 : decode cX2_slots 5 = .ok (.istore_n 2, 1) := by decide +kernel
theorem dX2_slots_6 : decode cX2_slots 6 = .ok (.iload_n 2, 1) := by decide +kernel
theorem dX2_slots_7 : decode cX2_slots 7 = .ok (.ifCond .ne 7, 3) := by decide +kernel
theorem dX2_slots_10 : decode cX2_slots 10 = .ok (.iconst 0, 1) := by decide +kernel
theorem dX2_slots_11 : decode cX2_slots 11 = .ok (.goto 7, 3) := by decide +kernel
theorem dX2_slots_14 : decode cX2_slots 14 = .ok (.bipush 13, 2) := by decide +kernel
theorem dX2_slots_16 : decode cX2_slots 16 = .ok (.iload_n 2, 1) := by decide +kernel
theorem dX2_slots_17 : decode cX2_slots 17 = .ok (.idiv, 1) := by decide +kernel
theorem dX2_slots_18 : decode cX2_slots 18 = .ok (.ireturn, 1) := by decide +kernel
theorem dX2_clear_0 : decode cX2_clear 0 = .ok (.iload_n 1, 1) := by decide +kernel
theorem dX2_clear_1 : decode cX2_clear 1 = .ok (.istore_n 3, 1) := by decide +kernel
theorem dX2_clear_2 : decode cX2_clear 2 = .ok (.iload_n 3, 1) := by decide +kernel
theorem dX2_clear_3 : decode cX2_clear 3 = .ok (.iload_n 1, 1) := by decide +kernel
theorem dX2_clear_4 : decode cX2_clear 4 = .ok (.iload_n 2, 1) := by decide +kernel
theorem dX2_clear_5 : decode cX2_clear 5 = .ok (.iadd, 1) := by decide +kernel
theorem dX2_clear_6 : decode cX2_clear 6 = .ok (.if_icmp .ge 16, 3) := by decide +kernel
theorem dX2_clear_9 : decode cX2_clear 9 = .ok (.aload_n 0, 1) := by decide +kernel
theorem dX2_clear_10 : decode cX2_clear 10 = .ok (.getfield 9, 3) := by decide +kernel
theorem dX2_clear_13 : decode cX2_clear 13 = .ok (.iload_n 3, 1) := by decide +kernel
theorem dX2_clear_14 : decode cX2_clear 14 = .ok (.iconst 0, 1) := by decide +kernel
theorem dX2_clear_15 : decode cX2_clear 15 = .ok (.iastore, 1) := by decide +kernel
end
section
theorem dX2_clear_16 : decode cX2_clear 16 = .ok (.iinc 3 1, 3) := by decide +kernel
theorem dX2_clear_19 : decode cX2_clear 19 = .ok (.goto (-17), 3) := by decide +kernel
theorem dX2_clear_22 : decode cX2_clear 22 = .ok (.return_, 1) := by decide +kernel
theorem dX3_init_0 : decode cX3_init 0 = .ok (.aload_n 0, 1) := by decide +kernel
theorem dX3_init_1 : decode cX3_init 1 = .ok (.invokespecial 5, 3) := by decide +kernel
theorem dX3_init_4 : decode cX3_init 4 = .ok (.aload_n 0, 1) := by decide +kernel
theorem dX3_init_5 : decode cX3_init 5 = .ok (.iconst 0, 1) := by decide +kernel
theorem dX3_init_6 : decode cX3_init 6 = .ok (.putfield 11, 3) := by decide +kernel
theorem dX3_init_9 : decode cX3_init 9 = .ok (.aload_n 0, 1) := by decide +kernel
theorem dX3_init_10 : decode cX3_init 10 = .ok (.iconst 0, 1) := by decide +kernel
theorem dX3_init_11 : decode cX3_init 11 = .ok (.putfield 17, 3) := by decide +kernel
theorem dX3_init_14 : decode cX3_init 14 = .ok (.aload_n 0, 1) := by decide +kernel
theorem dX3_init_15 : decode cX3_init 15 = .ok (.iconst 0, 1) := by decide +kernel
theorem dX3_init_16 : decode cX3_init 16 = .ok (.putfield 20, 3) := by decide +kernel
theorem dX3_init_19 : decode cX3_init 19 = .ok (.aload_n 0, 1) := by decide +kernel
theorem dX3_init_20 : decode cX3_init 20 = .ok (.iconst 0, 1) := by decide +kernel
theorem dX3_init_21 : decode cX3_init 21 = .ok (.putfield 24, 3) := by decide +kernel
theorem dX3_init_24 : decode cX3_init 24 = .ok (.aload_n 0, 1) := by decide +kernel
theorem dX3_init_25 : decode cX3_init 25 = .ok (.iconst 0, 1) := by decide +kernel
theorem dX3_init_26 : decode cX3_init 26 = .ok (.putfield 27, 3) := by decide +kernel
theorem dX3_init_29 : decode cX3_init 29 = .ok (.aload_n 0, 1) := by decide +kernel
theorem dX3_init_30 : decode cX3_init 30 = .ok (.iconst 0, 1) := by decide +kernel
theorem dX3_init_31 : decode cX3_init 31 = .ok (.putfield 30, 3) := by decide +kernel
theorem dX3_init_34 : decode cX3_init 34 = .ok (.aload_n 0, 1) := by decide +kernel
theorem dX3_init_35 : decode cX3_init 35 = .ok (.ldc2_w 33, 3) := by decide +kernel
theorem dX3_init_38 : decode cX3_init 38 = .ok (.putfield 35, 3) := by decide +kernel
theorem dX3_init_41 : decode cX3_init 41 = .ok (.aload_n 0, 1) := by decide +kernel
theorem dX3_init_42 : decode cX3_init 42 = .ok (.iconst (-1), 1) := by decide +kernel
theorem dX3_init_43 : decode cX3_init 43 = .ok (.putfield 39, 3) := by decide +kernel
theorem dX3_init_46 : decode cX3_init 46 = .ok (.return_, 1) := by decide +kernel
theorem dX3_isOpen_0 : decode cX3_isOpen 0 = .ok (.aload_n 0, 1) := by decide +kernel
theorem dX3_isOpen_1 : decode cX3_isOpen 1 = .ok (.getfield 11, 3) := by decide +kernel
theorem dX3_isOpen_4 : decode cX3_isOpen 4 = .ok (.ireturn, 1) := by decide +kernel
theorem dX3_isVoid_0 : decode cX3_isVoid 0 = .ok (.aload_n 0, 1) := by decide +kernel
theorem dX3_isVoid_1 : decode cX3_isVoid 1 = .ok (.getfield 17, 3) := by decide +kernel
theorem dX3_isVoid_4 : decode cX3_isVoid 4 = .ok (.ireturn, 1) := by decide +kernel
theorem dX3_start_0 : decode cX3_start 0 = .ok (.aload_n 0, 1) := by decide +kernel
theorem dX3_start_1 : decode cX3_start 1 = .ok (.iconst 1, 1) := by decide +kernel
theorem dX3_start_2 : decode cX3_start 2 = .ok (.putfield 11, 3) := by decide +kernel
theorem dX3_start_5 : decode cX3_start 5 = .ok (.aload_n 0, 1) := by decide +kernel
theorem dX3_start_6 : decode cX3_start 6 = .ok (.iconst 0, 1) := by decide +kernel
theorem dX3_start_7 : decode cX3_start 7 = .ok (.putfield 17, 3) := by decide +kernel
theorem dX3_start_10 : decode cX3_start 10 = .ok (.aload_n 0, 1) := by decide +kernel
theorem dX3_start_11 : decode cX3_start 11 = .ok (.iload_n 1, 1) := by decide +kernel
theorem dX3_start_12 : decode cX3_start 12 = .ok (.putfield 20, 3) := by decide +kernel
theorem dX3_start_15 : decode cX3_start 15 = .ok (.aload_n 0, 1) := by decide +kernel
theorem dX3_start_16 : decode cX3_start 16 = .ok (.iload_n 2, 1) := by decide +kernel
theorem dX3_start_17 : decode cX3_start 17 = .ok (.putfield 24, 3) := by decide +kernel
theorem dX3_start_20 : decode cX3_start 20 = .ok (.aload_n 0, 1) := by decide +kernel
theorem dX3_start_21 : decode cX3_start 21 = .ok (.iload_n 3, 1) := by decide +kernel
theorem dX3_start_22 : decode cX3_start 22 = .ok (.putfield 27, 3) := by decide +kernel
theorem dX3_start_25 : decode cX3_start 25 = .ok (.aload_n 0, 1) := by decide +kernel
theorem dX3_start_26 : decode cX3_start 26 = .ok (.iload 4, 2) := by decide +kernel
theorem dX3_start_28 : decode cX3_start 28 = .ok (.putfield 30, 3) := by decide +kernel
theorem dX3_start_31 : decode cX3_start 31 = .ok (.aload_n 0, 1) := by decide +kernel
theorem dX3_start_32 : decode cX3_start 32 = .ok (.ldc2_w 33, 3) := by decide +kernel
theorem dX3_start_35 : decode cX3_start 35 = .ok (.putfield 35, 3) := by decide +kernel
theorem dX3_start_38 : decode cX3_start 38 = .ok (.aload_n 0, 1) := by decide +kernel
theorem dX3_start_39 : decode cX3_start 39 = .ok (.iconst (-1), 1) := by decide +kernel
theorem dX3_start_40 : decode cX3_start 40 = .ok (.putfield 39, 3) := by decide +kernel
theorem dX3_start_43 : decode cX3_start 43 = .ok (.return_, 1) := by decide +kernel
theorem dX3_end_0 : decode cX3_end 0 = .ok (.aload_n 0, 1) := by decide +kernel
theorem dX3_end_1 : decode cX3_end 1 = .ok (.iconst 0, 1) := by decide +kernel
theorem dX3_end_2 : decode cX3_end 2 = .ok (.putfield 11, 3) := by decide +kernel
theorem dX3_end_5 : decode cX3_end 5 = .ok (.return_, 1) := by decide +kernel
theorem dX3_tableChanged_0 : decode cX3_tableChanged 0 = .ok (.iload_n 1, 1) := by decide +kernel
theorem dX3_tableChanged_1 : decode cX3_tableChanged 1 = .ok (.aload_n 0, 1) := by decide +kernel
theorem dX3_tableChanged_2 : decode cX3_tableChanged 2 = .ok (.getfield 20, 3) := by decide +kernel
theorem dX3_tableChanged_5 : decode cX3_tableChanged 5 = .ok (.if_icmp .ne 8, 3) := by decide +kernel
theorem dX3_tableChanged_8 : decode cX3_tableChanged 8 = .ok (.aload_n 0, 1) := by decide +kernel
theorem dX3_tableChanged_9 : decode cX3_tableChanged 9 = .ok (.iconst 1, 1) := by decide +kernel
theorem dX3_tableChanged_10 : decode cX3_tableChanged 10 = .ok (.putfield 17, 3) := by decide +kernel
theorem dX3_tableChanged_13 : decode cX3_tableChanged 13 = .ok (.return_, 1) := by decide +kernel
set_option maxRecDepth 20000 in
theorem ggX3_move_X2_leastRow : GoodIn wsX3_move wsX2_leastRow := goodIn_r _ [11, 12, 13, 14, 15, 10, 16, 17, 18, 19, 20, 21, 22, 23, 24, 25, 26, 27, 28, 29, 30, 31, 32, 33, 34, 35, 36, 49] (by decide +kernel) (by decide +kernel)
set_option maxRecDepth 20000 in
theorem gX3_move_X2_leastRow : GoodIn wsX3_move (wsV RX3 42 RX2 yX2_leastRow wsX2_leastRow) := goodIn_app (goodIn_of _ (by decide +kernel)) ggX3_move_X2_leastRow
set_option maxRecDepth 20000 in
theorem ggX3_move_X2_word : GoodIn wsX3_move wsX2_word := goodIn_r _ [40, 12, 49] (by decide +kernel) (by decide +kernel)
set_option maxRecDepth 20000 in
theorem gX3_move_X2_word : GoodIn wsX3_move (wsV RX3 48 RX2 yX2_word wsX2_word) := goodIn_app (goodIn_of _ (by decide +kernel)) ggX3_move_X2_word
theorem dX3_move_0 : decode cX3_move 0 = .ok (.aload_n 0, 1) := by decide +kernel
theorem dX3_move_1 : decode cX3_move 1 = .ok (.aload_n 1, 1) := by decide +kernel
theorem dX3_move_2 : decode cX3_move 2 = .ok (.aload_n 0, 1) := by decide +kernel
theorem dX3_move_3 : decode cX3_move 3 = .ok (.getfield 20, 3) := by decide +kernel
theorem dX3_move_6 : decode cX3_move 6 = .ok (.aload_n 0, 1) := by decide +kernel
theorem dX3_move_7 : decode cX3_move 7 = .ok (.getfield 24, 3) := by decide +kernel
theorem dX3_move_10 : decode cX3_move 10 = .ok (.aload_n 0, 1) := by decide +kernel
theorem dX3_move_11 : decode cX3_move 11 = .ok (.getfield 27, 3) := by decide +kernel
theorem dX3_move_14 : decode cX3_move 14 = .ok (.aload_n 0, 1) := by decide +kernel
theorem dX3_move_15 : decode cX3_move 15 = .ok (.getfield 30, 3) := by decide +kernel
theorem dX3_move_18 : decode cX3_move 18 = .ok (.aload_n 0, 1) := by decide +kernel
theorem dX3_move_19 : decode cX3_move 19 = .ok (.getfield 35, 3) := by decide +kernel
theorem dX3_move_22 : decode cX3_move 22 = .ok (.invokevirtual 42, 3) := by decide +kernel
theorem dX3_move_25 : decode cX3_move 25 = .ok (.putfield 39, 3) := by decide +kernel
theorem dX3_move_28 : decode cX3_move 28 = .ok (.aload_n 0, 1) := by decide +kernel
theorem dX3_move_29 : decode cX3_move 29 = .ok (.getfield 39, 3) := by decide +kernel
theorem dX3_move_32 : decode cX3_move 32 = .ok (.iconst (-1), 1) := by decide +kernel
theorem dX3_move_33 : decode cX3_move 33 = .ok (.if_icmp .ne 5, 3) := by decide +kernel
theorem dX3_move_36 : decode cX3_move 36 = .ok (.iconst 0, 1) := by decide +kernel
theorem dX3_move_37 : decode cX3_move 37 = .ok (.ireturn, 1) := by decide +kernel
theorem dX3_move_38 : decode cX3_move 38 = .ok (.aload_n 0, 1) := by decide +kernel
theorem dX3_move_39 : decode cX3_move 39 = .ok (.aload_n 1, 1) := by decide +kernel
theorem dX3_move_40 : decode cX3_move 40 = .ok (.aload_n 0, 1) := by decide +kernel
theorem dX3_move_41 : decode cX3_move 41 = .ok (.getfield 39, 3) := by decide +kernel
theorem dX3_move_44 : decode cX3_move 44 = .ok (.invokevirtual 48, 3) := by decide +kernel
theorem dX3_move_47 : decode cX3_move 47 = .ok (.i2l, 1) := by decide +kernel
theorem dX3_move_48 : decode cX3_move 48 = .ok (.putfield 35, 3) := by decide +kernel
theorem dX3_move_51 : decode cX3_move 51 = .ok (.iconst 1, 1) := by decide +kernel
theorem dX3_move_52 : decode cX3_move 52 = .ok (.ireturn, 1) := by decide +kernel
set_option maxRecDepth 20000 in
theorem ggX3_wordAt_X2_hasCol : GoodIn wsX3_wordAt wsX2_hasCol := goodIn_r _ [7, 8, 9, 10, 6, 11, 12, 13, 14, 15, 16, 29] (by decide +kernel) (by decide +kernel)
set_option maxRecDepth 20000 in
theorem gX3_wordAt_X2_hasCol : GoodIn wsX3_wordAt (wsV RX3 52 RX2 yX2_hasCol wsX2_hasCol) := goodIn_app (goodIn_of _ (by decide +kernel)) ggX3_wordAt_X2_hasCol
set_option maxRecDepth 20000 in
theorem ggX3_wordAt_X2_word : GoodIn wsX3_wordAt wsX2_word := goodIn_r _ [20, 12, 29] (by decide +kernel) (by decide +kernel)
set_option maxRecDepth 20000 in
theorem gX3_wordAt_X2_word : GoodIn wsX3_wordAt (wsV RX3 48 RX2 yX2_word wsX2_word) := goodIn_app (goodIn_of _ (by decide +kernel)) ggX3_wordAt_X2_word
theorem dX3_wordAt_0 : decode cX3_wordAt 0 = .ok (.aload_n 0, 1) := by decide +kernel
theorem dX3_wordAt_1 : decode cX3_wordAt 1 = .ok (.getfield 39, 3) := by decide +kernel
theorem dX3_wordAt_4 : decode cX3_wordAt 4 = .ok (.iconst (-1), 1) := by decide +kernel
theorem dX3_wordAt_5 : decode cX3_wordAt 5 = .ok (.if_icmp .eq 15, 3) := by decide +kernel
theorem dX3_wordAt_8 : decode cX3_wordAt 8 = .ok (.aload_n 1, 1) := by decide +kernel
theorem dX3_wordAt_9 : decode cX3_wordAt 9 = .ok (.aload_n 0, 1) := by decide +kernel
theorem dX3_wordAt_10 : decode cX3_wordAt 10 = .ok (.getfield 20, 3) := by decide +kernel
theorem dX3_wordAt_13 : decode cX3_wordAt 13 = .ok (.iload_n 2, 1) := by decide +kernel
theorem dX3_wordAt_14 : decode cX3_wordAt 14 = .ok (.invokevirtual 52, 3) := by decide +kernel
theorem dX3_wordAt_17 : decode cX3_wordAt 17 = .ok (.ifCond .ne 5, 3) := by decide +kernel
theorem dX3_wordAt_20 : decode cX3_wordAt 20 = .ok (.iconst 0, 1) := by decide +kernel
theorem dX3_wordAt_21 : decode cX3_wordAt 21 = .ok (.ireturn, 1) := by decide +kernel
theorem dX3_wordAt_22 : decode cX3_wordAt 22 = .ok (.aload_n 1, 1) := by decide +kernel
theorem dX3_wordAt_23 : decode cX3_wordAt 23 = .ok (.aload_n 0, 1) := by decide +kernel
theorem dX3_wordAt_24 : decode cX3_wordAt 24 = .ok (.getfield 39, 3) := by decide +kernel
theorem dX3_wordAt_27 : decode cX3_wordAt 27 = .ok (.iload_n 2, 1) := by decide +kernel
theorem dX3_wordAt_28 : decode cX3_wordAt 28 = .ok (.iadd, 1) := by decide +kernel
theorem dX3_wordAt_29 : decode cX3_wordAt 29 = .ok (.invokevirtual 48, 3) := by decide +kernel
theorem dX3_wordAt_32 : decode cX3_wordAt 32 = .ok (.ireturn, 1) := by decide +kernel
set_option maxRecDepth 20000 in
theorem ggX4_init_X0_init : GoodIn wsX4_init wsX0_init := goodIn_r _ [24, 25, 2, 3, 20, 26, 27, 28, 29, 53, 54, 55, 56] (by decide +kernel) (by decide +kernel)
set_option maxRecDepth 20000 in
theorem gX4_init_X0_init_n9 : GoodIn wsX4_init (wsX0_init) := ggX4_init_X0_init
set_option maxRecDepth 20000 in
theorem ggX4_init_X2_init : GoodIn wsX4_init wsX2_init := goodIn_r _ [31, 32, 2, 3, 20, 33, 63] (by decide +kernel) (by decide +kernel)
set_option maxRecDepth 20000 in
theorem gX4_init_X2_init_n18 : GoodIn wsX4_init (wsX2_init) := ggX4_init_X2_init
set_option maxRecDepth 20000 in
theorem ggX4_init_X1_init : GoodIn wsX4_init wsX1_init := goodIn_r _ [36, 37, 2, 3, 20, 38, 39, 40, 64, 65, 66] (by decide +kernel) (by decide +kernel)
set_option maxRecDepth 20000 in
theorem gX4_init_X1_init : GoodIn wsX4_init (wsX1_init) := ggX4_init_X1_init
set_option maxRecDepth 20000 in
theorem ggX4_init_X3_init : GoodIn wsX4_init wsX3_init := goodIn_r _ [42, 43, 2, 3, 44, 45, 46, 47, 48, 49, 50, 51, 52, 67, 68, 69, 70, 71, 72, 73, 74] (by decide +kernel) (by decide +kernel)
set_option maxRecDepth 20000 in
theorem gX4_init_X3_init_n38 : GoodIn wsX4_init (wsX3_init) := ggX4_init_X3_init
theorem dX4_init_0 : decode cX4_init 0 = .ok (.aload_n 0, 1) := by decide +kernel
theorem dX4_init_1 : decode cX4_init 1 = .ok (.invokespecial 1, 3) := by decide +kernel
theorem dX4_init_4 : decode cX4_init 4 = .ok (.aload_n 0, 1) := by decide +kernel
theorem dX4_init_5 : decode cX4_init 5 = .ok (.new 7, 3) := by decide +kernel
theorem dX4_init_8 : decode cX4_init 8 = .ok (.dup, 1) := by decide +kernel
theorem dX4_init_9 : decode cX4_init 9 = .ok (.invokespecial 9, 3) := by decide +kernel
theorem dX4_init_12 : decode cX4_init 12 = .ok (.putfield 10, 3) := by decide +kernel
theorem dX4_init_15 : decode cX4_init 15 = .ok (.aload_n 0, 1) := by decide +kernel
theorem dX4_init_16 : decode cX4_init 16 = .ok (.new 16, 3) := by decide +kernel
theorem dX4_init_19 : decode cX4_init 19 = .ok (.dup, 1) := by decide +kernel
theorem dX4_init_20 : decode cX4_init 20 = .ok (.invokespecial 18, 3) := by decide +kernel
theorem dX4_init_23 : decode cX4_init 23 = .ok (.putfield 19, 3) := by decide +kernel
theorem dX4_init_26 : decode cX4_init 26 = .ok (.aload_n 0, 1) := by decide +kernel
theorem dX4_init_27 : decode cX4_init 27 = .ok (.new 23, 3) := by decide +kernel
theorem dX4_init_30 : decode cX4_init 30 = .ok (.dup, 1) := by decide +kernel
theorem dX4_init_31 : decode cX4_init 31 = .ok (.aload_n 0, 1) := by decide +kernel
theorem dX4_init_32 : decode cX4_init 32 = .ok (.getfield 10, 3) := by decide +kernel
theorem dX4_init_35 : decode cX4_init 35 = .ok (.aload_n 0, 1) := by decide +kernel
theorem dX4_init_36 : decode cX4_init 36 = .ok (.getfield 19, 3) := by decide +kernel
theorem dX4_init_39 : decode cX4_init 39 = .ok (.invokespecial 25, 3) := by decide +kernel
theorem dX4_init_42 : decode cX4_init 42 = .ok (.putfield 28, 3) := by decide +kernel
theorem dX4_init_45 : decode cX4_init 45 = .ok (.aload_n 0, 1) := by decide +kernel
theorem dX4_init_46 : decode cX4_init 46 = .ok (.iconst 4, 1) := by decide +kernel
theorem dX4_init_47 : decode cX4_init 47 = .ok (.anewarray 32, 3) := by decide +kernel
theorem dX4_init_50 : decode cX4_init 50 = .ok (.putfield 34, 3) := by decide +kernel
theorem dX4_init_53 : decode cX4_init 53 = .ok (.iconst 0, 1) := by decide +kernel
theorem dX4_init_54 : decode cX4_init 54 = .ok (.istore_n 1, 1) := by decide +kernel
theorem dX4_init_55 : decode cX4_init 55 = .ok (.iload_n 1, 1) := by decide +kernel
theorem dX4_init_56 : decode cX4_init 56 = .ok (.iconst 4, 1) := by decide +kernel
theorem dX4_init_57 : decode cX4_init 57 = .ok (.if_icmp .ge 22, 3) := by decide +kernel
theorem dX4_init_60 : decode cX4_init 60 = .ok (.aload_n 0, 1) := by decide +kernel
theorem dX4_init_61 : decode cX4_init 61 = .ok (.getfield 34, 3) := by decide +kernel
theorem dX4_init_64 : decode cX4_init 64 = .ok (.iload_n 1, 1) := by decide +kernel
theorem dX4_init_65 : decode cX4_init 65 = .ok (.new 32, 3) := by decide +kernel
theorem dX4_init_68 : decode cX4_init 68 = .ok (.dup, 1) := by decide +kernel
theorem dX4_init_69 : decode cX4_init 69 = .ok (.invokespecial 38, 3) := by decide +kernel
theorem dX4_init_72 : decode cX4_init 72 = .ok (.aastore, 1) := by decide +kernel
theorem dX4_init_73 : decode cX4_init 73 = .ok (.iinc 1 1, 3) := by decide +kernel
theorem dX4_init_76 : decode cX4_init 76 = .ok (.goto (-21), 3) := by decide +kernel
theorem dX4_init_79 : decode cX4_init 79 = .ok (.aload_n 0, 1) := by decide +kernel
theorem dX4_init_80 : decode cX4_init 80 = .ok (.bipush 6, 2) := by decide +kernel
theorem dX4_init_82 : decode cX4_init 82 = .ok (.newarray .int, 2) := by decide +kernel
theorem dX4_init_84 : decode cX4_init 84 = .ok (.putfield 39, 3) := by decide +kernel
theorem dX4_init_87 : decode cX4_init 87 = .ok (.aload_n 0, 1) := by decide +kernel
theorem dX4_init_88 : decode cX4_init 88 = .ok (.iconst 0, 1) := by decide +kernel
theorem dX4_init_89 : decode cX4_init 89 = .ok (.putfield 43, 3) := by decide +kernel
theorem dX4_init_92 : decode cX4_init 92 = .ok (.return_, 1) := by decide +kernel
set_option maxRecDepth 20000 in
theorem ggX4_format_X0_wipe : GoodIn wsX4_format wsX0_wipe := goodIn_r _ [6, 7, 8, 9, 40, 41, 42, 43] (by decide +kernel) (by decide +kernel)
set_option maxRecDepth 20000 in
theorem gX4_format_X0_wipe : GoodIn wsX4_format (wsV RX4 47 RX0 yX0_wipe wsX0_wipe) := goodIn_app (goodIn_of _ (by decide +kernel)) ggX4_format_X0_wipe
set_option maxRecDepth 20000 in
theorem ggX4_format_X4_startAnew : GoodIn wsX4_format wsX4_startAnew := goodIn_r _ [14, 15, 1, 16, 17, 18, 19, 20, 21, 22, 23, 24, 25, 26, 27, 28, 29, 30, 31, 32, 33, 34, 35, 36, 37, 38, 39, 40, 41, 42, 43, 44, 45, 46, 47, 48, 49, 50, 51, 52] (by decide +kernel) (by decide +kernel)
set_option maxRecDepth 20000 in
theorem gX4_format_X4_startAnew : GoodIn wsX4_format (wsV RX4 50 RX4 yX4_startAnew wsX4_startAnew) := goodIn_app (goodIn_of _ (by decide +kernel)) ggX4_format_X4_startAnew
theorem dX4_format_0 : decode cX4_format 0 = .ok (.aload_n 0, 1) := by decide +kernel
theorem dX4_format_1 : decode cX4_format 1 = .ok (.getfield 10, 3) := by decide +kernel
theorem dX4_format_4 : decode cX4_format 4 = .ok (.invokevirtual 47, 3) := by decide +kernel
theorem dX4_format_7 : decode cX4_format 7 = .ok (.aload_n 0, 1) := by decide +kernel
theorem dX4_format_8 : decode cX4_format 8 = .ok (.invokevirtual 50, 3) := by decide +kernel
theorem dX4_format_11 : decode cX4_format 11 = .ok (.iconst 0, 1) := by decide +kernel
theorem dX4_format_12 : decode cX4_format 12 = .ok (.ireturn, 1) := by decide +kernel
set_option maxRecDepth 20000 in
theorem ggX4_createTable_X0_powered : GoodIn wsX4_createTable wsX0_powered := goodIn_r _ [8, 9, 26, 27, 28, 29] (by decide +kernel) (by decide +kernel)
set_option maxRecDepth 20000 in
theorem gX4_createTable_X0_powered : GoodIn wsX4_createTable (wsV RX4 53 RX0 yX0_powered wsX0_powered) := goodIn_app (goodIn_of _ (by decide +kernel)) ggX4_createTable_X0_powered
set_option maxRecDepth 20000 in
theorem ggX4_createTable_X2_freeTable : GoodIn wsX4_createTable wsX2_freeTable := goodIn_r _ [14, 15, 30] (by decide +kernel) (by decide +kernel)
set_option maxRecDepth 20000 in
theorem gX4_createTable_X2_freeTable : GoodIn wsX4_createTable (wsV RX4 57 RX2 yX2_freeTable wsX2_freeTable) := goodIn_app (goodIn_of _ (by decide +kernel)) ggX4_createTable_X2_freeTable
set_option maxRecDepth 20000 in
theorem ggX4_createTable_X2_addTable : GoodIn wsX4_createTable wsX2_addTable := goodIn_r _ [19, 15, 30] (by decide +kernel) (by decide +kernel)
set_option maxRecDepth 20000 in
theorem gX4_createTable_X2_addTable : GoodIn wsX4_createTable (wsV RX4 61 RX2 yX2_addTable wsX2_addTable) := goodIn_app (goodIn_of _ (by decide +kernel)) ggX4_createTable_X2_addTable
theorem dX4_createTable_0 : decode cX4_createTable 0 = .ok (.aload_n 0, 1) := by decide +kernel
theorem dX4_createTable_1 : decode cX4_createTable 1 = .ok (.getfield 10, 3) := by decide +kernel
theorem dX4_createTable_4 : decode cX4_createTable 4 = .ok (.invokevirtual 53, 3) := by decide +kernel
theorem dX4_createTable_7 : decode cX4_createTable 7 = .ok (.ifCond .ne 5, 3) := by decide +kernel
theorem dX4_createTable_10 : decode cX4_createTable 10 = .ok (.iconst (-1), 1) := by decide +kernel
theorem dX4_createTable_11 : decode cX4_createTable 11 = .ok (.ireturn, 1) := by decide +kernel
theorem dX4_createTable_12 : decode cX4_createTable 12 = .ok (.iload_n 1, 1) := by decide +kernel
theorem dX4_createTable_13 : decode cX4_createTable 13 = .ok (.iconst 2, 1) := by decide +kernel
theorem dX4_createTable_14 : decode cX4_createTable 14 = .ok (.if_icmp .lt 9, 3) := by decide +kernel
theorem dX4_createTable_17 : decode cX4_createTable 17 = .ok (.iload_n 1, 1) := by decide +kernel
theorem dX4_createTable_18 : decode cX4_createTable 18 = .ok (.bipush 6, 2) := by decide +kernel
theorem dX4_createTable_20 : decode cX4_createTable 20 = .ok (.if_icmp .le 6, 3) := by decide +kernel
theorem dX4_createTable_23 : decode cX4_createTable 23 = .ok (.bipush (-4), 2) := by decide +kernel
theorem dX4_createTable_25 : decode cX4_createTable 25 = .ok (.ireturn, 1) := by decide +kernel
theorem dX4_createTable_26 : decode cX4_createTable 26 = .ok (.aload_n 0, 1) := by decide +kernel
theorem dX4_createTable_27 : decode cX4_createTable 27 = .ok (.getfield 43, 3) := by decide +kernel
theorem dX4_createTable_30 : decode cX4_createTable 30 = .ok (.ifCond .ne 6, 3) := by decide +kernel
theorem dX4_createTable_33 : decode cX4_createTable 33 = .ok (.bipush (-2), 2) := by decide +kernel
theorem dX4_createTable_35 : decode cX4_createTable 35 = .ok (.ireturn, 1) := by decide +kernel
theorem dX4_createTable_36 : decode cX4_createTable 36 = .ok (.aload_n 0, 1) := by decide +kernel
theorem dX4_createTable_37 : decode cX4_createTable 37 = .ok (.getfield 19, 3) := by decide +kernel
theorem dX4_createTable_40 : decode cX4_createTable 40 = .ok (.invokevirtual 57, 3) := by decide +kernel
theorem dX4_createTable_43 : decode cX4_createTable 43 = .ok (.istore_n 2, 1) := by decide +kernel
theorem dX4_createTable_44 : decode cX4_createTable 44 = .ok (.iload_n 2, 1) := by decide +kernel
theorem dX4_createTable_45 : decode cX4_createTable 45 = .ok (.iconst (-1), 1) := by decide +kernel
theorem dX4_createTable_46 : decode cX4_createTable 46 = .ok (.if_icmp .ne 6, 3) := by decide +kernel
theorem dX4_createTable_49 : decode cX4_createTable 49 = .ok (.bipush (-8), 2) := by decide +kernel
theorem dX4_createTable_51 : decode cX4_createTable 51 = .ok (.ireturn, 1) := by decide +kernel
theorem dX4_createTable_52 : decode cX4_createTable 52 = .ok (.aload_n 0, 1) := by decide +kernel
theorem dX4_createTable_53 : decode cX4_createTable 53 = .ok (.getfield 19, 3) := by decide +kernel
theorem dX4_createTable_56 : decode cX4_createTable 56 = .ok (.iload_n 2, 1) := by decide +kernel
theorem dX4_createTable_57 : decode cX4_createTable 57 = .ok (.iload_n 1, 1) := by decide +kernel
theorem dX4_createTable_58 : decode cX4_createTable 58 = .ok (.invokevirtual 61, 3) := by decide +kernel
theorem dX4_createTable_61 : decode cX4_createTable 61 = .ok (.iload_n 2, 1) := by decide +kernel
theorem dX4_createTable_62 : decode cX4_createTable 62 = .ok (.ireturn, 1) := by decide +kernel
set_option maxRecDepth 20000 in
theorem ggX4_dropTable_X4_refusalOfChange : GoodIn wsX4_dropTable wsX4_refusalOfChange := goodIn_r _ [6, 1, 7, 8, 9, 5, 10, 11, 12, 13, 14, 15, 16, 17, 18, 19, 20, 21, 22, 23, 24, 49, 50, 51, 52, 53, 54, 55, 56, 57, 58, 59] (by decide +kernel) (by decide +kernel)
set_option maxRecDepth 20000 in
theorem gX4_dropTable_X4_refusalOfChange : GoodIn wsX4_dropTable (wsV RX4 65 RX4 yX4_refusalOfChange wsX4_refusalOfChange) := goodIn_app (goodIn_of _ (by decide +kernel)) ggX4_dropTable_X4_refusalOfChange
set_option maxRecDepth 20000 in
theorem ggX4_dropTable_X2_removeTable : GoodIn wsX4_dropTable wsX2_removeTable := goodIn_r _ [28, 24, 29, 30, 31, 22, 32, 33, 34, 35, 36, 59] (by decide +kernel) (by decide +kernel)
set_option maxRecDepth 20000 in
theorem gX4_dropTable_X2_removeTable : GoodIn wsX4_dropTable (wsV RX4 69 RX2 yX2_removeTable wsX2_removeTable) := goodIn_app (goodIn_of _ (by decide +kernel)) ggX4_dropTable_X2_removeTable
set_option maxRecDepth 20000 in
theorem ggX4_dropTable_X4_voidScansOf : GoodIn wsX4_dropTable wsX4_voidScansOf := goodIn_r _ [40, 41, 42, 43, 44, 45, 46, 47, 48, 49, 50, 51, 52, 53, 54, 60, 61, 62, 63, 64, 65, 66, 67] (by decide +kernel) (by decide +kernel)
set_option maxRecDepth 20000 in
theorem gX4_dropTable_X4_voidScansOf : GoodIn wsX4_dropTable (wsV RX4 73 RX4 yX4_voidScansOf wsX4_voidScansOf) := goodIn_app (goodIn_of _ (by decide +kernel)) ggX4_dropTable_X4_voidScansOf
theorem dX4_dropTable_0 : decode cX4_dropTable 0 = .ok (.aload_n 0, 1) := by decide +kernel
theorem dX4_dropTable_1 : decode cX4_dropTable 1 = .ok (.iload_n 1, 1) := by decide +kernel
theorem dX4_dropTable_2 : decode cX4_dropTable 2 = .ok (.invokevirtual 65, 3) := by decide +kernel
theorem dX4_dropTable_5 : decode cX4_dropTable 5 = .ok (.istore_n 2, 1) := by decide +kernel
theorem dX4_dropTable_6 : decode cX4_dropTable 6 = .ok (.iload_n 2, 1) := by decide +kernel
theorem dX4_dropTable_7 : decode cX4_dropTable 7 = .ok (.ifCond .eq 5, 3) := by decide +kernel
theorem dX4_dropTable_10 : decode cX4_dropTable 10 = .ok (.iload_n 2, 1) := by decide +kernel
theorem dX4_dropTable_11 : decode cX4_dropTable 11 = .ok (.ireturn, 1) := by decide +kernel
theorem dX4_dropTable_12 : decode cX4_dropTable 12 = .ok (.aload_n 0, 1) := by decide +kernel
theorem dX4_dropTable_13 : decode cX4_dropTable 13 = .ok (.getfield 19, 3) := by decide +kernel
theorem dX4_dropTable_16 : decode cX4_dropTable 16 = .ok (.iload_n 1, 1) := by decide +kernel
theorem dX4_dropTable_17 : decode cX4_dropTable 17 = .ok (.invokevirtual 69, 3) := by decide +kernel
theorem dX4_dropTable_20 : decode cX4_dropTable 20 = .ok (.aload_n 0, 1) := by decide +kernel
theorem dX4_dropTable_21 : decode cX4_dropTable 21 = .ok (.iload_n 1, 1) := by decide +kernel
theorem dX4_dropTable_22 : decode cX4_dropTable 22 = .ok (.invokevirtual 73, 3) := by decide +kernel
theorem dX4_dropTable_25 : decode cX4_dropTable 25 = .ok (.iconst 0, 1) := by decide +kernel
theorem dX4_dropTable_26 : decode cX4_dropTable 26 = .ok (.ireturn, 1) := by decide +kernel
set_option maxRecDepth 20000 in
theorem ggX4_begin_X0_powered : GoodIn wsX4_begin wsX0_powered := goodIn_r _ [7, 8, 15, 16, 17, 18] (by decide +kernel) (by decide +kernel)
set_option maxRecDepth 20000 in
theorem gX4_begin_X0_powered : GoodIn wsX4_begin (wsV RX4 53 RX0 yX0_powered wsX0_powered) := goodIn_app (goodIn_of _ (by decide +kernel)) ggX4_begin_X0_powered
theorem dX4_begin_0 : decode cX4_begin 0 = .ok (.aload_n 0, 1) := by decide +kernel
theorem dX4_begin_1 : decode cX4_begin 1 = .ok (.getfield 10, 3) := by decide +kernel
theorem dX4_begin_4 : decode cX4_begin 4 = .ok (.invokevirtual 53, 3) := by decide +kernel
theorem dX4_begin_7 : decode cX4_begin 7 = .ok (.ifCond .ne 5, 3) := by decide +kernel
theorem dX4_begin_10 : decode cX4_begin 10 = .ok (.iconst (-1), 1) := by decide +kernel
theorem dX4_begin_11 : decode cX4_begin 11 = .ok (.ireturn, 1) := by decide +kernel
theorem dX4_begin_12 : decode cX4_begin 12 = .ok (.aload_n 0, 1) := by decide +kernel
theorem dX4_begin_13 : decode cX4_begin 13 = .ok (.getfield 43, 3) := by decide +kernel
theorem dX4_begin_16 : decode cX4_begin 16 = .ok (.ifCond .eq 6, 3) := by decide +kernel
theorem dX4_begin_19 : decode cX4_begin 19 = .ok (.bipush (-3), 2) := by decide +kernel
theorem dX4_begin_21 : decode cX4_begin 21 = .ok (.ireturn, 1) := by decide +kernel
theorem dX4_begin_22 : decode cX4_begin 22 = .ok (.aload_n 0, 1) := by decide +kernel
theorem dX4_begin_23 : decode cX4_begin 23 = .ok (.iconst 1, 1) := by decide +kernel
theorem dX4_begin_24 : decode cX4_begin 24 = .ok (.putfield 43, 3) := by decide +kernel
theorem dX4_begin_27 : decode cX4_begin 27 = .ok (.iconst 0, 1) := by decide +kernel
theorem dX4_begin_28 : decode cX4_begin 28 = .ok (.ireturn, 1) := by decide +kernel
set_option maxRecDepth 20000 in
theorem ggX4_commit_X4_refusalOutsideTransaction : GoodIn wsX4_commit wsX4_refusalOutsideTransaction := goodIn_r _ [7, 8, 2, 9, 10, 11, 12, 13, 14, 91, 92, 93, 94, 95, 96, 97, 98, 99, 100] (by decide +kernel) (by decide +kernel)
set_option maxRecDepth 20000 in
theorem gX4_commit_X4_refusalOutsideTransaction : GoodIn wsX4_commit (wsV RX4 76 RX4 yX4_refusalOutsideTransaction wsX4_refusalOutsideTransaction) := goodIn_app (goodIn_of _ (by decide +kernel)) ggX4_commit_X4_refusalOutsideTransaction
set_option maxRecDepth 20000 in
theorem ggX4_commit_X1_carryOut : GoodIn wsX4_commit wsX1_carryOut := goodIn_r _ [19, 20, 21, 22, 18, 23, 24, 25, 26, 27, 28, 29, 30, 31, 32, 33, 34, 35, 36, 37, 38, 39, 40, 41, 42, 43, 44, 45, 46, 47, 48, 49, 50, 51, 12, 52, 53, 54, 55, 56, 57, 58, 14, 59, 60, 61, 62, 63, 64, 65, 66, 67, 68, 69, 70, 71, 72, 73, 74, 75, 76, 77, 78, 79, 80, 81, 82, 83, 84, 85, 86, 87, 88, 89, 90, 101, 102, 103, 104, 97, 98, 99, 100] (by decide +kernel) (by decide +kernel)
set_option maxRecDepth 20000 in
theorem gX4_commit_X1_carryOut : GoodIn wsX4_commit (wsV RX4 79 RX1 yX1_carryOut wsX1_carryOut) := goodIn_app (goodIn_of _ (by decide +kernel)) ggX4_commit_X1_carryOut
theorem dX4_commit_0 : decode cX4_commit 0 = .ok (.aload_n 0, 1) := by decide +kernel
theorem dX4_commit_1 : decode cX4_commit 1 = .ok (.invokevirtual 76, 3) := by decide +kernel
theorem dX4_commit_4 : decode cX4_commit 4 = .ok (.istore_n 1, 1) := by decide +kernel
theorem dX4_commit_5 : decode cX4_commit 5 = .ok (.iload_n 1, 1) := by decide +kernel
theorem dX4_commit_6 : decode cX4_commit 6 = .ok (.ifCond .eq 5, 3) := by decide +kernel
theorem dX4_commit_9 : decode cX4_commit 9 = .ok (.iload_n 1, 1) := by decide +kernel
theorem dX4_commit_10 : decode cX4_commit 10 = .ok (.ireturn, 1) := by decide +kernel
theorem dX4_commit_11 : decode cX4_commit 11 = .ok (.aload_n 0, 1) := by decide +kernel
theorem dX4_commit_12 : decode cX4_commit 12 = .ok (.getfield 28, 3) := by decide +kernel
theorem dX4_commit_15 : decode cX4_commit 15 = .ok (.invokevirtual 79, 3) := by decide +kernel
theorem dX4_commit_18 : decode cX4_commit 18 = .ok (.ifCond .ne 5, 3) := by decide +kernel
theorem dX4_commit_21 : decode cX4_commit 21 = .ok (.iconst (-1), 1) := by decide +kernel
theorem dX4_commit_22 : decode cX4_commit 22 = .ok (.ireturn, 1) := by decide +kernel
theorem dX4_commit_23 : decode cX4_commit 23 = .ok (.aload_n 0, 1) := by decide +kernel
theorem dX4_commit_24 : decode cX4_commit 24 = .ok (.iconst 0, 1) := by decide +kernel
theorem dX4_commit_25 : decode cX4_commit 25 = .ok (.putfield 43, 3) := by decide +kernel
theorem dX4_commit_28 : decode cX4_commit 28 = .ok (.iconst 0, 1) := by decide +kernel
theorem dX4_commit_29 : decode cX4_commit 29 = .ok (.ireturn, 1) := by decide +kernel
set_option maxRecDepth 20000 in
theorem ggX4_rollback_X4_refusalOutsideTransaction : GoodIn wsX4_rollback wsX4_refusalOutsideTransaction := goodIn_r _ [8, 2, 3, 9, 10, 11, 12, 13, 14, 37, 38, 39, 40, 41, 42, 43, 44, 45, 46] (by decide +kernel) (by decide +kernel)
set_option maxRecDepth 20000 in
theorem gX4_rollback_X4_refusalOutsideTransaction : GoodIn wsX4_rollback (wsV RX4 76 RX4 yX4_refusalOutsideTransaction wsX4_refusalOutsideTransaction) := goodIn_app (goodIn_of _ (by decide +kernel)) ggX4_rollback_X4_refusalOutsideTransaction
set_option maxRecDepth 20000 in
theorem ggX4_rollback_X2_load : GoodIn wsX4_rollback wsX2_load := goodIn_r _ [19, 20, 21, 22, 23, 24, 43, 44, 45, 46, 47] (by decide +kernel) (by decide +kernel)
set_option maxRecDepth 20000 in
theorem gX4_rollback_X2_load : GoodIn wsX4_rollback (wsV RX4 82 RX2 yX2_load wsX2_load) := goodIn_app (goodIn_of _ (by decide +kernel)) ggX4_rollback_X2_load
set_option maxRecDepth 20000 in
theorem ggX4_rollback_X4_voidScansOf : GoodIn wsX4_rollback wsX4_voidScansOf := goodIn_r _ [28, 29, 30, 31, 32, 33, 34, 35, 36, 37, 38, 39, 40, 41, 42, 48, 49, 50, 51, 52, 53, 54, 55] (by decide +kernel) (by decide +kernel)
set_option maxRecDepth 20000 in
theorem gX4_rollback_X4_voidScansOf : GoodIn wsX4_rollback (wsV RX4 73 RX4 yX4_voidScansOf wsX4_voidScansOf) := goodIn_app (goodIn_of _ (by decide +kernel)) ggX4_rollback_X4_voidScansOf
theorem dX4_rollback_0 : decode cX4_rollback 0 = .ok (.aload_n 0, 1) := by decide +kernel
theorem dX4_rollback_1 : decode cX4_rollback 1 = .ok (.invokevirtual 76, 3) := by decide +kernel
theorem dX4_rollback_4 : decode cX4_rollback 4 = .ok (.istore_n 1, 1) := by decide +kernel
theorem dX4_rollback_5 : decode cX4_rollback 5 = .ok (.iload_n 1, 1) := by decide +kernel
theorem dX4_rollback_6 : decode cX4_rollback 6 = .ok (.ifCond .eq 5, 3) := by decide +kernel
theorem dX4_rollback_9 : decode cX4_rollback 9 = .ok (.iload_n 1, 1) := by decide +kernel
theorem dX4_rollback_10 : decode cX4_rollback 10 = .ok (.ireturn, 1) := by decide +kernel
theorem dX4_rollback_11 : decode cX4_rollback 11 = .ok (.aload_n 0, 1) := by decide +kernel
theorem dX4_rollback_12 : decode cX4_rollback 12 = .ok (.getfield 19, 3) := by decide +kernel
theorem dX4_rollback_15 : decode cX4_rollback 15 = .ok (.aload_n 0, 1) := by decide +kernel
theorem dX4_rollback_16 : decode cX4_rollback 16 = .ok (.getfield 10, 3) := by decide +kernel
theorem dX4_rollback_19 : decode cX4_rollback 19 = .ok (.invokevirtual 82, 3) := by decide +kernel
theorem dX4_rollback_22 : decode cX4_rollback 22 = .ok (.aload_n 0, 1) := by decide +kernel
theorem dX4_rollback_23 : decode cX4_rollback 23 = .ok (.iconst 0, 1) := by decide +kernel
theorem dX4_rollback_24 : decode cX4_rollback 24 = .ok (.putfield 43, 3) := by decide +kernel
theorem dX4_rollback_27 : decode cX4_rollback 27 = .ok (.iconst 0, 1) := by decide +kernel
theorem dX4_rollback_28 : decode cX4_rollback 28 = .ok (.istore_n 2, 1) := by decide +kernel
theorem dX4_rollback_29 : decode cX4_rollback 29 = .ok (.iload_n 2, 1) := by decide +kernel
theorem dX4_rollback_30 : decode cX4_rollback 30 = .ok (.iconst 5, 1) := by decide +kernel
theorem dX4_rollback_31 : decode cX4_rollback 31 = .ok (.if_icmp .ge 14, 3) := by decide +kernel
theorem dX4_rollback_34 : decode cX4_rollback 34 = .ok (.aload_n 0, 1) := by decide +kernel
theorem dX4_rollback_35 : decode cX4_rollback 35 = .ok (.iload_n 2, 1) := by decide +kernel
theorem dX4_rollback_36 : decode cX4_rollback 36 = .ok (.invokevirtual 73, 3) := by decide +kernel
theorem dX4_rollback_39 : decode cX4_rollback 39 = .ok (.iinc 2 1, 3) := by decide +kernel
theorem dX4_rollback_42 : decode cX4_rollback 42 = .ok (.goto (-13), 3) := by decide +kernel
theorem dX4_rollback_45 : decode cX4_rollback 45 = .ok (.iconst 0, 1) := by decide +kernel
theorem dX4_rollback_46 : decode cX4_rollback 46 = .ok (.ireturn, 1) := by decide +kernel
set_option maxRecDepth 20000 in
theorem ggX4_stage_X0_powered : GoodIn wsX4_stage wsX0_powered := goodIn_r _ [7, 8, 15, 16, 17, 18] (by decide +kernel) (by decide +kernel)
set_option maxRecDepth 20000 in
theorem gX4_stage_X0_powered : GoodIn wsX4_stage (wsV RX4 53 RX0 yX0_powered wsX0_powered) := goodIn_app (goodIn_of _ (by decide +kernel)) ggX4_stage_X0_powered
theorem dX4_stage_0 : decode cX4_stage 0 = .ok (.aload_n 0, 1) := by decide +kernel
theorem dX4_stage_1 : decode cX4_stage 1 = .ok (.getfield 10, 3) := by decide +kernel
theorem dX4_stage_4 : decode cX4_stage 4 = .ok (.invokevirtual 53, 3) := by decide +kernel
theorem dX4_stage_7 : decode cX4_stage 7 = .ok (.ifCond .ne 5, 3) := by decide +kernel
theorem dX4_stage_10 : decode cX4_stage 10 = .ok (.iconst (-1), 1) := by decide +kernel
theorem dX4_stage_11 : decode cX4_stage 11 = .ok (.ireturn, 1) := by decide +kernel
theorem dX4_stage_12 : decode cX4_stage 12 = .ok (.iload_n 1, 1) := by decide +kernel
theorem dX4_stage_13 : decode cX4_stage 13 = .ok (.ifCond .lt 9, 3) := by decide +kernel
theorem dX4_stage_16 : decode cX4_stage 16 = .ok (.iload_n 1, 1) := by decide +kernel
theorem dX4_stage_17 : decode cX4_stage 17 = .ok (.bipush 6, 2) := by decide +kernel
theorem dX4_stage_19 : decode cX4_stage 19 = .ok (.if_icmp .lt 6, 3) := by decide +kernel
theorem dX4_stage_22 : decode cX4_stage 22 = .ok (.bipush (-4), 2) := by decide +kernel
theorem dX4_stage_24 : decode cX4_stage 24 = .ok (.ireturn, 1) := by decide +kernel
theorem dX4_stage_25 : decode cX4_stage 25 = .ok (.aload_n 0, 1) := by decide +kernel
theorem dX4_stage_26 : decode cX4_stage 26 = .ok (.getfield 39, 3) := by decide +kernel
theorem dX4_stage_29 : decode cX4_stage 29 = .ok (.iload_n 1, 1) := by decide +kernel
theorem dX4_stage_30 : decode cX4_stage 30 = .ok (.iload_n 2, 1) := by decide +kernel
theorem dX4_stage_31 : decode cX4_stage 31 = .ok (.iastore, 1) := by decide +kernel
theorem dX4_stage_32 : decode cX4_stage 32 = .ok (.iconst 0, 1) := by decide +kernel
theorem dX4_stage_33 : decode cX4_stage 33 = .ok (.ireturn, 1) := by decide +kernel
end
section
set_option maxRecDepth 20000 in
theorem ggX4_insert_X4_refusalOfChange : GoodIn wsX4_insert wsX4_refusalOfChange := goodIn_r _ [7, 1, 8, 9, 10, 6, 11, 12, 13, 14, 15, 16, 17, 18, 19, 20, 21, 22, 23, 24, 25, 95, 96, 97, 98, 99, 100, 101, 102, 103, 104, 105] (by decide +kernel) (by decide +kernel)
set_option maxRecDepth 20000 in
theorem gX4_insert_X4_refusalOfChange : GoodIn wsX4_insert (wsV RX4 65 RX4 yX4_refusalOfChange wsX4_refusalOfChange) := goodIn_app (goodIn_of _ (by decide +kernel)) ggX4_insert_X4_refusalOfChange
set_option maxRecDepth 20000 in
theorem ggX4_insert_X2_rowOf : GoodIn wsX4_insert wsX2_rowOf := goodIn_r _ [29, 30, 31, 32, 23, 33, 25, 34, 35, 36, 37, 38, 39, 40, 41, 42, 21, 22, 24, 43, 44, 45, 46, 47, 48, 49, 50, 51, 52, 53, 54, 105] (by decide +kernel) (by decide +kernel)
set_option maxRecDepth 20000 in
theorem gX4_insert_X2_rowOf : GoodIn wsX4_insert (wsV RX4 86 RX2 yX2_rowOf wsX2_rowOf) := goodIn_app (goodIn_of _ (by decide +kernel)) ggX4_insert_X2_rowOf
set_option maxRecDepth 20000 in
theorem ggX4_insert_X2_addRow : GoodIn wsX4_insert wsX2_addRow := goodIn_r _ [58, 25, 59, 60, 61, 23, 62, 43, 44, 45, 46, 63, 64, 65, 66, 34, 35, 36, 37, 38, 39, 40, 41, 42, 21, 22, 24, 51, 52, 53, 54, 67, 68, 69, 70, 71, 72, 73, 74, 47, 48, 49, 50, 75, 76, 77, 78, 79, 80, 81, 82, 105] (by decide +kernel) (by decide +kernel)
set_option maxRecDepth 20000 in
theorem gX4_insert_X2_addRow : GoodIn wsX4_insert (wsV RX4 90 RX2 yX2_addRow wsX2_addRow) := goodIn_app (goodIn_of _ (by decide +kernel)) ggX4_insert_X2_addRow
set_option maxRecDepth 20000 in
theorem ggX4_insert_X4_voidScansOf : GoodIn wsX4_insert wsX4_voidScansOf := goodIn_r _ [86, 87, 88, 89, 90, 91, 92, 93, 94, 95, 96, 97, 98, 99, 100, 106, 107, 108, 109, 110, 111, 112, 113] (by decide +kernel) (by decide +kernel)
set_option maxRecDepth 20000 in
theorem gX4_insert_X4_voidScansOf : GoodIn wsX4_insert (wsV RX4 73 RX4 yX4_voidScansOf wsX4_voidScansOf) := goodIn_app (goodIn_of _ (by decide +kernel)) ggX4_insert_X4_voidScansOf
theorem dX4_insert_0 : decode cX4_insert 0 = .ok (.aload_n 0, 1) := by decide +kernel
theorem dX4_insert_1 : decode cX4_insert 1 = .ok (.iload_n 1, 1) := by decide +kernel
theorem dX4_insert_2 : decode cX4_insert 2 = .ok (.invokevirtual 65, 3) := by decide +kernel
theorem dX4_insert_5 : decode cX4_insert 5 = .ok (.istore_n 2, 1) := by decide +kernel
theorem dX4_insert_6 : decode cX4_insert 6 = .ok (.iload_n 2, 1) := by decide +kernel
theorem dX4_insert_7 : decode cX4_insert 7 = .ok (.ifCond .eq 5, 3) := by decide +kernel
theorem dX4_insert_10 : decode cX4_insert 10 = .ok (.iload_n 2, 1) := by decide +kernel
theorem dX4_insert_11 : decode cX4_insert 11 = .ok (.ireturn, 1) := by decide +kernel
theorem dX4_insert_12 : decode cX4_insert 12 = .ok (.aload_n 0, 1) := by decide +kernel
theorem dX4_insert_13 : decode cX4_insert 13 = .ok (.getfield 19, 3) := by decide +kernel
theorem dX4_insert_16 : decode cX4_insert 16 = .ok (.iload_n 1, 1) := by decide +kernel
theorem dX4_insert_17 : decode cX4_insert 17 = .ok (.aload_n 0, 1) := by decide +kernel
theorem dX4_insert_18 : decode cX4_insert 18 = .ok (.getfield 39, 3) := by decide +kernel
theorem dX4_insert_21 : decode cX4_insert 21 = .ok (.iconst 0, 1) := by decide +kernel
theorem dX4_insert_22 : decode cX4_insert 22 = .ok (.iaload, 1) := by decide +kernel
theorem dX4_insert_23 : decode cX4_insert 23 = .ok (.invokevirtual 86, 3) := by decide +kernel
theorem dX4_insert_26 : decode cX4_insert 26 = .ok (.iconst (-1), 1) := by decide +kernel
theorem dX4_insert_27 : decode cX4_insert 27 = .ok (.if_icmp .eq 6, 3) := by decide +kernel
theorem dX4_insert_30 : decode cX4_insert 30 = .ok (.bipush (-7), 2) := by decide +kernel
theorem dX4_insert_32 : decode cX4_insert 32 = .ok (.ireturn, 1) := by decide +kernel
theorem dX4_insert_33 : decode cX4_insert 33 = .ok (.aload_n 0, 1) := by decide +kernel
theorem dX4_insert_34 : decode cX4_insert 34 = .ok (.getfield 19, 3) := by decide +kernel
theorem dX4_insert_37 : decode cX4_insert 37 = .ok (.iload_n 1, 1) := by decide +kernel
theorem dX4_insert_38 : decode cX4_insert 38 = .ok (.aload_n 0, 1) := by decide +kernel
theorem dX4_insert_39 : decode cX4_insert 39 = .ok (.getfield 39, 3) := by decide +kernel
theorem dX4_insert_42 : decode cX4_insert 42 = .ok (.invokevirtual 90, 3) := by decide +kernel
theorem dX4_insert_45 : decode cX4_insert 45 = .ok (.ifCond .ne 6, 3) := by decide +kernel
theorem dX4_insert_48 : decode cX4_insert 48 = .ok (.bipush (-8), 2) := by decide +kernel
theorem dX4_insert_50 : decode cX4_insert 50 = .ok (.ireturn, 1) := by decide +kernel
theorem dX4_insert_51 : decode cX4_insert 51 = .ok (.aload_n 0, 1) := by decide +kernel
theorem dX4_insert_52 : decode cX4_insert 52 = .ok (.iload_n 1, 1) := by decide +kernel
theorem dX4_insert_53 : decode cX4_insert 53 = .ok (.invokevirtual 73, 3) := by decide +kernel
theorem dX4_insert_56 : decode cX4_insert 56 = .ok (.iconst 0, 1) := by decide +kernel
theorem dX4_insert_57 : decode cX4_insert 57 = .ok (.ireturn, 1) := by decide +kernel
set_option maxRecDepth 20000 in
theorem ggX4_deleteKey_X4_refusalOfChange : GoodIn wsX4_deleteKey wsX4_refusalOfChange := goodIn_r _ [6, 1, 7, 8, 9, 5, 10, 11, 12, 13, 14, 15, 16, 17, 18, 19, 20, 21, 22, 23, 24, 78, 79, 80, 81, 82, 83, 84, 85, 86, 87, 88] (by decide +kernel) (by decide +kernel)
set_option maxRecDepth 20000 in
theorem gX4_deleteKey_X4_refusalOfChange : GoodIn wsX4_deleteKey (wsV RX4 65 RX4 yX4_refusalOfChange wsX4_refusalOfChange) := goodIn_app (goodIn_of _ (by decide +kernel)) ggX4_deleteKey_X4_refusalOfChange
set_option maxRecDepth 20000 in
theorem ggX4_deleteKey_X2_rowOf : GoodIn wsX4_deleteKey wsX2_rowOf := goodIn_r _ [28, 29, 30, 31, 22, 32, 24, 33, 34, 35, 36, 37, 38, 39, 40, 41, 20, 21, 23, 42, 43, 44, 45, 46, 47, 48, 49, 50, 51, 52, 53, 88] (by decide +kernel) (by decide +kernel)
set_option maxRecDepth 20000 in
theorem gX4_deleteKey_X2_rowOf : GoodIn wsX4_deleteKey (wsV RX4 86 RX2 yX2_rowOf wsX2_rowOf) := goodIn_app (goodIn_of _ (by decide +kernel)) ggX4_deleteKey_X2_rowOf
set_option maxRecDepth 20000 in
theorem ggX4_deleteKey_X2_removeRow : GoodIn wsX4_deleteKey wsX2_removeRow := goodIn_r _ [57, 24, 33, 34, 35, 22, 36, 37, 38, 39, 40, 41, 20, 21, 23, 46, 47, 48, 49, 58, 59, 60, 61, 62, 63, 64, 65, 42, 43, 44, 45, 88] (by decide +kernel) (by decide +kernel)
set_option maxRecDepth 20000 in
theorem gX4_deleteKey_X2_removeRow : GoodIn wsX4_deleteKey (wsV RX4 94 RX2 yX2_removeRow wsX2_removeRow) := goodIn_app (goodIn_of _ (by decide +kernel)) ggX4_deleteKey_X2_removeRow
set_option maxRecDepth 20000 in
theorem ggX4_deleteKey_X4_voidScansOf : GoodIn wsX4_deleteKey wsX4_voidScansOf := goodIn_r _ [69, 70, 71, 72, 73, 74, 75, 76, 77, 78, 79, 80, 81, 82, 83, 89, 90, 91, 92, 93, 94, 95, 96] (by decide +kernel) (by decide +kernel)
set_option maxRecDepth 20000 in
theorem gX4_deleteKey_X4_voidScansOf : GoodIn wsX4_deleteKey (wsV RX4 73 RX4 yX4_voidScansOf wsX4_voidScansOf) := goodIn_app (goodIn_of _ (by decide +kernel)) ggX4_deleteKey_X4_voidScansOf
theorem dX4_deleteKey_0 : decode cX4_deleteKey 0 = .ok (.aload_n 0, 1) := by decide +kernel
theorem dX4_deleteKey_1 : decode cX4_deleteKey 1 = .ok (.iload_n 1, 1) := by decide +kernel
theorem dX4_deleteKey_2 : decode cX4_deleteKey 2 = .ok (.invokevirtual 65, 3) := by decide +kernel
theorem dX4_deleteKey_5 : decode cX4_deleteKey 5 = .ok (.istore_n 3, 1) := by decide +kernel
theorem dX4_deleteKey_6 : decode cX4_deleteKey 6 = .ok (.iload_n 3, 1) := by decide +kernel
theorem dX4_deleteKey_7 : decode cX4_deleteKey 7 = .ok (.ifCond .eq 5, 3) := by decide +kernel
theorem dX4_deleteKey_10 : decode cX4_deleteKey 10 = .ok (.iload_n 3, 1) := by decide +kernel
theorem dX4_deleteKey_11 : decode cX4_deleteKey 11 = .ok (.ireturn, 1) := by decide +kernel
theorem dX4_deleteKey_12 : decode cX4_deleteKey 12 = .ok (.aload_n 0, 1) := by decide +kernel
theorem dX4_deleteKey_13 : decode cX4_deleteKey 13 = .ok (.getfield 19, 3) := by decide +kernel
theorem dX4_deleteKey_16 : decode cX4_deleteKey 16 = .ok (.iload_n 1, 1) := by decide +kernel
theorem dX4_deleteKey_17 : decode cX4_deleteKey 17 = .ok (.iload_n 2, 1) := by decide +kernel
theorem dX4_deleteKey_18 : decode cX4_deleteKey 18 = .ok (.invokevirtual 86, 3) := by decide +kernel
theorem dX4_deleteKey_21 : decode cX4_deleteKey 21 = .ok (.istore 4, 2) := by decide +kernel
theorem dX4_deleteKey_23 : decode cX4_deleteKey 23 = .ok (.iload 4, 2) := by decide +kernel
theorem dX4_deleteKey_25 : decode cX4_deleteKey 25 = .ok (.iconst (-1), 1) := by decide +kernel
theorem dX4_deleteKey_26 : decode cX4_deleteKey 26 = .ok (.if_icmp .ne 6, 3) := by decide +kernel
theorem dX4_deleteKey_29 : decode cX4_deleteKey 29 = .ok (.bipush (-6), 2) := by decide +kernel
theorem dX4_deleteKey_31 : decode cX4_deleteKey 31 = .ok (.ireturn, 1) := by decide +kernel
theorem dX4_deleteKey_32 : decode cX4_deleteKey 32 = .ok (.aload_n 0, 1) := by decide +kernel
theorem dX4_deleteKey_33 : decode cX4_deleteKey 33 = .ok (.getfield 19, 3) := by decide +kernel
theorem dX4_deleteKey_36 : decode cX4_deleteKey 36 = .ok (.iload_n 1, 1) := by decide +kernel
theorem dX4_deleteKey_37 : decode cX4_deleteKey 37 = .ok (.iload 4, 2) := by decide +kernel
theorem dX4_deleteKey_39 : decode cX4_deleteKey 39 = .ok (.invokevirtual 94, 3) := by decide +kernel
theorem dX4_deleteKey_42 : decode cX4_deleteKey 42 = .ok (.aload_n 0, 1) := by decide +kernel
theorem dX4_deleteKey_43 : decode cX4_deleteKey 43 = .ok (.iload_n 1, 1) := by decide +kernel
theorem dX4_deleteKey_44 : decode cX4_deleteKey 44 = .ok (.invokevirtual 73, 3) := by decide +kernel
theorem dX4_deleteKey_47 : decode cX4_deleteKey 47 = .ok (.iconst 0, 1) := by decide +kernel
theorem dX4_deleteKey_48 : decode cX4_deleteKey 48 = .ok (.ireturn, 1) := by decide +kernel
set_option maxRecDepth 20000 in
theorem ggX4_updateCol_X4_refusalOfChange : GoodIn wsX4_updateCol wsX4_refusalOfChange := goodIn_r _ [6, 1, 7, 8, 9, 5, 10, 11, 12, 13, 14, 15, 16, 17, 18, 19, 20, 21, 22, 23, 24, 71, 72, 73, 74, 75, 76, 77, 78, 79, 80, 81] (by decide +kernel) (by decide +kernel)
set_option maxRecDepth 20000 in
theorem gX4_updateCol_X4_refusalOfChange : GoodIn wsX4_updateCol (wsV RX4 65 RX4 yX4_refusalOfChange wsX4_refusalOfChange) := goodIn_app (goodIn_of _ (by decide +kernel)) ggX4_updateCol_X4_refusalOfChange
set_option maxRecDepth 20000 in
theorem ggX4_updateCol_X2_width : GoodIn wsX4_updateCol wsX2_width := goodIn_r _ [28, 24, 29, 20, 21, 22, 23, 81] (by decide +kernel) (by decide +kernel)
set_option maxRecDepth 20000 in
theorem gX4_updateCol_X2_width : GoodIn wsX4_updateCol (wsV RX4 97 RX2 yX2_width wsX2_width) := goodIn_app (goodIn_of _ (by decide +kernel)) ggX4_updateCol_X2_width
set_option maxRecDepth 20000 in
theorem ggX4_updateCol_X2_rowOf : GoodIn wsX4_updateCol wsX2_rowOf := goodIn_r _ [33, 34, 35, 36, 22, 37, 24, 38, 39, 40, 41, 42, 26, 27, 28, 29, 20, 21, 23, 43, 44, 45, 46, 47, 48, 49, 50, 51, 52, 53, 54, 81] (by decide +kernel) (by decide +kernel)
set_option maxRecDepth 20000 in
theorem gX4_updateCol_X2_rowOf : GoodIn wsX4_updateCol (wsV RX4 86 RX2 yX2_rowOf wsX2_rowOf) := goodIn_app (goodIn_of _ (by decide +kernel)) ggX4_updateCol_X2_rowOf
set_option maxRecDepth 20000 in
theorem ggX4_updateCol_X2_setWord : GoodIn wsX4_updateCol wsX2_setWord := goodIn_r _ [58, 24, 81] (by decide +kernel) (by decide +kernel)
set_option maxRecDepth 20000 in
theorem gX4_updateCol_X2_setWord : GoodIn wsX4_updateCol (wsV RX4 100 RX2 yX2_setWord wsX2_setWord) := goodIn_app (goodIn_of _ (by decide +kernel)) ggX4_updateCol_X2_setWord
set_option maxRecDepth 20000 in
theorem ggX4_updateCol_X4_voidScansOf : GoodIn wsX4_updateCol wsX4_voidScansOf := goodIn_r _ [62, 63, 64, 65, 66, 67, 68, 69, 70, 71, 72, 73, 74, 75, 76, 82, 83, 84, 85, 86, 87, 88, 89] (by decide +kernel) (by decide +kernel)
set_option maxRecDepth 20000 in
theorem gX4_updateCol_X4_voidScansOf : GoodIn wsX4_updateCol (wsV RX4 73 RX4 yX4_voidScansOf wsX4_voidScansOf) := goodIn_app (goodIn_of _ (by decide +kernel)) ggX4_updateCol_X4_voidScansOf
theorem dX4_updateCol_0 : decode cX4_updateCol 0 = .ok (.aload_n 0, 1) := by decide +kernel
theorem dX4_updateCol_1 : decode cX4_updateCol 1 = .ok (.iload_n 1, 1) := by decide +kernel
theorem dX4_updateCol_2 : decode cX4_updateCol 2 = .ok (.invokevirtual 65, 3) := by decide +kernel
theorem dX4_updateCol_5 : decode cX4_updateCol 5 = .ok (.istore 5, 2) := by decide +kernel
theorem dX4_updateCol_7 : decode cX4_updateCol 7 = .ok (.iload 5, 2) := by decide +kernel
theorem dX4_updateCol_9 : decode cX4_updateCol 9 = .ok (.ifCond .eq 6, 3) := by decide +kernel
theorem dX4_updateCol_12 : decode cX4_updateCol 12 = .ok (.iload 5, 2) := by decide +kernel
theorem dX4_updateCol_14 : decode cX4_updateCol 14 = .ok (.ireturn, 1) := by decide +kernel
theorem dX4_updateCol_15 : decode cX4_updateCol 15 = .ok (.iload_n 3, 1) := by decide +kernel
theorem dX4_updateCol_16 : decode cX4_updateCol 16 = .ok (.iconst 1, 1) := by decide +kernel
theorem dX4_updateCol_17 : decode cX4_updateCol 17 = .ok (.if_icmp .lt 15, 3) := by decide +kernel
theorem dX4_updateCol_20 : decode cX4_updateCol 20 = .ok (.iload_n 3, 1) := by decide +kernel
theorem dX4_updateCol_21 : decode cX4_updateCol 21 = .ok (.aload_n 0, 1) := by decide +kernel
theorem dX4_updateCol_22 : decode cX4_updateCol 22 = .ok (.getfield 19, 3) := by decide +kernel
theorem dX4_updateCol_25 : decode cX4_updateCol 25 = .ok (.iload_n 1, 1) := by decide +kernel
theorem dX4_updateCol_26 : decode cX4_updateCol 26 = .ok (.invokevirtual 97, 3) := by decide +kernel
theorem dX4_updateCol_29 : decode cX4_updateCol 29 = .ok (.if_icmp .lt 6, 3) := by decide +kernel
theorem dX4_updateCol_32 : decode cX4_updateCol 32 = .ok (.bipush (-4), 2) := by decide +kernel
theorem dX4_updateCol_34 : decode cX4_updateCol 34 = .ok (.ireturn, 1) := by decide +kernel
theorem dX4_updateCol_35 : decode cX4_updateCol 35 = .ok (.aload_n 0, 1) := by decide +kernel
theorem dX4_updateCol_36 : decode cX4_updateCol 36 = .ok (.getfield 19, 3) := by decide +kernel
theorem dX4_updateCol_39 : decode cX4_updateCol 39 = .ok (.iload_n 1, 1) := by decide +kernel
theorem dX4_updateCol_40 : decode cX4_updateCol 40 = .ok (.iload_n 2, 1) := by decide +kernel
theorem dX4_updateCol_41 : decode cX4_updateCol 41 = .ok (.invokevirtual 86, 3) := by decide +kernel
theorem dX4_updateCol_44 : decode cX4_updateCol 44 = .ok (.istore 6, 2) := by decide +kernel
theorem dX4_updateCol_46 : decode cX4_updateCol 46 = .ok (.iload 6, 2) := by decide +kernel
theorem dX4_updateCol_48 : decode cX4_updateCol 48 = .ok (.iconst (-1), 1) := by decide +kernel
theorem dX4_updateCol_49 : decode cX4_updateCol 49 = .ok (.if_icmp .ne 6, 3) := by decide +kernel
theorem dX4_updateCol_52 : decode cX4_updateCol 52 = .ok (.bipush (-6), 2) := by decide +kernel
theorem dX4_updateCol_54 : decode cX4_updateCol 54 = .ok (.ireturn, 1) := by decide +kernel
theorem dX4_updateCol_55 : decode cX4_updateCol 55 = .ok (.aload_n 0, 1) := by decide +kernel
theorem dX4_updateCol_56 : decode cX4_updateCol 56 = .ok (.getfield 19, 3) := by decide +kernel
theorem dX4_updateCol_59 : decode cX4_updateCol 59 = .ok (.iload 6, 2) := by decide +kernel
theorem dX4_updateCol_61 : decode cX4_updateCol 61 = .ok (.iload_n 3, 1) := by decide +kernel
theorem dX4_updateCol_62 : decode cX4_updateCol 62 = .ok (.iadd, 1) := by decide +kernel
theorem dX4_updateCol_63 : decode cX4_updateCol 63 = .ok (.iload 4, 2) := by decide +kernel
theorem dX4_updateCol_65 : decode cX4_updateCol 65 = .ok (.invokevirtual 100, 3) := by decide +kernel
theorem dX4_updateCol_68 : decode cX4_updateCol 68 = .ok (.aload_n 0, 1) := by decide +kernel
theorem dX4_updateCol_69 : decode cX4_updateCol 69 = .ok (.iload_n 1, 1) := by decide +kernel
theorem dX4_updateCol_70 : decode cX4_updateCol 70 = .ok (.invokevirtual 73, 3) := by decide +kernel
theorem dX4_updateCol_73 : decode cX4_updateCol 73 = .ok (.iconst 0, 1) := by decide +kernel
theorem dX4_updateCol_74 : decode cX4_updateCol 74 = .ok (.ireturn, 1) := by decide +kernel
set_option maxRecDepth 20000 in
theorem ggX4_lookup_X0_powered : GoodIn wsX4_lookup wsX0_powered := goodIn_r _ [7, 8, 57, 58, 59, 60] (by decide +kernel) (by decide +kernel)
set_option maxRecDepth 20000 in
theorem gX4_lookup_X0_powered : GoodIn wsX4_lookup (wsV RX4 53 RX0 yX0_powered wsX0_powered) := goodIn_app (goodIn_of _ (by decide +kernel)) ggX4_lookup_X0_powered
set_option maxRecDepth 20000 in
theorem ggX4_lookup_X2_hasCol : GoodIn wsX4_lookup wsX2_hasCol := goodIn_r _ [13, 14, 15, 16, 12, 17, 18, 19, 20, 21, 22, 61] (by decide +kernel) (by decide +kernel)
set_option maxRecDepth 20000 in
theorem gX4_lookup_X2_hasCol : GoodIn wsX4_lookup (wsV RX4 103 RX2 yX2_hasCol wsX2_hasCol) := goodIn_app (goodIn_of _ (by decide +kernel)) ggX4_lookup_X2_hasCol
set_option maxRecDepth 20000 in
theorem ggX4_lookup_X2_rowOf : GoodIn wsX4_lookup wsX2_rowOf := goodIn_r _ [26, 27, 28, 29, 12, 30, 18, 31, 32, 33, 34, 14, 15, 16, 17, 19, 20, 21, 22, 35, 36, 37, 38, 39, 40, 41, 42, 43, 44, 45, 46, 61] (by decide +kernel) (by decide +kernel)
set_option maxRecDepth 20000 in
theorem gX4_lookup_X2_rowOf : GoodIn wsX4_lookup (wsV RX4 86 RX2 yX2_rowOf wsX2_rowOf) := goodIn_app (goodIn_of _ (by decide +kernel)) ggX4_lookup_X2_rowOf
set_option maxRecDepth 20000 in
theorem ggX4_lookup_X2_word : GoodIn wsX4_lookup wsX2_word := goodIn_r _ [50, 18, 61] (by decide +kernel) (by decide +kernel)
set_option maxRecDepth 20000 in
theorem gX4_lookup_X2_word : GoodIn wsX4_lookup (wsV RX4 107 RX2 yX2_word wsX2_word) := goodIn_app (goodIn_of _ (by decide +kernel)) ggX4_lookup_X2_word
theorem dX4_lookup_0 : decode cX4_lookup 0 = .ok (.aload_n 0, 1) := by decide +kernel
theorem dX4_lookup_1 : decode cX4_lookup 1 = .ok (.getfield 10, 3) := by decide +kernel
theorem dX4_lookup_4 : decode cX4_lookup 4 = .ok (.invokevirtual 53, 3) := by decide +kernel
theorem dX4_lookup_7 : decode cX4_lookup 7 = .ok (.ifCond .eq 15, 3) := by decide +kernel
theorem dX4_lookup_10 : decode cX4_lookup 10 = .ok (.aload_n 0, 1) := by decide +kernel
theorem dX4_lookup_11 : decode cX4_lookup 11 = .ok (.getfield 19, 3) := by decide +kernel
theorem dX4_lookup_14 : decode cX4_lookup 14 = .ok (.iload_n 1, 1) := by decide +kernel
theorem dX4_lookup_15 : decode cX4_lookup 15 = .ok (.iload_n 3, 1) := by decide +kernel
theorem dX4_lookup_16 : decode cX4_lookup 16 = .ok (.invokevirtual 103, 3) := by decide +kernel
theorem dX4_lookup_19 : decode cX4_lookup 19 = .ok (.ifCond .ne 5, 3) := by decide +kernel
theorem dX4_lookup_22 : decode cX4_lookup 22 = .ok (.iconst 0, 1) := by decide +kernel
theorem dX4_lookup_23 : decode cX4_lookup 23 = .ok (.ireturn, 1) := by decide +kernel
theorem dX4_lookup_24 : decode cX4_lookup 24 = .ok (.aload_n 0, 1) := by decide +kernel
theorem dX4_lookup_25 : decode cX4_lookup 25 = .ok (.getfield 19, 3) := by decide +kernel
theorem dX4_lookup_28 : decode cX4_lookup 28 = .ok (.iload_n 1, 1) := by decide +kernel
theorem dX4_lookup_29 : decode cX4_lookup 29 = .ok (.iload_n 2, 1) := by decide +kernel
theorem dX4_lookup_30 : decode cX4_lookup 30 = .ok (.invokevirtual 86, 3) := by decide +kernel
theorem dX4_lookup_33 : decode cX4_lookup 33 = .ok (.istore 4, 2) := by decide +kernel
theorem dX4_lookup_35 : decode cX4_lookup 35 = .ok (.iload 4, 2) := by decide +kernel
theorem dX4_lookup_37 : decode cX4_lookup 37 = .ok (.iconst (-1), 1) := by decide +kernel
theorem dX4_lookup_38 : decode cX4_lookup 38 = .ok (.if_icmp .ne 7, 3) := by decide +kernel
theorem dX4_lookup_41 : decode cX4_lookup 41 = .ok (.iconst 0, 1) := by decide +kernel
theorem dX4_lookup_42 : decode cX4_lookup 42 = .ok (.goto 14, 3) := by decide +kernel
theorem dX4_lookup_45 : decode cX4_lookup 45 = .ok (.aload_n 0, 1) := by decide +kernel
theorem dX4_lookup_46 : decode cX4_lookup 46 = .ok (.getfield 19, 3) := by decide +kernel
theorem dX4_lookup_49 : decode cX4_lookup 49 = .ok (.iload 4, 2) := by decide +kernel
theorem dX4_lookup_51 : decode cX4_lookup 51 = .ok (.iload_n 3, 1) := by decide +kernel
theorem dX4_lookup_52 : decode cX4_lookup 52 = .ok (.iadd, 1) := by decide +kernel
theorem dX4_lookup_53 : decode cX4_lookup 53 = .ok (.invokevirtual 107, 3) := by decide +kernel
theorem dX4_lookup_56 : decode cX4_lookup 56 = .ok (.ireturn, 1) := by decide +kernel
set_option maxRecDepth 20000 in
theorem ggX4_has_X0_powered : GoodIn wsX4_has wsX0_powered := goodIn_r _ [7, 8, 50, 51, 52, 53] (by decide +kernel) (by decide +kernel)
set_option maxRecDepth 20000 in
theorem gX4_has_X0_powered : GoodIn wsX4_has (wsV RX4 53 RX0 yX0_powered wsX0_powered) := goodIn_app (goodIn_of _ (by decide +kernel)) ggX4_has_X0_powered
set_option maxRecDepth 20000 in
theorem ggX4_has_X2_hasTable : GoodIn wsX4_has wsX2_hasTable := goodIn_r _ [13, 14, 54] (by decide +kernel) (by decide +kernel)
set_option maxRecDepth 20000 in
theorem gX4_has_X2_hasTable : GoodIn wsX4_has (wsV RX4 110 RX2 yX2_hasTable wsX2_hasTable) := goodIn_app (goodIn_of _ (by decide +kernel)) ggX4_has_X2_hasTable
set_option maxRecDepth 20000 in
theorem ggX4_has_X2_rowOf : GoodIn wsX4_has wsX2_rowOf := goodIn_r _ [18, 19, 20, 21, 12, 22, 14, 23, 24, 25, 26, 27, 28, 29, 30, 31, 10, 11, 13, 32, 33, 34, 35, 36, 37, 38, 39, 40, 41, 42, 43, 54] (by decide +kernel) (by decide +kernel)
set_option maxRecDepth 20000 in
theorem gX4_has_X2_rowOf : GoodIn wsX4_has (wsV RX4 86 RX2 yX2_rowOf wsX2_rowOf) := goodIn_app (goodIn_of _ (by decide +kernel)) ggX4_has_X2_rowOf
theorem dX4_has_0 : decode cX4_has 0 = .ok (.aload_n 0, 1) := by decide +kernel
theorem dX4_has_1 : decode cX4_has 1 = .ok (.getfield 10, 3) := by decide +kernel
theorem dX4_has_4 : decode cX4_has 4 = .ok (.invokevirtual 53, 3) := by decide +kernel
theorem dX4_has_7 : decode cX4_has 7 = .ok (.ifCond .eq 31, 3) := by decide +kernel
theorem dX4_has_10 : decode cX4_has 10 = .ok (.aload_n 0, 1) := by decide +kernel
theorem dX4_has_11 : decode cX4_has 11 = .ok (.getfield 19, 3) := by decide +kernel
theorem dX4_has_14 : decode cX4_has 14 = .ok (.iload_n 1, 1) := by decide +kernel
theorem dX4_has_15 : decode cX4_has 15 = .ok (.invokevirtual 110, 3) := by decide +kernel
theorem dX4_has_18 : decode cX4_has 18 = .ok (.ifCond .eq 20, 3) := by decide +kernel
theorem dX4_has_21 : decode cX4_has 21 = .ok (.aload_n 0, 1) := by decide +kernel
theorem dX4_has_22 : decode cX4_has 22 = .ok (.getfield 19, 3) := by decide +kernel
theorem dX4_has_25 : decode cX4_has 25 = .ok (.iload_n 1, 1) := by decide +kernel
theorem dX4_has_26 : decode cX4_has 26 = .ok (.iload_n 2, 1) := by decide +kernel
theorem dX4_has_27 : decode cX4_has 27 = .ok (.invokevirtual 86, 3) := by decide +kernel
theorem dX4_has_30 : decode cX4_has 30 = .ok (.iconst (-1), 1) := by decide +kernel
theorem dX4_has_31 : decode cX4_has 31 = .ok (.if_icmp .eq 7, 3) := by decide +kernel
theorem dX4_has_34 : decode cX4_has 34 = .ok (.iconst 1, 1) := by decide +kernel
theorem dX4_has_35 : decode cX4_has 35 = .ok (.goto 4, 3) := by decide +kernel
theorem dX4_has_38 : decode cX4_has 38 = .ok (.iconst 0, 1) := by decide +kernel
theorem dX4_has_39 : decode cX4_has 39 = .ok (.ireturn, 1) := by decide +kernel
set_option maxRecDepth 20000 in
theorem ggX4_count_X0_powered : GoodIn wsX4_count wsX0_powered := goodIn_r _ [7, 8, 36, 37, 38, 39] (by decide +kernel) (by decide +kernel)
set_option maxRecDepth 20000 in
theorem gX4_count_X0_powered : GoodIn wsX4_count (wsV RX4 53 RX0 yX0_powered wsX0_powered) := goodIn_app (goodIn_of _ (by decide +kernel)) ggX4_count_X0_powered
set_option maxRecDepth 20000 in
theorem ggX4_count_X2_hasTable : GoodIn wsX4_count wsX2_hasTable := goodIn_r _ [13, 14, 40] (by decide +kernel) (by decide +kernel)
set_option maxRecDepth 20000 in
theorem gX4_count_X2_hasTable : GoodIn wsX4_count (wsV RX4 110 RX2 yX2_hasTable wsX2_hasTable) := goodIn_app (goodIn_of _ (by decide +kernel)) ggX4_count_X2_hasTable
set_option maxRecDepth 20000 in
theorem ggX4_count_X2_rowsOf : GoodIn wsX4_count wsX2_rowsOf := goodIn_r _ [18, 14, 19, 20, 21, 12, 22, 23, 24, 25, 26, 27, 28, 29, 40] (by decide +kernel) (by decide +kernel)
set_option maxRecDepth 20000 in
theorem gX4_count_X2_rowsOf : GoodIn wsX4_count (wsV RX4 114 RX2 yX2_rowsOf wsX2_rowsOf) := goodIn_app (goodIn_of _ (by decide +kernel)) ggX4_count_X2_rowsOf
theorem dX4_count_0 : decode cX4_count 0 = .ok (.aload_n 0, 1) := by decide +kernel
theorem dX4_count_1 : decode cX4_count 1 = .ok (.getfield 10, 3) := by decide +kernel
theorem dX4_count_4 : decode cX4_count 4 = .ok (.invokevirtual 53, 3) := by decide +kernel
theorem dX4_count_7 : decode cX4_count 7 = .ok (.ifCond .ne 5, 3) := by decide +kernel
theorem dX4_count_10 : decode cX4_count 10 = .ok (.iconst (-1), 1) := by decide +kernel
theorem dX4_count_11 : decode cX4_count 11 = .ok (.ireturn, 1) := by decide +kernel
theorem dX4_count_12 : decode cX4_count 12 = .ok (.aload_n 0, 1) := by decide +kernel
theorem dX4_count_13 : decode cX4_count 13 = .ok (.getfield 19, 3) := by decide +kernel
theorem dX4_count_16 : decode cX4_count 16 = .ok (.iload_n 1, 1) := by decide +kernel
theorem dX4_count_17 : decode cX4_count 17 = .ok (.invokevirtual 110, 3) := by decide +kernel
theorem dX4_count_20 : decode cX4_count 20 = .ok (.ifCond .eq 14, 3) := by decide +kernel
theorem dX4_count_23 : decode cX4_count 23 = .ok (.aload_n 0, 1) := by decide +kernel
theorem dX4_count_24 : decode cX4_count 24 = .ok (.getfield 19, 3) := by decide +kernel
theorem dX4_count_27 : decode cX4_count 27 = .ok (.iload_n 1, 1) := by decide +kernel
theorem dX4_count_28 : decode cX4_count 28 = .ok (.invokevirtual 114, 3) := by decide +kernel
theorem dX4_count_31 : decode cX4_count 31 = .ok (.goto 5, 3) := by decide +kernel
theorem dX4_count_34 : decode cX4_count 34 = .ok (.bipush (-5), 2) := by decide +kernel
theorem dX4_count_36 : decode cX4_count 36 = .ok (.ireturn, 1) := by decide +kernel
set_option maxRecDepth 20000 in
theorem ggX4_openScan_X0_powered : GoodIn wsX4_openScan wsX0_powered := goodIn_r _ [8, 9, 54, 55, 56, 57] (by decide +kernel) (by decide +kernel)
set_option maxRecDepth 20000 in
theorem gX4_openScan_X0_powered : GoodIn wsX4_openScan (wsV RX4 53 RX0 yX0_powered wsX0_powered) := goodIn_app (goodIn_of _ (by decide +kernel)) ggX4_openScan_X0_powered
set_option maxRecDepth 20000 in
theorem ggX4_openScan_X2_hasTable : GoodIn wsX4_openScan wsX2_hasTable := goodIn_r _ [14, 15, 58] (by decide +kernel) (by decide +kernel)
set_option maxRecDepth 20000 in
theorem gX4_openScan_X2_hasTable : GoodIn wsX4_openScan (wsV RX4 110 RX2 yX2_hasTable wsX2_hasTable) := goodIn_app (goodIn_of _ (by decide +kernel)) ggX4_openScan_X2_hasTable
set_option maxRecDepth 20000 in
theorem ggX4_openScan_X2_hasCol : GoodIn wsX4_openScan wsX2_hasCol := goodIn_r _ [19, 20, 21, 22, 13, 23, 15, 24, 11, 12, 14, 58] (by decide +kernel) (by decide +kernel)
set_option maxRecDepth 20000 in
theorem gX4_openScan_X2_hasCol : GoodIn wsX4_openScan (wsV RX4 103 RX2 yX2_hasCol wsX2_hasCol) := goodIn_app (goodIn_of _ (by decide +kernel)) ggX4_openScan_X2_hasCol
set_option maxRecDepth 20000 in
theorem ggX4_openScan_X4_scanOf : GoodIn wsX4_openScan wsX4_scanOf := goodIn_r _ [29, 3, 30, 31, 32, 33, 34, 35, 48, 49, 50, 51, 52, 53, 59, 60, 61, 62, 63, 64, 65, 66] (by decide +kernel) (by decide +kernel)
set_option maxRecDepth 20000 in
theorem gX4_openScan_X4_scanOf : GoodIn wsX4_openScan (wsV RX4 117 RX4 yX4_scanOf wsX4_scanOf) := goodIn_app (goodIn_of _ (by decide +kernel)) ggX4_openScan_X4_scanOf
set_option maxRecDepth 20000 in
theorem ggX4_openScan_X3_start : GoodIn wsX4_openScan wsX3_start := goodIn_r _ [39, 35, 40, 41, 42, 43, 44, 45, 46, 47, 59, 60, 61, 62, 63, 64, 65, 66] (by decide +kernel) (by decide +kernel)
set_option maxRecDepth 20000 in
theorem gX4_openScan_X3_start : GoodIn wsX4_openScan (wsV RX4 121 RX3 yX3_start wsX3_start) := goodIn_app (goodIn_of _ (by decide +kernel)) ggX4_openScan_X3_start
theorem dX4_openScan_0 : decode cX4_openScan 0 = .ok (.aload_n 0, 1) := by decide +kernel
theorem dX4_openScan_1 : decode cX4_openScan 1 = .ok (.getfield 10, 3) := by decide +kernel
theorem dX4_openScan_4 : decode cX4_openScan 4 = .ok (.invokevirtual 53, 3) := by decide +kernel
theorem dX4_openScan_7 : decode cX4_openScan 7 = .ok (.ifCond .ne 5, 3) := by decide +kernel
theorem dX4_openScan_10 : decode cX4_openScan 10 = .ok (.iconst (-1), 1) := by decide +kernel
theorem dX4_openScan_11 : decode cX4_openScan 11 = .ok (.ireturn, 1) := by decide +kernel
theorem dX4_openScan_12 : decode cX4_openScan 12 = .ok (.aload_n 0, 1) := by decide +kernel
theorem dX4_openScan_13 : decode cX4_openScan 13 = .ok (.getfield 19, 3) := by decide +kernel
theorem dX4_openScan_16 : decode cX4_openScan 16 = .ok (.iload_n 1, 1) := by decide +kernel
theorem dX4_openScan_17 : decode cX4_openScan 17 = .ok (.invokevirtual 110, 3) := by decide +kernel
theorem dX4_openScan_20 : decode cX4_openScan 20 = .ok (.ifCond .ne 6, 3) := by decide +kernel
theorem dX4_openScan_23 : decode cX4_openScan 23 = .ok (.bipush (-5), 2) := by decide +kernel
theorem dX4_openScan_25 : decode cX4_openScan 25 = .ok (.ireturn, 1) := by decide +kernel
theorem dX4_openScan_26 : decode cX4_openScan 26 = .ok (.aload_n 0, 1) := by decide +kernel
theorem dX4_openScan_27 : decode cX4_openScan 27 = .ok (.getfield 19, 3) := by decide +kernel
theorem dX4_openScan_30 : decode cX4_openScan 30 = .ok (.iload_n 1, 1) := by decide +kernel
theorem dX4_openScan_31 : decode cX4_openScan 31 = .ok (.iload_n 2, 1) := by decide +kernel
theorem dX4_openScan_32 : decode cX4_openScan 32 = .ok (.invokevirtual 103, 3) := by decide +kernel
theorem dX4_openScan_35 : decode cX4_openScan 35 = .ok (.ifCond .ne 6, 3) := by decide +kernel
theorem dX4_openScan_38 : decode cX4_openScan 38 = .ok (.bipush (-4), 2) := by decide +kernel
theorem dX4_openScan_40 : decode cX4_openScan 40 = .ok (.ireturn, 1) := by decide +kernel
theorem dX4_openScan_41 : decode cX4_openScan 41 = .ok (.iconst 0, 1) := by decide +kernel
theorem dX4_openScan_42 : decode cX4_openScan 42 = .ok (.istore 5, 2) := by decide +kernel
theorem dX4_openScan_44 : decode cX4_openScan 44 = .ok (.iload 5, 2) := by decide +kernel
theorem dX4_openScan_46 : decode cX4_openScan 46 = .ok (.iconst 4, 1) := by decide +kernel
theorem dX4_openScan_47 : decode cX4_openScan 47 = .ok (.if_icmp .ge 36, 3) := by decide +kernel
theorem dX4_openScan_50 : decode cX4_openScan 50 = .ok (.aload_n 0, 1) := by decide +kernel
theorem dX4_openScan_51 : decode cX4_openScan 51 = .ok (.iload 5, 2) := by decide +kernel
theorem dX4_openScan_53 : decode cX4_openScan 53 = .ok (.invokevirtual 117, 3) := by decide +kernel
theorem dX4_openScan_56 : decode cX4_openScan 56 = .ok (.ifnonnull 21, 3) := by decide +kernel
theorem dX4_openScan_59 : decode cX4_openScan 59 = .ok (.aload_n 0, 1) := by decide +kernel
theorem dX4_openScan_60 : decode cX4_openScan 60 = .ok (.getfield 34, 3) := by decide +kernel
theorem dX4_openScan_63 : decode cX4_openScan 63 = .ok (.iload 5, 2) := by decide +kernel
theorem dX4_openScan_65 : decode cX4_openScan 65 = .ok (.aaload, 1) := by decide +kernel
theorem dX4_openScan_66 : decode cX4_openScan 66 = .ok (.iload_n 1, 1) := by decide +kernel
theorem dX4_openScan_67 : decode cX4_openScan 67 = .ok (.iload_n 2, 1) := by decide +kernel
theorem dX4_openScan_68 : decode cX4_openScan 68 = .ok (.iload_n 3, 1) := by decide +kernel
theorem dX4_openScan_69 : decode cX4_openScan 69 = .ok (.iload 4, 2) := by decide +kernel
theorem dX4_openScan_71 : decode cX4_openScan 71 = .ok (.invokevirtual 121, 3) := by decide +kernel
theorem dX4_openScan_74 : decode cX4_openScan 74 = .ok (.iload 5, 2) := by decide +kernel
theorem dX4_openScan_76 : decode cX4_openScan 76 = .ok (.ireturn, 1) := by decide +kernel
theorem dX4_openScan_77 : decode cX4_openScan 77 = .ok (.iinc 5 1, 3) := by decide +kernel
theorem dX4_openScan_80 : decode cX4_openScan 80 = .ok (.goto (-36), 3) := by decide +kernel
theorem dX4_openScan_83 : decode cX4_openScan 83 = .ok (.bipush (-8), 2) := by decide +kernel
theorem dX4_openScan_85 : decode cX4_openScan 85 = .ok (.ireturn, 1) := by decide +kernel
set_option maxRecDepth 20000 in
theorem ggX4_next_X4_usableScan : GoodIn wsX4_next wsX4_usableScan := goodIn_r _ [6, 7, 8, 9, 10, 11, 12, 13, 14, 15, 16, 5, 17, 18, 19, 20, 21, 22, 23, 24, 25, 26, 27, 28, 29, 74, 75, 76, 77, 78, 79, 80, 81, 82, 83, 84, 85, 86, 87, 88, 89, 90, 91] (by decide +kernel) (by decide +kernel)
set_option maxRecDepth 20000 in
theorem gX4_next_X4_usableScan : GoodIn wsX4_next (wsV RX4 125 RX4 yX4_usableScan wsX4_usableScan) := goodIn_app (goodIn_of _ (by decide +kernel)) ggX4_next_X4_usableScan
set_option maxRecDepth 20000 in
theorem ggX4_next_X3_move : GoodIn wsX4_next wsX3_move := goodIn_r _ [33, 34, 35, 36, 37, 38, 39, 40, 41, 42, 43, 44, 45, 46, 47, 48, 49, 50, 51, 52, 53, 54, 55, 56, 57, 58, 59, 60, 61, 62, 63, 64, 65, 66, 67, 68, 69, 70, 71, 72, 73, 84, 85, 86, 87, 88, 89, 90, 91, 92] (by decide +kernel) (by decide +kernel)
set_option maxRecDepth 20000 in
theorem gX4_next_X3_move : GoodIn wsX4_next (wsV RX4 128 RX3 yX3_move wsX3_move) := goodIn_app (goodIn_of _ (by decide +kernel)) ggX4_next_X3_move
theorem dX4_next_0 : decode cX4_next 0 = .ok (.aload_n 0, 1) := by decide +kernel
theorem dX4_next_1 : decode cX4_next 1 = .ok (.iload_n 1, 1) := by decide +kernel
theorem dX4_next_2 : decode cX4_next 2 = .ok (.invokevirtual 125, 3) := by decide +kernel
theorem dX4_next_5 : decode cX4_next 5 = .ok (.astore_n 2, 1) := by decide +kernel
theorem dX4_next_6 : decode cX4_next 6 = .ok (.aload_n 2, 1) := by decide +kernel
theorem dX4_next_7 : decode cX4_next 7 = .ok (.ifnull 18, 3) := by decide +kernel
theorem dX4_next_10 : decode cX4_next 10 = .ok (.aload_n 2, 1) := by decide +kernel
theorem dX4_next_11 : decode cX4_next 11 = .ok (.aload_n 0, 1) := by decide +kernel
theorem dX4_next_12 : decode cX4_next 12 = .ok (.getfield 19, 3) := by decide +kernel
theorem dX4_next_15 : decode cX4_next 15 = .ok (.invokevirtual 128, 3) := by decide +kernel
theorem dX4_next_18 : decode cX4_next 18 = .ok (.ifCond .eq 7, 3) := by decide +kernel
theorem dX4_next_21 : decode cX4_next 21 = .ok (.iconst 1, 1) := by decide +kernel
theorem dX4_next_22 : decode cX4_next 22 = .ok (.goto 4, 3) := by decide +kernel
theorem dX4_next_25 : decode cX4_next 25 = .ok (.iconst 0, 1) := by decide +kernel
theorem dX4_next_26 : decode cX4_next 26 = .ok (.ireturn, 1) := by decide +kernel
set_option maxRecDepth 20000 in
theorem ggX4_col_X4_usableScan : GoodIn wsX4_col wsX4_usableScan := goodIn_r _ [6, 7, 8, 9, 10, 11, 12, 13, 14, 15, 16, 5, 17, 18, 19, 20, 21, 22, 23, 24, 25, 26, 27, 28, 29, 54, 55, 56, 57, 58, 59, 60, 61, 62, 63, 64, 65, 66, 67, 68, 69, 70, 71] (by decide +kernel) (by decide +kernel)
set_option maxRecDepth 20000 in
theorem gX4_col_X4_usableScan : GoodIn wsX4_col (wsV RX4 125 RX4 yX4_usableScan wsX4_usableScan) := goodIn_app (goodIn_of _ (by decide +kernel)) ggX4_col_X4_usableScan
set_option maxRecDepth 20000 in
theorem ggX4_col_X3_wordAt : GoodIn wsX4_col wsX3_wordAt := goodIn_r _ [33, 34, 35, 36, 37, 38, 39, 40, 41, 42, 43, 44, 45, 46, 47, 48, 49, 50, 51, 52, 53, 64, 65, 66, 67, 68, 69, 70, 71, 72] (by decide +kernel) (by decide +kernel)
set_option maxRecDepth 20000 in
theorem gX4_col_X3_wordAt : GoodIn wsX4_col (wsV RX4 132 RX3 yX3_wordAt wsX3_wordAt) := goodIn_app (goodIn_of _ (by decide +kernel)) ggX4_col_X3_wordAt
theorem dX4_col_0 : decode cX4_col 0 = .ok (.aload_n 0, 1) := by decide +kernel
theorem dX4_col_1 : decode cX4_col 1 = .ok (.iload_n 1, 1) := by decide +kernel
theorem dX4_col_2 : decode cX4_col 2 = .ok (.invokevirtual 125, 3) := by decide +kernel
theorem dX4_col_5 : decode cX4_col 5 = .ok (.astore_n 3, 1) := by decide +kernel
theorem dX4_col_6 : decode cX4_col 6 = .ok (.aload_n 3, 1) := by decide +kernel
theorem dX4_col_7 : decode cX4_col 7 = .ok (.ifnonnull 7, 3) := by decide +kernel
theorem dX4_col_10 : decode cX4_col 10 = .ok (.iconst 0, 1) := by decide +kernel
theorem dX4_col_11 : decode cX4_col 11 = .ok (.goto 12, 3) := by decide +kernel
theorem dX4_col_14 : decode cX4_col 14 = .ok (.aload_n 3, 1) := by decide +kernel
theorem dX4_col_15 : decode cX4_col 15 = .ok (.aload_n 0, 1) := by decide +kernel
theorem dX4_col_16 : decode cX4_col 16 = .ok (.getfield 19, 3) := by decide +kernel
theorem dX4_col_19 : decode cX4_col 19 = .ok (.iload_n 2, 1) := by decide +kernel
theorem dX4_col_20 : decode cX4_col 20 = .ok (.invokevirtual 132, 3) := by decide +kernel
theorem dX4_col_23 : decode cX4_col 23 = .ok (.ireturn, 1) := by decide +kernel
set_option maxRecDepth 20000 in
theorem ggX4_closeScan_X0_powered : GoodIn wsX4_closeScan wsX0_powered := goodIn_r _ [6, 7, 30, 31, 32, 33] (by decide +kernel) (by decide +kernel)
set_option maxRecDepth 20000 in
theorem gX4_closeScan_X0_powered : GoodIn wsX4_closeScan (wsV RX4 53 RX0 yX0_powered wsX0_powered) := goodIn_app (goodIn_of _ (by decide +kernel)) ggX4_closeScan_X0_powered
set_option maxRecDepth 20000 in
theorem ggX4_closeScan_X4_scanOf : GoodIn wsX4_closeScan wsX4_scanOf := goodIn_r _ [12, 13, 14, 15, 16, 17, 18, 19, 24, 25, 26, 27, 28, 29, 34, 35, 36, 37, 38, 39, 40, 41] (by decide +kernel) (by decide +kernel)
set_option maxRecDepth 20000 in
theorem gX4_closeScan_X4_scanOf : GoodIn wsX4_closeScan (wsV RX4 117 RX4 yX4_scanOf wsX4_scanOf) := goodIn_app (goodIn_of _ (by decide +kernel)) ggX4_closeScan_X4_scanOf
set_option maxRecDepth 20000 in
theorem ggX4_closeScan_X3_end : GoodIn wsX4_closeScan wsX3_end := goodIn_r _ [23, 19, 34, 35, 36, 37, 38, 39, 40, 41] (by decide +kernel) (by decide +kernel)
set_option maxRecDepth 20000 in
theorem gX4_closeScan_X3_end : GoodIn wsX4_closeScan (wsV RX4 136 RX3 yX3_end wsX3_end) := goodIn_app (goodIn_of _ (by decide +kernel)) ggX4_closeScan_X3_end
theorem dX4_closeScan_0 : decode cX4_closeScan 0 = .ok (.aload_n 0, 1) := by decide +kernel
theorem dX4_closeScan_1 : decode cX4_closeScan 1 = .ok (.getfield 10, 3) := by decide +kernel
theorem dX4_closeScan_4 : decode cX4_closeScan 4 = .ok (.invokevirtual 53, 3) := by decide +kernel
theorem dX4_closeScan_7 : decode cX4_closeScan 7 = .ok (.ifCond .ne 5, 3) := by decide +kernel
theorem dX4_closeScan_10 : decode cX4_closeScan 10 = .ok (.iconst (-1), 1) := by decide +kernel
theorem dX4_closeScan_11 : decode cX4_closeScan 11 = .ok (.ireturn, 1) := by decide +kernel
theorem dX4_closeScan_12 : decode cX4_closeScan 12 = .ok (.aload_n 0, 1) := by decide +kernel
theorem dX4_closeScan_13 : decode cX4_closeScan 13 = .ok (.iload_n 1, 1) := by decide +kernel
theorem dX4_closeScan_14 : decode cX4_closeScan 14 = .ok (.invokevirtual 117, 3) := by decide +kernel
theorem dX4_closeScan_17 : decode cX4_closeScan 17 = .ok (.astore_n 2, 1) := by decide +kernel
theorem dX4_closeScan_18 : decode cX4_closeScan 18 = .ok (.aload_n 2, 1) := by decide +kernel
theorem dX4_closeScan_19 : decode cX4_closeScan 19 = .ok (.ifnonnull 6, 3) := by decide +kernel
theorem dX4_closeScan_22 : decode cX4_closeScan 22 = .ok (.bipush (-9), 2) := by decide +kernel
end
section
theorem dX4_closeScan_24 : decode cX4_closeScan 24 = .ok (.ireturn, 1) := by decide +kernel
theorem dX4_closeScan_25 : decode cX4_closeScan 25 = .ok (.aload_n 2, 1) := by decide +kernel
theorem dX4_closeScan_26 : decode cX4_closeScan 26 = .ok (.invokevirtual 136, 3) := by decide +kernel
theorem dX4_closeScan_29 : decode cX4_closeScan 29 = .ok (.iconst 0, 1) := by decide +kernel
theorem dX4_closeScan_30 : decode cX4_closeScan 30 = .ok (.ireturn, 1) := by decide +kernel
set_option maxRecDepth 20000 in
theorem ggX4_crashAfter_X0_failAfter : GoodIn wsX4_crashAfter wsX0_failAfter := goodIn_r _ [6, 7, 14, 15, 16, 17] (by decide +kernel) (by decide +kernel)
set_option maxRecDepth 20000 in
theorem gX4_crashAfter_X0_failAfter : GoodIn wsX4_crashAfter (wsV RX4 139 RX0 yX0_failAfter wsX0_failAfter) := goodIn_app (goodIn_of _ (by decide +kernel)) ggX4_crashAfter_X0_failAfter
theorem dX4_crashAfter_0 : decode cX4_crashAfter 0 = .ok (.iload_n 1, 1) := by decide +kernel
theorem dX4_crashAfter_1 : decode cX4_crashAfter 1 = .ok (.ifCond .ge 6, 3) := by decide +kernel
theorem dX4_crashAfter_4 : decode cX4_crashAfter 4 = .ok (.bipush (-4), 2) := by decide +kernel
theorem dX4_crashAfter_6 : decode cX4_crashAfter 6 = .ok (.ireturn, 1) := by decide +kernel
theorem dX4_crashAfter_7 : decode cX4_crashAfter 7 = .ok (.aload_n 0, 1) := by decide +kernel
theorem dX4_crashAfter_8 : decode cX4_crashAfter 8 = .ok (.getfield 10, 3) := by decide +kernel
theorem dX4_crashAfter_11 : decode cX4_crashAfter 11 = .ok (.iload_n 1, 1) := by decide +kernel
theorem dX4_crashAfter_12 : decode cX4_crashAfter 12 = .ok (.invokevirtual 139, 3) := by decide +kernel
theorem dX4_crashAfter_15 : decode cX4_crashAfter 15 = .ok (.iconst 0, 1) := by decide +kernel
theorem dX4_crashAfter_16 : decode cX4_crashAfter 16 = .ok (.ireturn, 1) := by decide +kernel
set_option maxRecDepth 20000 in
theorem ggX4_recover_X0_powerOn : GoodIn wsX4_recover wsX0_powerOn := goodIn_r _ [7, 8, 92, 93, 94, 95] (by decide +kernel) (by decide +kernel)
set_option maxRecDepth 20000 in
theorem gX4_recover_X0_powerOn : GoodIn wsX4_recover (wsV RX4 142 RX0 yX0_powerOn wsX0_powerOn) := goodIn_app (goodIn_of _ (by decide +kernel)) ggX4_recover_X0_powerOn
set_option maxRecDepth 20000 in
theorem ggX4_recover_X1_undo : GoodIn wsX4_recover wsX1_undo := goodIn_r _ [13, 14, 15, 16, 12, 17, 18, 19, 20, 21, 6, 22, 23, 24, 25, 26, 27, 28, 29, 30, 31, 32, 33, 34, 35, 36, 37, 38, 39, 40, 41, 42, 43, 44, 45, 46, 47, 48, 49, 50, 51, 52, 53, 8, 54, 55, 56, 57, 58, 59, 60, 61, 62, 63, 64, 96, 97, 98, 92, 93, 94, 95] (by decide +kernel) (by decide +kernel)
set_option maxRecDepth 20000 in
theorem gX4_recover_X1_undo : GoodIn wsX4_recover (wsV RX4 145 RX1 yX1_undo wsX1_undo) := goodIn_app (goodIn_of _ (by decide +kernel)) ggX4_recover_X1_undo
set_option maxRecDepth 20000 in
theorem ggX4_recover_X4_startAnew : GoodIn wsX4_recover wsX4_startAnew := goodIn_r _ [69, 70, 1, 71, 72, 73, 74, 75, 76, 77, 78, 79, 55, 56, 57, 80, 81, 82, 83, 84, 85, 86, 87, 88, 89, 90, 91, 92, 93, 94, 95, 99, 100, 101, 102, 103, 104, 105, 106, 107] (by decide +kernel) (by decide +kernel)
set_option maxRecDepth 20000 in
theorem gX4_recover_X4_startAnew : GoodIn wsX4_recover (wsV RX4 50 RX4 yX4_startAnew wsX4_startAnew) := goodIn_app (goodIn_of _ (by decide +kernel)) ggX4_recover_X4_startAnew
theorem dX4_recover_0 : decode cX4_recover 0 = .ok (.aload_n 0, 1) := by decide +kernel
theorem dX4_recover_1 : decode cX4_recover 1 = .ok (.getfield 10, 3) := by decide +kernel
theorem dX4_recover_4 : decode cX4_recover 4 = .ok (.invokevirtual 142, 3) := by decide +kernel
theorem dX4_recover_7 : decode cX4_recover 7 = .ok (.aload_n 0, 1) := by decide +kernel
theorem dX4_recover_8 : decode cX4_recover 8 = .ok (.getfield 28, 3) := by decide +kernel
theorem dX4_recover_11 : decode cX4_recover 11 = .ok (.invokevirtual 145, 3) := by decide +kernel
theorem dX4_recover_14 : decode cX4_recover 14 = .ok (.ifCond .ne 5, 3) := by decide +kernel
theorem dX4_recover_17 : decode cX4_recover 17 = .ok (.iconst (-1), 1) := by decide +kernel
theorem dX4_recover_18 : decode cX4_recover 18 = .ok (.ireturn, 1) := by decide +kernel
theorem dX4_recover_19 : decode cX4_recover 19 = .ok (.aload_n 0, 1) := by decide +kernel
theorem dX4_recover_20 : decode cX4_recover 20 = .ok (.invokevirtual 50, 3) := by decide +kernel
theorem dX4_recover_23 : decode cX4_recover 23 = .ok (.iconst 0, 1) := by decide +kernel
theorem dX4_recover_24 : decode cX4_recover 24 = .ok (.ireturn, 1) := by decide +kernel
set_option maxRecDepth 20000 in
theorem ggX4_peek_X0_word : GoodIn wsX4_peek wsX0_word := goodIn_r _ [6, 7, 14, 15, 16, 17] (by decide +kernel) (by decide +kernel)
set_option maxRecDepth 20000 in
theorem gX4_peek_X0_word : GoodIn wsX4_peek (wsV RX4 148 RX0 yX0_word wsX0_word) := goodIn_app (goodIn_of _ (by decide +kernel)) ggX4_peek_X0_word
theorem dX4_peek_0 : decode cX4_peek 0 = .ok (.iload_n 1, 1) := by decide +kernel
theorem dX4_peek_1 : decode cX4_peek 1 = .ok (.ifCond .lt 19, 3) := by decide +kernel
theorem dX4_peek_4 : decode cX4_peek 4 = .ok (.iload_n 1, 1) := by decide +kernel
theorem dX4_peek_5 : decode cX4_peek 5 = .ok (.bipush 33, 2) := by decide +kernel
theorem dX4_peek_7 : decode cX4_peek 7 = .ok (.if_icmp .ge 13, 3) := by decide +kernel
theorem dX4_peek_10 : decode cX4_peek 10 = .ok (.iload_n 2, 1) := by decide +kernel
theorem dX4_peek_11 : decode cX4_peek 11 = .ok (.ifCond .lt 9, 3) := by decide +kernel
theorem dX4_peek_14 : decode cX4_peek 14 = .ok (.iload_n 2, 1) := by decide +kernel
theorem dX4_peek_15 : decode cX4_peek 15 = .ok (.bipush 16, 2) := by decide +kernel
theorem dX4_peek_17 : decode cX4_peek 17 = .ok (.if_icmp .lt 6, 3) := by decide +kernel
theorem dX4_peek_20 : decode cX4_peek 20 = .ok (.bipush (-4), 2) := by decide +kernel
theorem dX4_peek_22 : decode cX4_peek 22 = .ok (.ireturn, 1) := by decide +kernel
theorem dX4_peek_23 : decode cX4_peek 23 = .ok (.aload_n 0, 1) := by decide +kernel
theorem dX4_peek_24 : decode cX4_peek 24 = .ok (.getfield 10, 3) := by decide +kernel
theorem dX4_peek_27 : decode cX4_peek 27 = .ok (.iload_n 1, 1) := by decide +kernel
theorem dX4_peek_28 : decode cX4_peek 28 = .ok (.iload_n 2, 1) := by decide +kernel
theorem dX4_peek_29 : decode cX4_peek 29 = .ok (.invokevirtual 148, 3) := by decide +kernel
theorem dX4_peek_32 : decode cX4_peek 32 = .ok (.ireturn, 1) := by decide +kernel
set_option maxRecDepth 20000 in
theorem ggX4_writes_X0_writesDone : GoodIn wsX4_writes wsX0_writesDone := goodIn_r _ [6, 7, 14, 15, 16, 17] (by decide +kernel) (by decide +kernel)
set_option maxRecDepth 20000 in
theorem gX4_writes_X0_writesDone : GoodIn wsX4_writes (wsV RX4 150 RX0 yX0_writesDone wsX0_writesDone) := goodIn_app (goodIn_of _ (by decide +kernel)) ggX4_writes_X0_writesDone
theorem dX4_writes_0 : decode cX4_writes 0 = .ok (.aload_n 0, 1) := by decide +kernel
theorem dX4_writes_1 : decode cX4_writes 1 = .ok (.getfield 10, 3) := by decide +kernel
theorem dX4_writes_4 : decode cX4_writes 4 = .ok (.invokevirtual 150, 3) := by decide +kernel
theorem dX4_writes_7 : decode cX4_writes 7 = .ok (.ireturn, 1) := by decide +kernel
set_option maxRecDepth 20000 in
theorem ggX4_startAnew_X2_load : GoodIn wsX4_startAnew wsX2_load := goodIn_r _ [9, 10, 11, 12, 13, 14, 27, 28, 29, 30, 31] (by decide +kernel) (by decide +kernel)
set_option maxRecDepth 20000 in
theorem gX4_startAnew_X2_load : GoodIn wsX4_startAnew (wsV RX4 82 RX2 yX2_load wsX2_load) := goodIn_app (goodIn_of _ (by decide +kernel)) ggX4_startAnew_X2_load
set_option maxRecDepth 20000 in
theorem ggX4_startAnew_X3_end : GoodIn wsX4_startAnew wsX3_end := goodIn_r _ [19, 20, 32, 33, 34, 35, 36, 37, 38, 39] (by decide +kernel) (by decide +kernel)
set_option maxRecDepth 20000 in
theorem gX4_startAnew_X3_end : GoodIn wsX4_startAnew (wsV RX4 136 RX3 yX3_end wsX3_end) := goodIn_app (goodIn_of _ (by decide +kernel)) ggX4_startAnew_X3_end
theorem dX4_startAnew_0 : decode cX4_startAnew 0 = .ok (.aload_n 0, 1) := by decide +kernel
theorem dX4_startAnew_1 : decode cX4_startAnew 1 = .ok (.getfield 19, 3) := by decide +kernel
theorem dX4_startAnew_4 : decode cX4_startAnew 4 = .ok (.aload_n 0, 1) := by decide +kernel
theorem dX4_startAnew_5 : decode cX4_startAnew 5 = .ok (.getfield 10, 3) := by decide +kernel
theorem dX4_startAnew_8 : decode cX4_startAnew 8 = .ok (.invokevirtual 82, 3) := by decide +kernel
theorem dX4_startAnew_11 : decode cX4_startAnew 11 = .ok (.aload_n 0, 1) := by decide +kernel
theorem dX4_startAnew_12 : decode cX4_startAnew 12 = .ok (.iconst 0, 1) := by decide +kernel
theorem dX4_startAnew_13 : decode cX4_startAnew 13 = .ok (.putfield 43, 3) := by decide +kernel
theorem dX4_startAnew_16 : decode cX4_startAnew 16 = .ok (.iconst 0, 1) := by decide +kernel
theorem dX4_startAnew_17 : decode cX4_startAnew 17 = .ok (.istore_n 1, 1) := by decide +kernel
theorem dX4_startAnew_18 : decode cX4_startAnew 18 = .ok (.iload_n 1, 1) := by decide +kernel
theorem dX4_startAnew_19 : decode cX4_startAnew 19 = .ok (.iconst 4, 1) := by decide +kernel
theorem dX4_startAnew_20 : decode cX4_startAnew 20 = .ok (.if_icmp .ge 18, 3) := by decide +kernel
theorem dX4_startAnew_23 : decode cX4_startAnew 23 = .ok (.aload_n 0, 1) := by decide +kernel
theorem dX4_startAnew_24 : decode cX4_startAnew 24 = .ok (.getfield 34, 3) := by decide +kernel
theorem dX4_startAnew_27 : decode cX4_startAnew 27 = .ok (.iload_n 1, 1) := by decide +kernel
theorem dX4_startAnew_28 : decode cX4_startAnew 28 = .ok (.aaload, 1) := by decide +kernel
theorem dX4_startAnew_29 : decode cX4_startAnew 29 = .ok (.invokevirtual 136, 3) := by decide +kernel
theorem dX4_startAnew_32 : decode cX4_startAnew 32 = .ok (.iinc 1 1, 3) := by decide +kernel
theorem dX4_startAnew_35 : decode cX4_startAnew 35 = .ok (.goto (-17), 3) := by decide +kernel
theorem dX4_startAnew_38 : decode cX4_startAnew 38 = .ok (.return_, 1) := by decide +kernel
set_option maxRecDepth 20000 in
theorem ggX4_refusalOutsideTransaction_X0_powered : GoodIn wsX4_refusalOutsideTransaction wsX0_powered := goodIn_r _ [7, 8, 15, 16, 17, 18] (by decide +kernel) (by decide +kernel)
set_option maxRecDepth 20000 in
theorem gX4_refusalOutsideTransaction_X0_powered : GoodIn wsX4_refusalOutsideTransaction (wsV RX4 53 RX0 yX0_powered wsX0_powered) := goodIn_app (goodIn_of _ (by decide +kernel)) ggX4_refusalOutsideTransaction_X0_powered
theorem dX4_refusalOutsideTransaction_0 : decode cX4_refusalOutsideTransaction 0 = .ok (.aload_n 0, 1) := by decide +kernel
theorem dX4_refusalOutsideTransaction_1 : decode cX4_refusalOutsideTransaction 1 = .ok (.getfield 10, 3) := by decide +kernel
theorem dX4_refusalOutsideTransaction_4 : decode cX4_refusalOutsideTransaction 4 = .ok (.invokevirtual 53, 3) := by decide +kernel
theorem dX4_refusalOutsideTransaction_7 : decode cX4_refusalOutsideTransaction 7 = .ok (.ifCond .ne 5, 3) := by decide +kernel
theorem dX4_refusalOutsideTransaction_10 : decode cX4_refusalOutsideTransaction 10 = .ok (.iconst (-1), 1) := by decide +kernel
theorem dX4_refusalOutsideTransaction_11 : decode cX4_refusalOutsideTransaction 11 = .ok (.ireturn, 1) := by decide +kernel
theorem dX4_refusalOutsideTransaction_12 : decode cX4_refusalOutsideTransaction 12 = .ok (.aload_n 0, 1) := by decide +kernel
theorem dX4_refusalOutsideTransaction_13 : decode cX4_refusalOutsideTransaction 13 = .ok (.getfield 43, 3) := by decide +kernel
theorem dX4_refusalOutsideTransaction_16 : decode cX4_refusalOutsideTransaction 16 = .ok (.ifCond .eq 7, 3) := by decide +kernel
theorem dX4_refusalOutsideTransaction_19 : decode cX4_refusalOutsideTransaction 19 = .ok (.iconst 0, 1) := by decide +kernel
theorem dX4_refusalOutsideTransaction_20 : decode cX4_refusalOutsideTransaction 20 = .ok (.goto 5, 3) := by decide +kernel
theorem dX4_refusalOutsideTransaction_23 : decode cX4_refusalOutsideTransaction 23 = .ok (.bipush (-2), 2) := by decide +kernel
theorem dX4_refusalOutsideTransaction_25 : decode cX4_refusalOutsideTransaction 25 = .ok (.ireturn, 1) := by decide +kernel
set_option maxRecDepth 20000 in
theorem ggX4_refusalOfChange_X4_refusalOutsideTransaction : GoodIn wsX4_refusalOfChange wsX4_refusalOutsideTransaction := goodIn_r _ [6, 7, 8, 9, 10, 11, 12, 13, 14, 21, 22, 23, 24, 25, 26, 27, 28, 29, 30] (by decide +kernel) (by decide +kernel)
set_option maxRecDepth 20000 in
theorem gX4_refusalOfChange_X4_refusalOutsideTransaction : GoodIn wsX4_refusalOfChange (wsV RX4 76 RX4 yX4_refusalOutsideTransaction wsX4_refusalOutsideTransaction) := goodIn_app (goodIn_of _ (by decide +kernel)) ggX4_refusalOfChange_X4_refusalOutsideTransaction
set_option maxRecDepth 20000 in
theorem ggX4_refusalOfChange_X2_hasTable : GoodIn wsX4_refusalOfChange wsX2_hasTable := goodIn_r _ [19, 20, 31] (by decide +kernel) (by decide +kernel)
set_option maxRecDepth 20000 in
theorem gX4_refusalOfChange_X2_hasTable : GoodIn wsX4_refusalOfChange (wsV RX4 110 RX2 yX2_hasTable wsX2_hasTable) := goodIn_app (goodIn_of _ (by decide +kernel)) ggX4_refusalOfChange_X2_hasTable
theorem dX4_refusalOfChange_0 : decode cX4_refusalOfChange 0 = .ok (.aload_n 0, 1) := by decide +kernel
theorem dX4_refusalOfChange_1 : decode cX4_refusalOfChange 1 = .ok (.invokevirtual 76, 3) := by decide +kernel
theorem dX4_refusalOfChange_4 : decode cX4_refusalOfChange 4 = .ok (.istore_n 2, 1) := by decide +kernel
theorem dX4_refusalOfChange_5 : decode cX4_refusalOfChange 5 = .ok (.iload_n 2, 1) := by decide +kernel
theorem dX4_refusalOfChange_6 : decode cX4_refusalOfChange 6 = .ok (.ifCond .eq 5, 3) := by decide +kernel
theorem dX4_refusalOfChange_9 : decode cX4_refusalOfChange 9 = .ok (.iload_n 2, 1) := by decide +kernel
theorem dX4_refusalOfChange_10 : decode cX4_refusalOfChange 10 = .ok (.ireturn, 1) := by decide +kernel
theorem dX4_refusalOfChange_11 : decode cX4_refusalOfChange 11 = .ok (.aload_n 0, 1) := by decide +kernel
theorem dX4_refusalOfChange_12 : decode cX4_refusalOfChange 12 = .ok (.getfield 19, 3) := by decide +kernel
theorem dX4_refusalOfChange_15 : decode cX4_refusalOfChange 15 = .ok (.iload_n 1, 1) := by decide +kernel
theorem dX4_refusalOfChange_16 : decode cX4_refusalOfChange 16 = .ok (.invokevirtual 110, 3) := by decide +kernel
theorem dX4_refusalOfChange_19 : decode cX4_refusalOfChange 19 = .ok (.ifCond .eq 7, 3) := by decide +kernel
theorem dX4_refusalOfChange_22 : decode cX4_refusalOfChange 22 = .ok (.iconst 0, 1) := by decide +kernel
theorem dX4_refusalOfChange_23 : decode cX4_refusalOfChange 23 = .ok (.goto 5, 3) := by decide +kernel
theorem dX4_refusalOfChange_26 : decode cX4_refusalOfChange 26 = .ok (.bipush (-5), 2) := by decide +kernel
theorem dX4_refusalOfChange_28 : decode cX4_refusalOfChange 28 = .ok (.ireturn, 1) := by decide +kernel
set_option maxRecDepth 20000 in
theorem ggX4_voidScansOf_X3_tableChanged : GoodIn wsX4_voidScansOf wsX3_tableChanged := goodIn_r _ [6, 7, 8, 15, 16, 17, 18, 19, 20, 21, 22] (by decide +kernel) (by decide +kernel)
set_option maxRecDepth 20000 in
theorem gX4_voidScansOf_X3_tableChanged : GoodIn wsX4_voidScansOf (wsV RX4 153 RX3 yX3_tableChanged wsX3_tableChanged) := goodIn_app (goodIn_of _ (by decide +kernel)) ggX4_voidScansOf_X3_tableChanged
theorem dX4_voidScansOf_0 : decode cX4_voidScansOf 0 = .ok (.iconst 0, 1) := by decide +kernel
theorem dX4_voidScansOf_1 : decode cX4_voidScansOf 1 = .ok (.istore_n 2, 1) := by decide +kernel
theorem dX4_voidScansOf_2 : decode cX4_voidScansOf 2 = .ok (.iload_n 2, 1) := by decide +kernel
theorem dX4_voidScansOf_3 : decode cX4_voidScansOf 3 = .ok (.iconst 4, 1) := by decide +kernel
theorem dX4_voidScansOf_4 : decode cX4_voidScansOf 4 = .ok (.if_icmp .ge 19, 3) := by decide +kernel
theorem dX4_voidScansOf_7 : decode cX4_voidScansOf 7 = .ok (.aload_n 0, 1) := by decide +kernel
theorem dX4_voidScansOf_8 : decode cX4_voidScansOf 8 = .ok (.getfield 34, 3) := by decide +kernel
theorem dX4_voidScansOf_11 : decode cX4_voidScansOf 11 = .ok (.iload_n 2, 1) := by decide +kernel
theorem dX4_voidScansOf_12 : decode cX4_voidScansOf 12 = .ok (.aaload, 1) := by decide +kernel
theorem dX4_voidScansOf_13 : decode cX4_voidScansOf 13 = .ok (.iload_n 1, 1) := by decide +kernel
theorem dX4_voidScansOf_14 : decode cX4_voidScansOf 14 = .ok (.invokevirtual 153, 3) := by decide +kernel
theorem dX4_voidScansOf_17 : decode cX4_voidScansOf 17 = .ok (.iinc 2 1, 3) := by decide +kernel
theorem dX4_voidScansOf_20 : decode cX4_voidScansOf 20 = .ok (.goto (-18), 3) := by decide +kernel
theorem dX4_voidScansOf_23 : decode cX4_voidScansOf 23 = .ok (.return_, 1) := by decide +kernel
set_option maxRecDepth 20000 in
theorem ggX4_scanOf_X3_isOpen : GoodIn wsX4_scanOf wsX3_isOpen := goodIn_r _ [6, 7, 14, 15, 16, 17, 18, 19, 20, 21] (by decide +kernel) (by decide +kernel)
set_option maxRecDepth 20000 in
theorem gX4_scanOf_X3_isOpen : GoodIn wsX4_scanOf (wsV RX4 156 RX3 yX3_isOpen wsX3_isOpen) := goodIn_app (goodIn_of _ (by decide +kernel)) ggX4_scanOf_X3_isOpen
theorem dX4_scanOf_0 : decode cX4_scanOf 0 = .ok (.iload_n 1, 1) := by decide +kernel
theorem dX4_scanOf_1 : decode cX4_scanOf 1 = .ok (.ifCond .lt 8, 3) := by decide +kernel
theorem dX4_scanOf_4 : decode cX4_scanOf 4 = .ok (.iload_n 1, 1) := by decide +kernel
theorem dX4_scanOf_5 : decode cX4_scanOf 5 = .ok (.iconst 4, 1) := by decide +kernel
theorem dX4_scanOf_6 : decode cX4_scanOf 6 = .ok (.if_icmp .lt 5, 3) := by decide +kernel
theorem dX4_scanOf_9 : decode cX4_scanOf 9 = .ok (.aconst_null, 1) := by decide +kernel
theorem dX4_scanOf_10 : decode cX4_scanOf 10 = .ok (.areturn, 1) := by decide +kernel
theorem dX4_scanOf_11 : decode cX4_scanOf 11 = .ok (.aload_n 0, 1) := by decide +kernel
theorem dX4_scanOf_12 : decode cX4_scanOf 12 = .ok (.getfield 34, 3) := by decide +kernel
theorem dX4_scanOf_15 : decode cX4_scanOf 15 = .ok (.iload_n 1, 1) := by decide +kernel
theorem dX4_scanOf_16 : decode cX4_scanOf 16 = .ok (.aaload, 1) := by decide +kernel
theorem dX4_scanOf_17 : decode cX4_scanOf 17 = .ok (.invokevirtual 156, 3) := by decide +kernel
theorem dX4_scanOf_20 : decode cX4_scanOf 20 = .ok (.ifCond .eq 12, 3) := by decide +kernel
theorem dX4_scanOf_23 : decode cX4_scanOf 23 = .ok (.aload_n 0, 1) := by decide +kernel
theorem dX4_scanOf_24 : decode cX4_scanOf 24 = .ok (.getfield 34, 3) := by decide +kernel
theorem dX4_scanOf_27 : decode cX4_scanOf 27 = .ok (.iload_n 1, 1) := by decide +kernel
theorem dX4_scanOf_28 : decode cX4_scanOf 28 = .ok (.aaload, 1) := by decide +kernel
theorem dX4_scanOf_29 : decode cX4_scanOf 29 = .ok (.goto 4, 3) := by decide +kernel
theorem dX4_scanOf_32 : decode cX4_scanOf 32 = .ok (.aconst_null, 1) := by decide +kernel
theorem dX4_scanOf_33 : decode cX4_scanOf 33 = .ok (.areturn, 1) := by decide +kernel
set_option maxRecDepth 20000 in
theorem ggX4_usableScan_X0_powered : GoodIn wsX4_usableScan wsX0_powered := goodIn_r _ [6, 7, 31, 32, 33, 34] (by decide +kernel) (by decide +kernel)
set_option maxRecDepth 20000 in
theorem gX4_usableScan_X0_powered : GoodIn wsX4_usableScan (wsV RX4 53 RX0 yX0_powered wsX0_powered) := goodIn_app (goodIn_of _ (by decide +kernel)) ggX4_usableScan_X0_powered
set_option maxRecDepth 20000 in
theorem ggX4_usableScan_X4_scanOf : GoodIn wsX4_usableScan wsX4_scanOf := goodIn_r _ [12, 13, 14, 15, 16, 17, 18, 19, 25, 26, 27, 28, 29, 30, 35, 36, 37, 38, 39, 40, 41, 42] (by decide +kernel) (by decide +kernel)
set_option maxRecDepth 20000 in
theorem gX4_usableScan_X4_scanOf : GoodIn wsX4_usableScan (wsV RX4 117 RX4 yX4_scanOf wsX4_scanOf) := goodIn_app (goodIn_of _ (by decide +kernel)) ggX4_usableScan_X4_scanOf
set_option maxRecDepth 20000 in
theorem ggX4_usableScan_X3_isVoid : GoodIn wsX4_usableScan wsX3_isVoid := goodIn_r _ [23, 24, 35, 36, 37, 38, 39, 40, 41, 42] (by decide +kernel) (by decide +kernel)
set_option maxRecDepth 20000 in
theorem gX4_usableScan_X3_isVoid : GoodIn wsX4_usableScan (wsV RX4 159 RX3 yX3_isVoid wsX3_isVoid) := goodIn_app (goodIn_of _ (by decide +kernel)) ggX4_usableScan_X3_isVoid
theorem dX4_usableScan_0 : decode cX4_usableScan 0 = .ok (.aload_n 0, 1) := by decide +kernel
theorem dX4_usableScan_1 : decode cX4_usableScan 1 = .ok (.getfield 10, 3) := by decide +kernel
theorem dX4_usableScan_4 : decode cX4_usableScan 4 = .ok (.invokevirtual 53, 3) := by decide +kernel
theorem dX4_usableScan_7 : decode cX4_usableScan 7 = .ok (.ifCond .eq 11, 3) := by decide +kernel
theorem dX4_usableScan_10 : decode cX4_usableScan 10 = .ok (.aload_n 0, 1) := by decide +kernel
theorem dX4_usableScan_11 : decode cX4_usableScan 11 = .ok (.iload_n 1, 1) := by decide +kernel
theorem dX4_usableScan_12 : decode cX4_usableScan 12 = .ok (.invokevirtual 117, 3) := by decide +kernel
theorem dX4_usableScan_15 : decode cX4_usableScan 15 = .ok (.goto 4, 3) := by decide +kernel
theorem dX4_usableScan_18 : decode cX4_usableScan 18 = .ok (.aconst_null, 1) := by decide +kernel
theorem dX4_usableScan_19 : decode cX4_usableScan 19 = .ok (.astore_n 2, 1) := by decide +kernel
theorem dX4_usableScan_20 : decode cX4_usableScan 20 = .ok (.aload_n 2, 1) := by decide +kernel
theorem dX4_usableScan_21 : decode cX4_usableScan 21 = .ok (.ifnull 10, 3) := by decide +kernel
theorem dX4_usableScan_24 : decode cX4_usableScan 24 = .ok (.aload_n 2, 1) := by decide +kernel
theorem dX4_usableScan_25 : decode cX4_usableScan 25 = .ok (.invokevirtual 159, 3) := by decide +kernel
theorem dX4_usableScan_28 : decode cX4_usableScan 28 = .ok (.ifCond .eq 7, 3) := by decide +kernel
theorem dX4_usableScan_31 : decode cX4_usableScan 31 = .ok (.aconst_null, 1) := by decide +kernel
theorem dX4_usableScan_32 : decode cX4_usableScan 32 = .ok (.goto 4, 3) := by decide +kernel
theorem dX4_usableScan_35 : decode cX4_usableScan 35 = .ok (.aload_n 2, 1) := by decide +kernel
theorem dX4_usableScan_36 : decode cX4_usableScan 36 = .ok (.areturn, 1) := by decide +kernel
theorem dX5_init_0 : decode cX5_init 0 = .ok (.aload_n 0, 1) := by decide +kernel
theorem dX5_init_1 : decode cX5_init 1 = .ok (.invokespecial 1, 3) := by decide +kernel
theorem dX5_init_4 : decode cX5_init 4 = .ok (.aload_n 0, 1) := by decide +kernel
theorem dX5_init_5 : decode cX5_init 5 = .ok (.sipush 528, 3) := by decide +kernel
theorem dX5_init_8 : decode cX5_init 8 = .ok (.newarray .int, 2) := by decide +kernel
theorem dX5_init_10 : decode cX5_init 10 = .ok (.putfield 7, 3) := by decide +kernel
theorem dX5_init_13 : decode cX5_init 13 = .ok (.aload_n 0, 1) := by decide +kernel
theorem dX5_init_14 : decode cX5_init 14 = .ok (.sipush 256, 3) := by decide +kernel
theorem dX5_init_17 : decode cX5_init 17 = .ok (.newarray .int, 2) := by decide +kernel
theorem dX5_init_19 : decode cX5_init 19 = .ok (.putfield 13, 3) := by decide +kernel
theorem dX5_init_22 : decode cX5_init 22 = .ok (.aload_n 0, 1) := by decide +kernel
theorem dX5_init_23 : decode cX5_init 23 = .ok (.bipush 16, 2) := by decide +kernel
theorem dX5_init_25 : decode cX5_init 25 = .ok (.newarray .int, 2) := by decide +kernel
theorem dX5_init_27 : decode cX5_init 27 = .ok (.putfield 16, 3) := by decide +kernel
theorem dX5_init_30 : decode cX5_init 30 = .ok (.aload_n 0, 1) := by decide +kernel
theorem dX5_init_31 : decode cX5_init 31 = .ok (.bipush 6, 2) := by decide +kernel
theorem dX5_init_33 : decode cX5_init 33 = .ok (.newarray .int, 2) := by decide +kernel
theorem dX5_init_35 : decode cX5_init 35 = .ok (.putfield 19, 3) := by decide +kernel
theorem dX5_init_38 : decode cX5_init 38 = .ok (.aload_n 0, 1) := by decide +kernel
theorem dX5_init_39 : decode cX5_init 39 = .ok (.iconst (-1), 1) := by decide +kernel
theorem dX5_init_40 : decode cX5_init 40 = .ok (.putfield 22, 3) := by decide +kernel
theorem dX5_init_43 : decode cX5_init 43 = .ok (.aload_n 0, 1) := by decide +kernel
theorem dX5_init_44 : decode cX5_init 44 = .ok (.iconst 4, 1) := by decide +kernel
theorem dX5_init_45 : decode cX5_init 45 = .ok (.newarray .int, 2) := by decide +kernel
theorem dX5_init_47 : decode cX5_init 47 = .ok (.putfield 26, 3) := by decide +kernel
theorem dX5_init_50 : decode cX5_init 50 = .ok (.aload_n 0, 1) := by decide +kernel
theorem dX5_init_51 : decode cX5_init 51 = .ok (.iconst 4, 1) := by decide +kernel
theorem dX5_init_52 : decode cX5_init 52 = .ok (.newarray .int, 2) := by decide +kernel
theorem dX5_init_54 : decode cX5_init 54 = .ok (.putfield 29, 3) := by decide +kernel
theorem dX5_init_57 : decode cX5_init 57 = .ok (.aload_n 0, 1) := by decide +kernel
theorem dX5_init_58 : decode cX5_init 58 = .ok (.iconst 4, 1) := by decide +kernel
theorem dX5_init_59 : decode cX5_init 59 = .ok (.newarray .int, 2) := by decide +kernel
theorem dX5_init_61 : decode cX5_init 61 = .ok (.putfield 32, 3) := by decide +kernel
theorem dX5_init_64 : decode cX5_init 64 = .ok (.aload_n 0, 1) := by decide +kernel
theorem dX5_init_65 : decode cX5_init 65 = .ok (.iconst 4, 1) := by decide +kernel
theorem dX5_init_66 : decode cX5_init 66 = .ok (.newarray .int, 2) := by decide +kernel
theorem dX5_init_68 : decode cX5_init 68 = .ok (.putfield 35, 3) := by decide +kernel
theorem dX5_init_71 : decode cX5_init 71 = .ok (.aload_n 0, 1) := by decide +kernel
theorem dX5_init_72 : decode cX5_init 72 = .ok (.iconst 4, 1) := by decide +kernel
theorem dX5_init_73 : decode cX5_init 73 = .ok (.newarray .boolean, 2) := by decide +kernel
theorem dX5_init_75 : decode cX5_init 75 = .ok (.putfield 38, 3) := by decide +kernel
theorem dX5_init_78 : decode cX5_init 78 = .ok (.aload_n 0, 1) := by decide +kernel
theorem dX5_init_79 : decode cX5_init 79 = .ok (.iconst 4, 1) := by decide +kernel
theorem dX5_init_80 : decode cX5_init 80 = .ok (.newarray .boolean, 2) := by decide +kernel
theorem dX5_init_82 : decode cX5_init 82 = .ok (.putfield 42, 3) := by decide +kernel
theorem dX5_init_85 : decode cX5_init 85 = .ok (.aload_n 0, 1) := by decide +kernel
theorem dX5_init_86 : decode cX5_init 86 = .ok (.iconst 4, 1) := by decide +kernel
theorem dX5_init_87 : decode cX5_init 87 = .ok (.newarray .int, 2) := by decide +kernel
theorem dX5_init_89 : decode cX5_init 89 = .ok (.putfield 45, 3) := by decide +kernel
theorem dX5_init_92 : decode cX5_init 92 = .ok (.aload_n 0, 1) := by decide +kernel
theorem dX5_init_93 : decode cX5_init 93 = .ok (.iconst 4, 1) := by decide +kernel
theorem dX5_init_94 : decode cX5_init 94 = .ok (.newarray .int, 2) := by decide +kernel
theorem dX5_init_96 : decode cX5_init 96 = .ok (.putfield 48, 3) := by decide +kernel
theorem dX5_init_99 : decode cX5_init 99 = .ok (.return_, 1) := by decide +kernel
theorem dX5_put_0 : decode cX5_put 0 = .ok (.aload_n 0, 1) := by decide +kernel
theorem dX5_put_1 : decode cX5_put 1 = .ok (.getfield 22, 3) := by decide +kernel
theorem dX5_put_4 : decode cX5_put 4 = .ok (.ifCond .ne 15, 3) := by decide +kernel
theorem dX5_put_7 : decode cX5_put 7 = .ok (.aload_n 0, 1) := by decide +kernel
theorem dX5_put_8 : decode cX5_put 8 = .ok (.iconst (-1), 1) := by decide +kernel
theorem dX5_put_9 : decode cX5_put 9 = .ok (.putfield 22, 3) := by decide +kernel
theorem dX5_put_12 : decode cX5_put 12 = .ok (.aload_n 0, 1) := by decide +kernel
theorem dX5_put_13 : decode cX5_put 13 = .ok (.iconst 1, 1) := by decide +kernel
theorem dX5_put_14 : decode cX5_put 14 = .ok (.putfield 51, 3) := by decide +kernel
theorem dX5_put_17 : decode cX5_put 17 = .ok (.iconst 0, 1) := by decide +kernel
theorem dX5_put_18 : decode cX5_put 18 = .ok (.ireturn, 1) := by decide +kernel
theorem dX5_put_19 : decode cX5_put 19 = .ok (.aload_n 0, 1) := by decide +kernel
theorem dX5_put_20 : decode cX5_put 20 = .ok (.aload_n 0, 1) := by decide +kernel
theorem dX5_put_21 : decode cX5_put 21 = .ok (.getfield 22, 3) := by decide +kernel
theorem dX5_put_24 : decode cX5_put 24 = .ok (.ifCond .le 12, 3) := by decide +kernel
theorem dX5_put_27 : decode cX5_put 27 = .ok (.aload_n 0, 1) := by decide +kernel
theorem dX5_put_28 : decode cX5_put 28 = .ok (.getfield 22, 3) := by decide +kernel
theorem dX5_put_31 : decode cX5_put 31 = .ok (.iconst 1, 1) := by decide +kernel
theorem dX5_put_32 : decode cX5_put 32 = .ok (.isub, 1) := by decide +kernel
theorem dX5_put_33 : decode cX5_put 33 = .ok (.goto 7, 3) := by decide +kernel
theorem dX5_put_36 : decode cX5_put 36 = .ok (.aload_n 0, 1) := by decide +kernel
theorem dX5_put_37 : decode cX5_put 37 = .ok (.getfield 22, 3) := by decide +kernel
theorem dX5_put_40 : decode cX5_put 40 = .ok (.putfield 22, 3) := by decide +kernel
theorem dX5_put_43 : decode cX5_put 43 = .ok (.iconst 0, 1) := by decide +kernel
theorem dX5_put_44 : decode cX5_put 44 = .ok (.istore_n 2, 1) := by decide +kernel
theorem dX5_put_45 : decode cX5_put 45 = .ok (.iload_n 2, 1) := by decide +kernel
theorem dX5_put_46 : decode cX5_put 46 = .ok (.bipush 16, 2) := by decide +kernel
theorem dX5_put_48 : decode cX5_put 48 = .ok (.if_icmp .ge 26, 3) := by decide +kernel
theorem dX5_put_51 : decode cX5_put 51 = .ok (.aload_n 0, 1) := by decide +kernel
theorem dX5_put_52 : decode cX5_put 52 = .ok (.getfield 7, 3) := by decide +kernel
theorem dX5_put_55 : decode cX5_put 55 = .ok (.bipush 16, 2) := by decide +kernel
theorem dX5_put_57 : decode cX5_put 57 = .ok (.iload_n 1, 1) := by decide +kernel
theorem dX5_put_58 : decode cX5_put 58 = .ok (.imul, 1) := by decide +kernel
theorem dX5_put_59 : decode cX5_put 59 = .ok (.iload_n 2, 1) := by decide +kernel
theorem dX5_put_60 : decode cX5_put 60 = .ok (.iadd, 1) := by decide +kernel
theorem dX5_put_61 : decode cX5_put 61 = .ok (.aload_n 0, 1) := by decide +kernel
theorem dX5_put_62 : decode cX5_put 62 = .ok (.getfield 16, 3) := by decide +kernel
theorem dX5_put_65 : decode cX5_put 65 = .ok (.iload_n 2, 1) := by decide +kernel
theorem dX5_put_66 : decode cX5_put 66 = .ok (.iaload, 1) := by decide +kernel
theorem dX5_put_67 : decode cX5_put 67 = .ok (.iastore, 1) := by decide +kernel
theorem dX5_put_68 : decode cX5_put 68 = .ok (.iinc 2 1, 3) := by decide +kernel
theorem dX5_put_71 : decode cX5_put 71 = .ok (.goto (-26), 3) := by decide +kernel
theorem dX5_put_74 : decode cX5_put 74 = .ok (.aload_n 0, 1) := by decide +kernel
theorem dX5_put_75 : decode cX5_put 75 = .ok (.dup, 1) := by decide +kernel
theorem dX5_put_76 : decode cX5_put 76 = .ok (.getfield 55, 3) := by decide +kernel
theorem dX5_put_79 : decode cX5_put 79 = .ok (.iconst 1, 1) := by decide +kernel
theorem dX5_put_80 : decode cX5_put 80 = .ok (.iadd, 1) := by decide +kernel
theorem dX5_put_81 : decode cX5_put 81 = .ok (.putfield 55, 3) := by decide +kernel
theorem dX5_put_84 : decode cX5_put 84 = .ok (.iconst 1, 1) := by decide +kernel
theorem dX5_put_85 : decode cX5_put 85 = .ok (.ireturn, 1) := by decide +kernel
set_option maxRecDepth 20000 in
theorem ggX5_putFromDisk_X5_put : GoodIn wsX5_putFromDisk wsX5_put := goodIn_r _ [7, 8, 9, 2, 1, 10, 11, 12, 13, 14, 15, 16, 17, 18, 19, 20, 21, 22, 23, 24, 25, 26, 27, 28] (by decide +kernel) (by decide +kernel)
set_option maxRecDepth 20000 in
theorem gX5_putFromDisk_X5_put : GoodIn wsX5_putFromDisk (wsV RX5 58 RX5 yX5_put wsX5_put) := goodIn_app (goodIn_of _ (by decide +kernel)) ggX5_putFromDisk_X5_put
theorem dX5_putFromDisk_0 : decode cX5_putFromDisk 0 = .ok (.iconst 0, 1) := by decide +kernel
theorem dX5_putFromDisk_1 : decode cX5_putFromDisk 1 = .ok (.istore_n 3, 1) := by decide +kernel
theorem dX5_putFromDisk_2 : decode cX5_putFromDisk 2 = .ok (.iload_n 3, 1) := by decide +kernel
theorem dX5_putFromDisk_3 : decode cX5_putFromDisk 3 = .ok (.bipush 16, 2) := by decide +kernel
theorem dX5_putFromDisk_5 : decode cX5_putFromDisk 5 = .ok (.if_icmp .ge 26, 3) := by decide +kernel
theorem dX5_putFromDisk_8 : decode cX5_putFromDisk 8 = .ok (.aload_n 0, 1) := by decide +kernel
theorem dX5_putFromDisk_9 : decode cX5_putFromDisk 9 = .ok (.getfield 16, 3) := by decide +kernel
theorem dX5_putFromDisk_12 : decode cX5_putFromDisk 12 = .ok (.iload_n 3, 1) := by decide +kernel
theorem dX5_putFromDisk_13 : decode cX5_putFromDisk 13 = .ok (.aload_n 0, 1) := by decide +kernel
theorem dX5_putFromDisk_14 : decode cX5_putFromDisk 14 = .ok (.getfield 7, 3) := by decide +kernel
theorem dX5_putFromDisk_17 : decode cX5_putFromDisk 17 = .ok (.bipush 16, 2) := by decide +kernel
theorem dX5_putFromDisk_19 : decode cX5_putFromDisk 19 = .ok (.iload_n 2, 1) := by decide +kernel
theorem dX5_putFromDisk_20 : decode cX5_putFromDisk 20 = .ok (.imul, 1) := by decide +kernel
theorem dX5_putFromDisk_21 : decode cX5_putFromDisk 21 = .ok (.iload_n 3, 1) := by decide +kernel
theorem dX5_putFromDisk_22 : decode cX5_putFromDisk 22 = .ok (.iadd, 1) := by decide +kernel
theorem dX5_putFromDisk_23 : decode cX5_putFromDisk 23 = .ok (.iaload, 1) := by decide +kernel
theorem dX5_putFromDisk_24 : decode cX5_putFromDisk 24 = .ok (.iastore, 1) := by decide +kernel
theorem dX5_putFromDisk_25 : decode cX5_putFromDisk 25 = .ok (.iinc 3 1, 3) := by decide +kernel
theorem dX5_putFromDisk_28 : decode cX5_putFromDisk 28 = .ok (.goto (-26), 3) := by decide +kernel
theorem dX5_putFromDisk_31 : decode cX5_putFromDisk 31 = .ok (.aload_n 0, 1) := by decide +kernel
theorem dX5_putFromDisk_32 : decode cX5_putFromDisk 32 = .ok (.iload_n 1, 1) := by decide +kernel
theorem dX5_putFromDisk_33 : decode cX5_putFromDisk 33 = .ok (.invokevirtual 58, 3) := by decide +kernel
theorem dX5_putFromDisk_36 : decode cX5_putFromDisk 36 = .ok (.ireturn, 1) := by decide +kernel
set_option maxRecDepth 20000 in
theorem ggX5_putFromMemory_X5_put : GoodIn wsX5_putFromMemory wsX5_put := goodIn_r _ [7, 8, 9, 10, 1, 11, 12, 13, 14, 15, 16, 17, 18, 19, 20, 21, 22, 23, 24, 25, 26, 27, 28, 29] (by decide +kernel) (by decide +kernel)
set_option maxRecDepth 20000 in
theorem gX5_putFromMemory_X5_put : GoodIn wsX5_putFromMemory (wsV RX5 58 RX5 yX5_put wsX5_put) := goodIn_app (goodIn_of _ (by decide +kernel)) ggX5_putFromMemory_X5_put
theorem dX5_putFromMemory_0 : decode cX5_putFromMemory 0 = .ok (.iconst 0, 1) := by decide +kernel
theorem dX5_putFromMemory_1 : decode cX5_putFromMemory 1 = .ok (.istore_n 2, 1) := by decide +kernel
theorem dX5_putFromMemory_2 : decode cX5_putFromMemory 2 = .ok (.iload_n 2, 1) := by decide +kernel
theorem dX5_putFromMemory_3 : decode cX5_putFromMemory 3 = .ok (.bipush 16, 2) := by decide +kernel
theorem dX5_putFromMemory_5 : decode cX5_putFromMemory 5 = .ok (.if_icmp .ge 26, 3) := by decide +kernel
theorem dX5_putFromMemory_8 : decode cX5_putFromMemory 8 = .ok (.aload_n 0, 1) := by decide +kernel
theorem dX5_putFromMemory_9 : decode cX5_putFromMemory 9 = .ok (.getfield 16, 3) := by decide +kernel
theorem dX5_putFromMemory_12 : decode cX5_putFromMemory 12 = .ok (.iload_n 2, 1) := by decide +kernel
theorem dX5_putFromMemory_13 : decode cX5_putFromMemory 13 = .ok (.aload_n 0, 1) := by decide +kernel
theorem dX5_putFromMemory_14 : decode cX5_putFromMemory 14 = .ok (.getfield 13, 3) := by decide +kernel
theorem dX5_putFromMemory_17 : decode cX5_putFromMemory 17 = .ok (.bipush 16, 2) := by decide +kernel
theorem dX5_putFromMemory_19 : decode cX5_putFromMemory 19 = .ok (.iload_n 1, 1) := by decide +kernel
theorem dX5_putFromMemory_20 : decode cX5_putFromMemory 20 = .ok (.imul, 1) := by decide +kernel
theorem dX5_putFromMemory_21 : decode cX5_putFromMemory 21 = .ok (.iload_n 2, 1) := by decide +kernel
theorem dX5_putFromMemory_22 : decode cX5_putFromMemory 22 = .ok (.iadd, 1) := by decide +kernel
theorem dX5_putFromMemory_23 : decode cX5_putFromMemory 23 = .ok (.iaload, 1) := by decide +kernel
theorem dX5_putFromMemory_24 : decode cX5_putFromMemory 24 = .ok (.iastore, 1) := by decide +kernel
theorem dX5_putFromMemory_25 : decode cX5_putFromMemory 25 = .ok (.iinc 2 1, 3) := by decide +kernel
theorem dX5_putFromMemory_28 : decode cX5_putFromMemory 28 = .ok (.goto (-26), 3) := by decide +kernel
theorem dX5_putFromMemory_31 : decode cX5_putFromMemory 31 = .ok (.aload_n 0, 1) := by decide +kernel
theorem dX5_putFromMemory_32 : decode cX5_putFromMemory 32 = .ok (.iload_n 1, 1) := by decide +kernel
theorem dX5_putFromMemory_33 : decode cX5_putFromMemory 33 = .ok (.invokevirtual 58, 3) := by decide +kernel
theorem dX5_putFromMemory_36 : decode cX5_putFromMemory 36 = .ok (.ireturn, 1) := by decide +kernel
set_option maxRecDepth 20000 in
theorem ggX5_putHead_X5_check : GoodIn wsX5_putHead wsX5_check := goodIn_r _ [6, 7, 15, 16, 17, 18, 19, 20, 21, 22, 23, 24, 25, 26, 27, 28, 29, 30, 31, 32] (by decide +kernel) (by decide +kernel)
set_option maxRecDepth 20000 in
theorem gX5_putHead_X5_check : GoodIn wsX5_putHead (wsV RX5 62 RX5 yX5_check wsX5_check) := goodIn_app (goodIn_of _ (by decide +kernel)) ggX5_putHead_X5_check
set_option maxRecDepth 20000 in
theorem ggX5_putHead_X5_put : GoodIn wsX5_putHead wsX5_put := goodIn_r _ [11, 12, 13, 7, 1, 14, 15, 16, 17, 18, 19, 20, 21, 22, 23, 24, 25, 26, 27, 28, 29, 30, 31, 32] (by decide +kernel) (by decide +kernel)
set_option maxRecDepth 20000 in
theorem gX5_putHead_X5_put : GoodIn wsX5_putHead (wsV RX5 58 RX5 yX5_put wsX5_put) := goodIn_app (goodIn_of _ (by decide +kernel)) ggX5_putHead_X5_put
theorem dX5_putHead_0 : decode cX5_putHead 0 = .ok (.iconst 0, 1) := by decide +kernel
theorem dX5_putHead_1 : decode cX5_putHead 1 = .ok (.istore_n 3, 1) := by decide +kernel
theorem dX5_putHead_2 : decode cX5_putHead 2 = .ok (.iload_n 3, 1) := by decide +kernel
theorem dX5_putHead_3 : decode cX5_putHead 3 = .ok (.bipush 16, 2) := by decide +kernel
theorem dX5_putHead_5 : decode cX5_putHead 5 = .ok (.if_icmp .ge 16, 3) := by decide +kernel
theorem dX5_putHead_8 : decode cX5_putHead 8 = .ok (.aload_n 0, 1) := by decide +kernel
theorem dX5_putHead_9 : decode cX5_putHead 9 = .ok (.getfield 16, 3) := by decide +kernel
theorem dX5_putHead_12 : decode cX5_putHead 12 = .ok (.iload_n 3, 1) := by decide +kernel
theorem dX5_putHead_13 : decode cX5_putHead 13 = .ok (.iconst 0, 1) := by decide +kernel
theorem dX5_putHead_14 : decode cX5_putHead 14 = .ok (.iastore, 1) := by decide +kernel
theorem dX5_putHead_15 : decode cX5_putHead 15 = .ok (.iinc 3 1, 3) := by decide +kernel
theorem dX5_putHead_18 : decode cX5_putHead 18 = .ok (.goto (-16), 3) := by decide +kernel
theorem dX5_putHead_21 : decode cX5_putHead 21 = .ok (.iload_n 1, 1) := by decide +kernel
theorem dX5_putHead_22 : decode cX5_putHead 22 = .ok (.ifCond .le 37, 3) := by decide +kernel
theorem dX5_putHead_25 : decode cX5_putHead 25 = .ok (.aload_n 0, 1) := by decide +kernel
theorem dX5_putHead_26 : decode cX5_putHead 26 = .ok (.getfield 16, 3) := by decide +kernel
theorem dX5_putHead_29 : decode cX5_putHead 29 = .ok (.iconst 0, 1) := by decide +kernel
end
section
theorem dX5_putHead_30 : decode cX5_putHead 30 = .ok (.sipush 6517, 3) := by decide +kernel
theorem dX5_putHead_33 : decode cX5_putHead 33 = .ok (.iastore, 1) := by decide +kernel
theorem dX5_putHead_34 : decode cX5_putHead 34 = .ok (.aload_n 0, 1) := by decide +kernel
theorem dX5_putHead_35 : decode cX5_putHead 35 = .ok (.getfield 16, 3) := by decide +kernel
theorem dX5_putHead_38 : decode cX5_putHead 38 = .ok (.iconst 1, 1) := by decide +kernel
theorem dX5_putHead_39 : decode cX5_putHead 39 = .ok (.iload_n 1, 1) := by decide +kernel
theorem dX5_putHead_40 : decode cX5_putHead 40 = .ok (.iastore, 1) := by decide +kernel
theorem dX5_putHead_41 : decode cX5_putHead 41 = .ok (.aload_n 0, 1) := by decide +kernel
theorem dX5_putHead_42 : decode cX5_putHead 42 = .ok (.getfield 16, 3) := by decide +kernel
theorem dX5_putHead_45 : decode cX5_putHead 45 = .ok (.iconst 2, 1) := by decide +kernel
theorem dX5_putHead_46 : decode cX5_putHead 46 = .ok (.iload_n 2, 1) := by decide +kernel
theorem dX5_putHead_47 : decode cX5_putHead 47 = .ok (.iastore, 1) := by decide +kernel
theorem dX5_putHead_48 : decode cX5_putHead 48 = .ok (.aload_n 0, 1) := by decide +kernel
theorem dX5_putHead_49 : decode cX5_putHead 49 = .ok (.getfield 16, 3) := by decide +kernel
theorem dX5_putHead_52 : decode cX5_putHead 52 = .ok (.iconst 3, 1) := by decide +kernel
theorem dX5_putHead_53 : decode cX5_putHead 53 = .ok (.aload_n 0, 1) := by decide +kernel
theorem dX5_putHead_54 : decode cX5_putHead 54 = .ok (.iload_n 1, 1) := by decide +kernel
theorem dX5_putHead_55 : decode cX5_putHead 55 = .ok (.invokevirtual 62, 3) := by decide +kernel
theorem dX5_putHead_58 : decode cX5_putHead 58 = .ok (.iastore, 1) := by decide +kernel
theorem dX5_putHead_59 : decode cX5_putHead 59 = .ok (.aload_n 0, 1) := by decide +kernel
theorem dX5_putHead_60 : decode cX5_putHead 60 = .ok (.bipush 16, 2) := by decide +kernel
theorem dX5_putHead_62 : decode cX5_putHead 62 = .ok (.invokevirtual 58, 3) := by decide +kernel
theorem dX5_putHead_65 : decode cX5_putHead 65 = .ok (.ireturn, 1) := by decide +kernel
theorem dX5_check_0 : decode cX5_check 0 = .ok (.iconst 1, 1) := by decide +kernel
theorem dX5_check_1 : decode cX5_check 1 = .ok (.istore_n 2, 1) := by decide +kernel
theorem dX5_check_2 : decode cX5_check 2 = .ok (.sipush 272, 3) := by decide +kernel
theorem dX5_check_5 : decode cX5_check 5 = .ok (.istore_n 3, 1) := by decide +kernel
theorem dX5_check_6 : decode cX5_check 6 = .ok (.iload_n 3, 1) := by decide +kernel
theorem dX5_check_7 : decode cX5_check 7 = .ok (.sipush 272, 3) := by decide +kernel
theorem dX5_check_10 : decode cX5_check 10 = .ok (.bipush 16, 2) := by decide +kernel
theorem dX5_check_12 : decode cX5_check 12 = .ok (.iload_n 1, 1) := by decide +kernel
theorem dX5_check_13 : decode cX5_check 13 = .ok (.imul, 1) := by decide +kernel
theorem dX5_check_14 : decode cX5_check 14 = .ok (.iadd, 1) := by decide +kernel
theorem dX5_check_15 : decode cX5_check 15 = .ok (.if_icmp .ge 21, 3) := by decide +kernel
theorem dX5_check_18 : decode cX5_check 18 = .ok (.bipush 31, 2) := by decide +kernel
theorem dX5_check_20 : decode cX5_check 20 = .ok (.iload_n 2, 1) := by decide +kernel
theorem dX5_check_21 : decode cX5_check 21 = .ok (.imul, 1) := by decide +kernel
theorem dX5_check_22 : decode cX5_check 22 = .ok (.aload_n 0, 1) := by decide +kernel
theorem dX5_check_23 : decode cX5_check 23 = .ok (.getfield 7, 3) := by decide +kernel
theorem dX5_check_26 : decode cX5_check 26 = .ok (.iload_n 3, 1) := by decide +kernel
theorem dX5_check_27 : decode cX5_check 27 = .ok (.iaload, 1) := by decide +kernel
theorem dX5_check_28 : decode cX5_check 28 = .ok (.iadd, 1) := by decide +kernel
theorem dX5_check_29 : decode cX5_check 29 = .ok (.istore_n 2, 1) := by decide +kernel
theorem dX5_check_30 : decode cX5_check 30 = .ok (.iinc 3 1, 3) := by decide +kernel
theorem dX5_check_33 : decode cX5_check 33 = .ok (.goto (-27), 3) := by decide +kernel
theorem dX5_check_36 : decode cX5_check 36 = .ok (.iload_n 2, 1) := by decide +kernel
theorem dX5_check_37 : decode cX5_check 37 = .ok (.ireturn, 1) := by decide +kernel
theorem dX5_bits_0 : decode cX5_bits 0 = .ok (.iconst 0, 1) := by decide +kernel
theorem dX5_bits_1 : decode cX5_bits 1 = .ok (.istore_n 1, 1) := by decide +kernel
theorem dX5_bits_2 : decode cX5_bits 2 = .ok (.iconst 0, 1) := by decide +kernel
theorem dX5_bits_3 : decode cX5_bits 3 = .ok (.istore_n 2, 1) := by decide +kernel
theorem dX5_bits_4 : decode cX5_bits 4 = .ok (.iload_n 2, 1) := by decide +kernel
theorem dX5_bits_5 : decode cX5_bits 5 = .ok (.bipush 32, 2) := by decide +kernel
theorem dX5_bits_7 : decode cX5_bits 7 = .ok (.if_icmp .ge 17, 3) := by decide +kernel
theorem dX5_bits_10 : decode cX5_bits 10 = .ok (.iload_n 1, 1) := by decide +kernel
theorem dX5_bits_11 : decode cX5_bits 11 = .ok (.iload_n 0, 1) := by decide +kernel
theorem dX5_bits_12 : decode cX5_bits 12 = .ok (.iload_n 2, 1) := by decide +kernel
theorem dX5_bits_13 : decode cX5_bits 13 = .ok (.ishr, 1) := by decide +kernel
theorem dX5_bits_14 : decode cX5_bits 14 = .ok (.iconst 1, 1) := by decide +kernel
theorem dX5_bits_15 : decode cX5_bits 15 = .ok (.iand, 1) := by decide +kernel
theorem dX5_bits_16 : decode cX5_bits 16 = .ok (.iadd, 1) := by decide +kernel
theorem dX5_bits_17 : decode cX5_bits 17 = .ok (.istore_n 1, 1) := by decide +kernel
theorem dX5_bits_18 : decode cX5_bits 18 = .ok (.iinc 2 1, 3) := by decide +kernel
theorem dX5_bits_21 : decode cX5_bits 21 = .ok (.goto (-17), 3) := by decide +kernel
theorem dX5_bits_24 : decode cX5_bits 24 = .ok (.iload_n 1, 1) := by decide +kernel
theorem dX5_bits_25 : decode cX5_bits 25 = .ok (.ireturn, 1) := by decide +kernel
theorem dX5_changed_0 : decode cX5_changed 0 = .ok (.iconst 0, 1) := by decide +kernel
theorem dX5_changed_1 : decode cX5_changed 1 = .ok (.istore_n 1, 1) := by decide +kernel
theorem dX5_changed_2 : decode cX5_changed 2 = .ok (.iconst 0, 1) := by decide +kernel
theorem dX5_changed_3 : decode cX5_changed 3 = .ok (.istore_n 2, 1) := by decide +kernel
theorem dX5_changed_4 : decode cX5_changed 4 = .ok (.iload_n 2, 1) := by decide +kernel
theorem dX5_changed_5 : decode cX5_changed 5 = .ok (.sipush 256, 3) := by decide +kernel
theorem dX5_changed_8 : decode cX5_changed 8 = .ok (.if_icmp .ge 37, 3) := by decide +kernel
theorem dX5_changed_11 : decode cX5_changed 11 = .ok (.aload_n 0, 1) := by decide +kernel
theorem dX5_changed_12 : decode cX5_changed 12 = .ok (.getfield 7, 3) := by decide +kernel
theorem dX5_changed_15 : decode cX5_changed 15 = .ok (.iload_n 2, 1) := by decide +kernel
theorem dX5_changed_16 : decode cX5_changed 16 = .ok (.iaload, 1) := by decide +kernel
theorem dX5_changed_17 : decode cX5_changed 17 = .ok (.aload_n 0, 1) := by decide +kernel
theorem dX5_changed_18 : decode cX5_changed 18 = .ok (.getfield 13, 3) := by decide +kernel
theorem dX5_changed_21 : decode cX5_changed 21 = .ok (.iload_n 2, 1) := by decide +kernel
theorem dX5_changed_22 : decode cX5_changed 22 = .ok (.iaload, 1) := by decide +kernel
theorem dX5_changed_23 : decode cX5_changed 23 = .ok (.if_icmp .eq 14, 3) := by decide +kernel
theorem dX5_changed_26 : decode cX5_changed 26 = .ok (.iload_n 1, 1) := by decide +kernel
theorem dX5_changed_27 : decode cX5_changed 27 = .ok (.iconst 1, 1) := by decide +kernel
theorem dX5_changed_28 : decode cX5_changed 28 = .ok (.iload_n 2, 1) := by decide +kernel
theorem dX5_changed_29 : decode cX5_changed 29 = .ok (.bipush 16, 2) := by decide +kernel
theorem dX5_changed_31 : decode cX5_changed 31 = .ok (.idiv, 1) := by decide +kernel
theorem dX5_changed_32 : decode cX5_changed 32 = .ok (.ishl, 1) := by decide +kernel
theorem dX5_changed_33 : decode cX5_changed 33 = .ok (.ior, 1) := by decide +kernel
theorem dX5_changed_34 : decode cX5_changed 34 = .ok (.goto 4, 3) := by decide +kernel
theorem dX5_changed_37 : decode cX5_changed 37 = .ok (.iload_n 1, 1) := by decide +kernel
theorem dX5_changed_38 : decode cX5_changed 38 = .ok (.istore_n 1, 1) := by decide +kernel
theorem dX5_changed_39 : decode cX5_changed 39 = .ok (.iinc 2 1, 3) := by decide +kernel
theorem dX5_changed_42 : decode cX5_changed 42 = .ok (.goto (-38), 3) := by decide +kernel
theorem dX5_changed_45 : decode cX5_changed 45 = .ok (.iload_n 1, 1) := by decide +kernel
theorem dX5_changed_46 : decode cX5_changed 46 = .ok (.ireturn, 1) := by decide +kernel
set_option maxRecDepth 20000 in
theorem ggX5_commit_X5_changed : GoodIn wsX5_commit wsX5_changed := goodIn_r _ [7, 8, 9, 33, 34, 35, 36, 37, 38, 39, 40, 41, 42, 43, 44, 45, 46, 47, 48, 49, 50] (by decide +kernel) (by decide +kernel)
set_option maxRecDepth 20000 in
theorem gX5_commit_X5_changed : GoodIn wsX5_commit (wsV RX5 69 RX5 yX5_changed wsX5_changed) := goodIn_app (goodIn_of _ (by decide +kernel)) ggX5_commit_X5_changed
set_option maxRecDepth 20000 in
theorem ggX5_commit_X5_putFromDisk : GoodIn wsX5_commit wsX5_putFromDisk := goodIn_r _ [13, 14, 8, 15, 16, 17, 6, 18, 19, 1, 20, 33, 34, 35, 36, 37, 38, 39, 40, 41, 42, 43, 44, 45, 46, 47, 48, 49, 50] (by decide +kernel) (by decide +kernel)
set_option maxRecDepth 20000 in
theorem gX5_commit_X5_putFromDisk : GoodIn wsX5_commit (wsV RX5 73 RX5 yX5_putFromDisk wsX5_putFromDisk) := goodIn_app (goodIn_of _ (by decide +kernel)) ggX5_commit_X5_putFromDisk
set_option maxRecDepth 20000 in
theorem ggX5_commit_X5_putHead : GoodIn wsX5_commit wsX5_putHead := goodIn_r _ [24, 14, 25, 26, 27, 6, 28, 8, 15, 16, 17, 18, 19, 1, 20, 33, 34, 35, 36, 37, 38, 39, 40, 41, 42, 43, 44, 45, 46, 47, 48, 49, 50] (by decide +kernel) (by decide +kernel)
set_option maxRecDepth 20000 in
theorem gX5_commit_X5_putHead : GoodIn wsX5_commit (wsV RX5 77 RX5 yX5_putHead wsX5_putHead) := goodIn_app (goodIn_of _ (by decide +kernel)) ggX5_commit_X5_putHead
set_option maxRecDepth 20000 in
theorem ggX5_commit_X5_putFromMemory : GoodIn wsX5_commit wsX5_putFromMemory := goodIn_r _ [32, 14, 9, 15, 16, 17, 6, 18, 19, 1, 8, 20, 33, 34, 35, 36, 37, 38, 39, 40, 41, 42, 43, 44, 45, 46, 47, 48, 49, 50] (by decide +kernel) (by decide +kernel)
set_option maxRecDepth 20000 in
theorem gX5_commit_X5_putFromMemory : GoodIn wsX5_commit (wsV RX5 80 RX5 yX5_putFromMemory wsX5_putFromMemory) := goodIn_app (goodIn_of _ (by decide +kernel)) ggX5_commit_X5_putFromMemory
theorem dX5_commit_0 : decode cX5_commit 0 = .ok (.aload_n 0, 1) := by decide +kernel
theorem dX5_commit_1 : decode cX5_commit 1 = .ok (.getfield 51, 3) := by decide +kernel
theorem dX5_commit_4 : decode cX5_commit 4 = .ok (.ifCond .eq 5, 3) := by decide +kernel
theorem dX5_commit_7 : decode cX5_commit 7 = .ok (.iconst (-1), 1) := by decide +kernel
theorem dX5_commit_8 : decode cX5_commit 8 = .ok (.ireturn, 1) := by decide +kernel
theorem dX5_commit_9 : decode cX5_commit 9 = .ok (.aload_n 0, 1) := by decide +kernel
theorem dX5_commit_10 : decode cX5_commit 10 = .ok (.getfield 66, 3) := by decide +kernel
theorem dX5_commit_13 : decode cX5_commit 13 = .ok (.ifCond .ne 6, 3) := by decide +kernel
theorem dX5_commit_16 : decode cX5_commit 16 = .ok (.bipush (-2), 2) := by decide +kernel
theorem dX5_commit_18 : decode cX5_commit 18 = .ok (.ireturn, 1) := by decide +kernel
theorem dX5_commit_19 : decode cX5_commit 19 = .ok (.aload_n 0, 1) := by decide +kernel
theorem dX5_commit_20 : decode cX5_commit 20 = .ok (.invokevirtual 69, 3) := by decide +kernel
theorem dX5_commit_23 : decode cX5_commit 23 = .ok (.istore_n 1, 1) := by decide +kernel
theorem dX5_commit_24 : decode cX5_commit 24 = .ok (.iconst 0, 1) := by decide +kernel
theorem dX5_commit_25 : decode cX5_commit 25 = .ok (.istore_n 2, 1) := by decide +kernel
theorem dX5_commit_26 : decode cX5_commit 26 = .ok (.iconst 1, 1) := by decide +kernel
theorem dX5_commit_27 : decode cX5_commit 27 = .ok (.istore_n 3, 1) := by decide +kernel
theorem dX5_commit_28 : decode cX5_commit 28 = .ok (.iconst 0, 1) := by decide +kernel
theorem dX5_commit_29 : decode cX5_commit 29 = .ok (.istore 4, 2) := by decide +kernel
theorem dX5_commit_31 : decode cX5_commit 31 = .ok (.iload 4, 2) := by decide +kernel
theorem dX5_commit_33 : decode cX5_commit 33 = .ok (.bipush 16, 2) := by decide +kernel
theorem dX5_commit_35 : decode cX5_commit 35 = .ok (.if_icmp .ge 45, 3) := by decide +kernel
theorem dX5_commit_38 : decode cX5_commit 38 = .ok (.iload_n 1, 1) := by decide +kernel
theorem dX5_commit_39 : decode cX5_commit 39 = .ok (.iload 4, 2) := by decide +kernel
theorem dX5_commit_41 : decode cX5_commit 41 = .ok (.ishr, 1) := by decide +kernel
theorem dX5_commit_42 : decode cX5_commit 42 = .ok (.iconst 1, 1) := by decide +kernel
theorem dX5_commit_43 : decode cX5_commit 43 = .ok (.iand, 1) := by decide +kernel
theorem dX5_commit_44 : decode cX5_commit 44 = .ok (.iconst 1, 1) := by decide +kernel
theorem dX5_commit_45 : decode cX5_commit 45 = .ok (.if_icmp .ne 29, 3) := by decide +kernel
theorem dX5_commit_48 : decode cX5_commit 48 = .ok (.iload_n 3, 1) := by decide +kernel
theorem dX5_commit_49 : decode cX5_commit 49 = .ok (.ifCond .eq 20, 3) := by decide +kernel
theorem dX5_commit_52 : decode cX5_commit 52 = .ok (.aload_n 0, 1) := by decide +kernel
theorem dX5_commit_53 : decode cX5_commit 53 = .ok (.bipush 17, 2) := by decide +kernel
theorem dX5_commit_55 : decode cX5_commit 55 = .ok (.iload_n 2, 1) := by decide +kernel
theorem dX5_commit_56 : decode cX5_commit 56 = .ok (.iadd, 1) := by decide +kernel
theorem dX5_commit_57 : decode cX5_commit 57 = .ok (.iload 4, 2) := by decide +kernel
theorem dX5_commit_59 : decode cX5_commit 59 = .ok (.invokevirtual 73, 3) := by decide +kernel
theorem dX5_commit_62 : decode cX5_commit 62 = .ok (.ifCond .eq 7, 3) := by decide +kernel
theorem dX5_commit_65 : decode cX5_commit 65 = .ok (.iconst 1, 1) := by decide +kernel
theorem dX5_commit_66 : decode cX5_commit 66 = .ok (.goto 4, 3) := by decide +kernel
theorem dX5_commit_69 : decode cX5_commit 69 = .ok (.iconst 0, 1) := by decide +kernel
theorem dX5_commit_70 : decode cX5_commit 70 = .ok (.istore_n 3, 1) := by decide +kernel
theorem dX5_commit_71 : decode cX5_commit 71 = .ok (.iinc 2 1, 3) := by decide +kernel
theorem dX5_commit_74 : decode cX5_commit 74 = .ok (.iinc 4 1, 3) := by decide +kernel
theorem dX5_commit_77 : decode cX5_commit 77 = .ok (.goto (-46), 3) := by decide +kernel
theorem dX5_commit_80 : decode cX5_commit 80 = .ok (.iload_n 2, 1) := by decide +kernel
theorem dX5_commit_81 : decode cX5_commit 81 = .ok (.ifCond .le 85, 3) := by decide +kernel
theorem dX5_commit_84 : decode cX5_commit 84 = .ok (.iload_n 3, 1) := by decide +kernel
theorem dX5_commit_85 : decode cX5_commit 85 = .ok (.ifCond .eq 16, 3) := by decide +kernel
theorem dX5_commit_88 : decode cX5_commit 88 = .ok (.aload_n 0, 1) := by decide +kernel
theorem dX5_commit_89 : decode cX5_commit 89 = .ok (.iload_n 2, 1) := by decide +kernel
theorem dX5_commit_90 : decode cX5_commit 90 = .ok (.iload_n 1, 1) := by decide +kernel
theorem dX5_commit_91 : decode cX5_commit 91 = .ok (.invokevirtual 77, 3) := by decide +kernel
theorem dX5_commit_94 : decode cX5_commit 94 = .ok (.ifCond .eq 7, 3) := by decide +kernel
theorem dX5_commit_97 : decode cX5_commit 97 = .ok (.iconst 1, 1) := by decide +kernel
theorem dX5_commit_98 : decode cX5_commit 98 = .ok (.goto 4, 3) := by decide +kernel
theorem dX5_commit_101 : decode cX5_commit 101 = .ok (.iconst 0, 1) := by decide +kernel
theorem dX5_commit_102 : decode cX5_commit 102 = .ok (.istore_n 3, 1) := by decide +kernel
theorem dX5_commit_103 : decode cX5_commit 103 = .ok (.iconst 0, 1) := by decide +kernel
theorem dX5_commit_104 : decode cX5_commit 104 = .ok (.istore 4, 2) := by decide +kernel
theorem dX5_commit_106 : decode cX5_commit 106 = .ok (.iload 4, 2) := by decide +kernel
theorem dX5_commit_108 : decode cX5_commit 108 = .ok (.bipush 16, 2) := by decide +kernel
theorem dX5_commit_110 : decode cX5_commit 110 = .ok (.if_icmp .ge 37, 3) := by decide +kernel
theorem dX5_commit_113 : decode cX5_commit 113 = .ok (.iload_n 3, 1) := by decide +kernel
theorem dX5_commit_114 : decode cX5_commit 114 = .ok (.ifCond .eq 25, 3) := by decide +kernel
theorem dX5_commit_117 : decode cX5_commit 117 = .ok (.iload_n 1, 1) := by decide +kernel
theorem dX5_commit_118 : decode cX5_commit 118 = .ok (.iload 4, 2) := by decide +kernel
theorem dX5_commit_120 : decode cX5_commit 120 = .ok (.ishr, 1) := by decide +kernel
theorem dX5_commit_121 : decode cX5_commit 121 = .ok (.iconst 1, 1) := by decide +kernel
theorem dX5_commit_122 : decode cX5_commit 122 = .ok (.iand, 1) := by decide +kernel
theorem dX5_commit_123 : decode cX5_commit 123 = .ok (.ifCond .eq 12, 3) := by decide +kernel
theorem dX5_commit_126 : decode cX5_commit 126 = .ok (.aload_n 0, 1) := by decide +kernel
theorem dX5_commit_127 : decode cX5_commit 127 = .ok (.iload 4, 2) := by decide +kernel
theorem dX5_commit_129 : decode cX5_commit 129 = .ok (.invokevirtual 80, 3) := by decide +kernel
theorem dX5_commit_132 : decode cX5_commit 132 = .ok (.ifCond .eq 7, 3) := by decide +kernel
theorem dX5_commit_135 : decode cX5_commit 135 = .ok (.iconst 1, 1) := by decide +kernel
theorem dX5_commit_136 : decode cX5_commit 136 = .ok (.goto 4, 3) := by decide +kernel
theorem dX5_commit_139 : decode cX5_commit 139 = .ok (.iconst 0, 1) := by decide +kernel
theorem dX5_commit_140 : decode cX5_commit 140 = .ok (.istore_n 3, 1) := by decide +kernel
theorem dX5_commit_141 : decode cX5_commit 141 = .ok (.iinc 4 1, 3) := by decide +kernel
theorem dX5_commit_144 : decode cX5_commit 144 = .ok (.goto (-38), 3) := by decide +kernel
theorem dX5_commit_147 : decode cX5_commit 147 = .ok (.iload_n 3, 1) := by decide +kernel
theorem dX5_commit_148 : decode cX5_commit 148 = .ok (.ifCond .eq 16, 3) := by decide +kernel
theorem dX5_commit_151 : decode cX5_commit 151 = .ok (.aload_n 0, 1) := by decide +kernel
theorem dX5_commit_152 : decode cX5_commit 152 = .ok (.iconst 0, 1) := by decide +kernel
theorem dX5_commit_153 : decode cX5_commit 153 = .ok (.iconst 0, 1) := by decide +kernel
theorem dX5_commit_154 : decode cX5_commit 154 = .ok (.invokevirtual 77, 3) := by decide +kernel
theorem dX5_commit_157 : decode cX5_commit 157 = .ok (.ifCond .eq 7, 3) := by decide +kernel
theorem dX5_commit_160 : decode cX5_commit 160 = .ok (.iconst 1, 1) := by decide +kernel
theorem dX5_commit_161 : decode cX5_commit 161 = .ok (.goto 4, 3) := by decide +kernel
theorem dX5_commit_164 : decode cX5_commit 164 = .ok (.iconst 0, 1) := by decide +kernel
theorem dX5_commit_165 : decode cX5_commit 165 = .ok (.istore_n 3, 1) := by decide +kernel
theorem dX5_commit_166 : decode cX5_commit 166 = .ok (.iload_n 3, 1) := by decide +kernel
theorem dX5_commit_167 : decode cX5_commit 167 = .ok (.ifCond .ne 5, 3) := by decide +kernel
theorem dX5_commit_170 : decode cX5_commit 170 = .ok (.iconst (-1), 1) := by decide +kernel
theorem dX5_commit_171 : decode cX5_commit 171 = .ok (.ireturn, 1) := by decide +kernel
theorem dX5_commit_172 : decode cX5_commit 172 = .ok (.aload_n 0, 1) := by decide +kernel
theorem dX5_commit_173 : decode cX5_commit 173 = .ok (.iconst 0, 1) := by decide +kernel
theorem dX5_commit_174 : decode cX5_commit 174 = .ok (.putfield 66, 3) := by decide +kernel
theorem dX5_commit_177 : decode cX5_commit 177 = .ok (.iconst 0, 1) := by decide +kernel
theorem dX5_commit_178 : decode cX5_commit 178 = .ok (.ireturn, 1) := by decide +kernel
set_option maxRecDepth 20000 in
theorem ggX5_isHead_X5_bits : GoodIn wsX5_isHead wsX5_bits := goodIn_r _ [6] (by decide +kernel) (by decide +kernel)
set_option maxRecDepth 20000 in
theorem gX5_isHead_X5_bits : GoodIn wsX5_isHead (va_wsS RX5 84 yX5_bits wsX5_bits) := goodIn_app (goodIn_of _ (by decide +kernel)) ggX5_isHead_X5_bits
set_option maxRecDepth 20000 in
theorem ggX5_isHead_X5_check : GoodIn wsX5_isHead wsX5_check := goodIn_r _ [10, 1, 11, 12, 13, 14, 15, 16, 17, 18, 19, 20, 21, 22, 23, 24, 25, 26, 27, 28] (by decide +kernel) (by decide +kernel)
set_option maxRecDepth 20000 in
theorem gX5_isHead_X5_check : GoodIn wsX5_isHead (wsV RX5 62 RX5 yX5_check wsX5_check) := goodIn_app (goodIn_of _ (by decide +kernel)) ggX5_isHead_X5_check
theorem dX5_isHead_0 : decode cX5_isHead 0 = .ok (.aload_n 0, 1) := by decide +kernel
theorem dX5_isHead_1 : decode cX5_isHead 1 = .ok (.getfield 7, 3) := by decide +kernel
theorem dX5_isHead_4 : decode cX5_isHead 4 = .ok (.sipush 257, 3) := by decide +kernel
theorem dX5_isHead_7 : decode cX5_isHead 7 = .ok (.iaload, 1) := by decide +kernel
theorem dX5_isHead_8 : decode cX5_isHead 8 = .ok (.istore_n 1, 1) := by decide +kernel
theorem dX5_isHead_9 : decode cX5_isHead 9 = .ok (.aload_n 0, 1) := by decide +kernel
theorem dX5_isHead_10 : decode cX5_isHead 10 = .ok (.getfield 7, 3) := by decide +kernel
theorem dX5_isHead_13 : decode cX5_isHead 13 = .ok (.sipush 256, 3) := by decide +kernel
theorem dX5_isHead_16 : decode cX5_isHead 16 = .ok (.iaload, 1) := by decide +kernel
theorem dX5_isHead_17 : decode cX5_isHead 17 = .ok (.sipush 6517, 3) := by decide +kernel
theorem dX5_isHead_20 : decode cX5_isHead 20 = .ok (.if_icmp .ne 57, 3) := by decide +kernel
theorem dX5_isHead_23 : decode cX5_isHead 23 = .ok (.iload_n 1, 1) := by decide +kernel
theorem dX5_isHead_24 : decode cX5_isHead 24 = .ok (.iconst 1, 1) := by decide +kernel
theorem dX5_isHead_25 : decode cX5_isHead 25 = .ok (.if_icmp .lt 52, 3) := by decide +kernel
theorem dX5_isHead_28 : decode cX5_isHead 28 = .ok (.iload_n 1, 1) := by decide +kernel
theorem dX5_isHead_29 : decode cX5_isHead 29 = .ok (.bipush 16, 2) := by decide +kernel
theorem dX5_isHead_31 : decode cX5_isHead 31 = .ok (.if_icmp .gt 46, 3) := by decide +kernel
theorem dX5_isHead_34 : decode cX5_isHead 34 = .ok (.aload_n 0, 1) := by decide +kernel
theorem dX5_isHead_35 : decode cX5_isHead 35 = .ok (.getfield 7, 3) := by decide +kernel
theorem dX5_isHead_38 : decode cX5_isHead 38 = .ok (.sipush 258, 3) := by decide +kernel
theorem dX5_isHead_41 : decode cX5_isHead 41 = .ok (.iaload, 1) := by decide +kernel
theorem dX5_isHead_42 : decode cX5_isHead 42 = .ok (.ifCond .lt 35, 3) := by decide +kernel
theorem dX5_isHead_45 : decode cX5_isHead 45 = .ok (.aload_n 0, 1) := by decide +kernel
theorem dX5_isHead_46 : decode cX5_isHead 46 = .ok (.getfield 7, 3) := by decide +kernel
theorem dX5_isHead_49 : decode cX5_isHead 49 = .ok (.sipush 258, 3) := by decide +kernel
theorem dX5_isHead_52 : decode cX5_isHead 52 = .ok (.iaload, 1) := by decide +kernel
theorem dX5_isHead_53 : decode cX5_isHead 53 = .ok (.ldc 83, 2) := by decide +kernel
theorem dX5_isHead_55 : decode cX5_isHead 55 = .ok (.if_icmp .ge 22, 3) := by decide +kernel
theorem dX5_isHead_58 : decode cX5_isHead 58 = .ok (.aload_n 0, 1) := by decide +kernel
theorem dX5_isHead_59 : decode cX5_isHead 59 = .ok (.getfield 7, 3) := by decide +kernel
theorem dX5_isHead_62 : decode cX5_isHead 62 = .ok (.sipush 258, 3) := by decide +kernel
theorem dX5_isHead_65 : decode cX5_isHead 65 = .ok (.iaload, 1) := by decide +kernel
theorem dX5_isHead_66 : decode cX5_isHead 66 = .ok (.invokestatic 84, 3) := by decide +kernel
theorem dX5_isHead_69 : decode cX5_isHead 69 = .ok (.iload_n 1, 1) := by decide +kernel
theorem dX5_isHead_70 : decode cX5_isHead 70 = .ok (.if_icmp .ne 7, 3) := by decide +kernel
theorem dX5_isHead_73 : decode cX5_isHead 73 = .ok (.iconst 1, 1) := by decide +kernel
theorem dX5_isHead_74 : decode cX5_isHead 74 = .ok (.goto 4, 3) := by decide +kernel
theorem dX5_isHead_77 : decode cX5_isHead 77 = .ok (.iconst 0, 1) := by decide +kernel
theorem dX5_isHead_78 : decode cX5_isHead 78 = .ok (.istore_n 2, 1) := by decide +kernel
theorem dX5_isHead_79 : decode cX5_isHead 79 = .ok (.iconst 4, 1) := by decide +kernel
theorem dX5_isHead_80 : decode cX5_isHead 80 = .ok (.istore_n 3, 1) := by decide +kernel
theorem dX5_isHead_81 : decode cX5_isHead 81 = .ok (.iload_n 3, 1) := by decide +kernel
theorem dX5_isHead_82 : decode cX5_isHead 82 = .ok (.bipush 16, 2) := by decide +kernel
theorem dX5_isHead_84 : decode cX5_isHead 84 = .ok (.if_icmp .ge 32, 3) := by decide +kernel
theorem dX5_isHead_87 : decode cX5_isHead 87 = .ok (.iload_n 2, 1) := by decide +kernel
theorem dX5_isHead_88 : decode cX5_isHead 88 = .ok (.ifCond .eq 20, 3) := by decide +kernel
theorem dX5_isHead_91 : decode cX5_isHead 91 = .ok (.aload_n 0, 1) := by decide +kernel
theorem dX5_isHead_92 : decode cX5_isHead 92 = .ok (.getfield 7, 3) := by decide +kernel
theorem dX5_isHead_95 : decode cX5_isHead 95 = .ok (.sipush 256, 3) := by decide +kernel
theorem dX5_isHead_98 : decode cX5_isHead 98 = .ok (.iload_n 3, 1) := by decide +kernel
theorem dX5_isHead_99 : decode cX5_isHead 99 = .ok (.iadd, 1) := by decide +kernel
theorem dX5_isHead_100 : decode cX5_isHead 100 = .ok (.iaload, 1) := by decide +kernel
theorem dX5_isHead_101 : decode cX5_isHead 101 = .ok (.ifCond .ne 7, 3) := by decide +kernel
theorem dX5_isHead_104 : decode cX5_isHead 104 = .ok (.iconst 1, 1) := by decide +kernel
theorem dX5_isHead_105 : decode cX5_isHead 105 = .ok (.goto 4, 3) := by decide +kernel
theorem dX5_isHead_108 : decode cX5_isHead 108 = .ok (.iconst 0, 1) := by decide +kernel
theorem dX5_isHead_109 : decode cX5_isHead 109 = .ok (.istore_n 2, 1) := by decide +kernel
theorem dX5_isHead_110 : decode cX5_isHead 110 = .ok (.iinc 3 1, 3) := by decide +kernel
theorem dX5_isHead_113 : decode cX5_isHead 113 = .ok (.goto (-32), 3) := by decide +kernel
theorem dX5_isHead_116 : decode cX5_isHead 116 = .ok (.iload_n 2, 1) := by decide +kernel
theorem dX5_isHead_117 : decode cX5_isHead 117 = .ok (.ifCond .eq 23, 3) := by decide +kernel
theorem dX5_isHead_120 : decode cX5_isHead 120 = .ok (.aload_n 0, 1) := by decide +kernel
theorem dX5_isHead_121 : decode cX5_isHead 121 = .ok (.getfield 7, 3) := by decide +kernel
theorem dX5_isHead_124 : decode cX5_isHead 124 = .ok (.sipush 259, 3) := by decide +kernel
theorem dX5_isHead_127 : decode cX5_isHead 127 = .ok (.iaload, 1) := by decide +kernel
theorem dX5_isHead_128 : decode cX5_isHead 128 = .ok (.aload_n 0, 1) := by decide +kernel
theorem dX5_isHead_129 : decode cX5_isHead 129 = .ok (.iload_n 1, 1) := by decide +kernel
theorem dX5_isHead_130 : decode cX5_isHead 130 = .ok (.invokevirtual 62, 3) := by decide +kernel
theorem dX5_isHead_133 : decode cX5_isHead 133 = .ok (.if_icmp .ne 7, 3) := by decide +kernel
theorem dX5_isHead_136 : decode cX5_isHead 136 = .ok (.iconst 1, 1) := by decide +kernel
theorem dX5_isHead_137 : decode cX5_isHead 137 = .ok (.goto 4, 3) := by decide +kernel
theorem dX5_isHead_140 : decode cX5_isHead 140 = .ok (.iconst 0, 1) := by decide +kernel
theorem dX5_isHead_141 : decode cX5_isHead 141 = .ok (.ireturn, 1) := by decide +kernel
theorem dX5_copyBack_0 : decode cX5_copyBack 0 = .ok (.iconst 0, 1) := by decide +kernel
theorem dX5_copyBack_1 : decode cX5_copyBack 1 = .ok (.istore_n 1, 1) := by decide +kernel
theorem dX5_copyBack_2 : decode cX5_copyBack 2 = .ok (.iload_n 1, 1) := by decide +kernel
theorem dX5_copyBack_3 : decode cX5_copyBack 3 = .ok (.sipush 256, 3) := by decide +kernel
theorem dX5_copyBack_6 : decode cX5_copyBack 6 = .ok (.if_icmp .ge 21, 3) := by decide +kernel
theorem dX5_copyBack_9 : decode cX5_copyBack 9 = .ok (.aload_n 0, 1) := by decide +kernel
theorem dX5_copyBack_10 : decode cX5_copyBack 10 = .ok (.getfield 13, 3) := by decide +kernel
theorem dX5_copyBack_13 : decode cX5_copyBack 13 = .ok (.iload_n 1, 1) := by decide +kernel
theorem dX5_copyBack_14 : decode cX5_copyBack 14 = .ok (.aload_n 0, 1) := by decide +kernel
theorem dX5_copyBack_15 : decode cX5_copyBack 15 = .ok (.getfield 7, 3) := by decide +kernel
theorem dX5_copyBack_18 : decode cX5_copyBack 18 = .ok (.iload_n 1, 1) := by decide +kernel
theorem dX5_copyBack_19 : decode cX5_copyBack 19 = .ok (.iaload, 1) := by decide +kernel
theorem dX5_copyBack_20 : decode cX5_copyBack 20 = .ok (.iastore, 1) := by decide +kernel
theorem dX5_copyBack_21 : decode cX5_copyBack 21 = .ok (.iinc 1 1, 3) := by decide +kernel
theorem dX5_copyBack_24 : decode cX5_copyBack 24 = .ok (.goto (-22), 3) := by decide +kernel
theorem dX5_copyBack_27 : decode cX5_copyBack 27 = .ok (.aload_n 0, 1) := by decide +kernel
theorem dX5_copyBack_28 : decode cX5_copyBack 28 = .ok (.iconst 0, 1) := by decide +kernel
theorem dX5_copyBack_29 : decode cX5_copyBack 29 = .ok (.putfield 66, 3) := by decide +kernel
theorem dX5_copyBack_32 : decode cX5_copyBack 32 = .ok (.return_, 1) := by decide +kernel
set_option maxRecDepth 20000 in
theorem ggX5_recover_X5_isHead : GoodIn wsX5_recover wsX5_isHead := goodIn_r _ [8, 2, 9, 10, 11, 7, 12, 13, 14, 15, 16, 38, 39, 40, 41, 42, 43, 44, 45, 46, 47, 48, 49, 50, 51, 52, 53, 54, 55] (by decide +kernel) (by decide +kernel)
set_option maxRecDepth 20000 in
theorem gX5_recover_X5_isHead : GoodIn wsX5_recover (wsV RX5 87 RX5 yX5_isHead wsX5_isHead) := goodIn_app (goodIn_of _ (by decide +kernel)) ggX5_recover_X5_isHead
set_option maxRecDepth 20000 in
theorem ggX5_recover_X5_putFromDisk : GoodIn wsX5_recover wsX5_putFromDisk := goodIn_r _ [20, 21, 2, 22, 23, 24, 7, 25, 26, 1, 27, 38, 39, 40, 41, 42, 43, 44, 45, 46, 47, 48, 49, 50, 51, 52, 53, 54, 55] (by decide +kernel) (by decide +kernel)
set_option maxRecDepth 20000 in
theorem gX5_recover_X5_putFromDisk : GoodIn wsX5_recover (wsV RX5 73 RX5 yX5_putFromDisk wsX5_putFromDisk) := goodIn_app (goodIn_of _ (by decide +kernel)) ggX5_recover_X5_putFromDisk
set_option maxRecDepth 20000 in
theorem ggX5_recover_X5_putHead : GoodIn wsX5_recover wsX5_putHead := goodIn_r _ [31, 21, 13, 14, 15, 7, 16, 2, 22, 23, 24, 25, 26, 1, 27, 38, 39, 40, 41, 42, 43, 44, 45, 46, 47, 48, 49, 50, 51, 52, 53, 54, 55] (by decide +kernel) (by decide +kernel)
set_option maxRecDepth 20000 in
theorem gX5_recover_X5_putHead : GoodIn wsX5_recover (wsV RX5 77 RX5 yX5_putHead wsX5_putHead) := goodIn_app (goodIn_of _ (by decide +kernel)) ggX5_recover_X5_putHead
set_option maxRecDepth 20000 in
theorem ggX5_recover_X5_copyBack : GoodIn wsX5_recover wsX5_copyBack := goodIn_r _ [35, 36, 2, 37, 38, 39, 40, 41, 42, 43, 44, 45, 46, 47, 48, 49, 50, 51, 52, 53, 54, 55] (by decide +kernel) (by decide +kernel)
set_option maxRecDepth 20000 in
theorem gX5_recover_X5_copyBack : GoodIn wsX5_recover (wsV RX5 91 RX5 yX5_copyBack wsX5_copyBack) := goodIn_app (goodIn_of _ (by decide +kernel)) ggX5_recover_X5_copyBack
theorem dX5_recover_0 : decode cX5_recover 0 = .ok (.aload_n 0, 1) := by decide +kernel
theorem dX5_recover_1 : decode cX5_recover 1 = .ok (.iconst 0, 1) := by decide +kernel
theorem dX5_recover_2 : decode cX5_recover 2 = .ok (.putfield 51, 3) := by decide +kernel
theorem dX5_recover_5 : decode cX5_recover 5 = .ok (.aload_n 0, 1) := by decide +kernel
theorem dX5_recover_6 : decode cX5_recover 6 = .ok (.invokevirtual 87, 3) := by decide +kernel
theorem dX5_recover_9 : decode cX5_recover 9 = .ok (.ifCond .eq 93, 3) := by decide +kernel
theorem dX5_recover_12 : decode cX5_recover 12 = .ok (.aload_n 0, 1) := by decide +kernel
theorem dX5_recover_13 : decode cX5_recover 13 = .ok (.getfield 7, 3) := by decide +kernel
theorem dX5_recover_16 : decode cX5_recover 16 = .ok (.sipush 258, 3) := by decide +kernel
theorem dX5_recover_19 : decode cX5_recover 19 = .ok (.iaload, 1) := by decide +kernel
theorem dX5_recover_20 : decode cX5_recover 20 = .ok (.istore_n 1, 1) := by decide +kernel
theorem dX5_recover_21 : decode cX5_recover 21 = .ok (.iconst 0, 1) := by decide +kernel
theorem dX5_recover_22 : decode cX5_recover 22 = .ok (.istore_n 2, 1) := by decide +kernel
theorem dX5_recover_23 : decode cX5_recover 23 = .ok (.iconst 1, 1) := by decide +kernel
theorem dX5_recover_24 : decode cX5_recover 24 = .ok (.istore_n 3, 1) := by decide +kernel
theorem dX5_recover_25 : decode cX5_recover 25 = .ok (.iconst 0, 1) := by decide +kernel
theorem dX5_recover_26 : decode cX5_recover 26 = .ok (.istore 4, 2) := by decide +kernel
theorem dX5_recover_28 : decode cX5_recover 28 = .ok (.iload 4, 2) := by decide +kernel
theorem dX5_recover_30 : decode cX5_recover 30 = .ok (.bipush 16, 2) := by decide +kernel
theorem dX5_recover_32 : decode cX5_recover 32 = .ok (.if_icmp .ge 45, 3) := by decide +kernel
theorem dX5_recover_35 : decode cX5_recover 35 = .ok (.iload_n 1, 1) := by decide +kernel
theorem dX5_recover_36 : decode cX5_recover 36 = .ok (.iload 4, 2) := by decide +kernel
theorem dX5_recover_38 : decode cX5_recover 38 = .ok (.ishr, 1) := by decide +kernel
theorem dX5_recover_39 : decode cX5_recover 39 = .ok (.iconst 1, 1) := by decide +kernel
theorem dX5_recover_40 : decode cX5_recover 40 = .ok (.iand, 1) := by decide +kernel
theorem dX5_recover_41 : decode cX5_recover 41 = .ok (.iconst 1, 1) := by decide +kernel
theorem dX5_recover_42 : decode cX5_recover 42 = .ok (.if_icmp .ne 29, 3) := by decide +kernel
theorem dX5_recover_45 : decode cX5_recover 45 = .ok (.iload_n 3, 1) := by decide +kernel
theorem dX5_recover_46 : decode cX5_recover 46 = .ok (.ifCond .eq 20, 3) := by decide +kernel
theorem dX5_recover_49 : decode cX5_recover 49 = .ok (.aload_n 0, 1) := by decide +kernel
theorem dX5_recover_50 : decode cX5_recover 50 = .ok (.iload 4, 2) := by decide +kernel
theorem dX5_recover_52 : decode cX5_recover 52 = .ok (.bipush 17, 2) := by decide +kernel
theorem dX5_recover_54 : decode cX5_recover 54 = .ok (.iload_n 2, 1) := by decide +kernel
theorem dX5_recover_55 : decode cX5_recover 55 = .ok (.iadd, 1) := by decide +kernel
theorem dX5_recover_56 : decode cX5_recover 56 = .ok (.invokevirtual 73, 3) := by decide +kernel
theorem dX5_recover_59 : decode cX5_recover 59 = .ok (.ifCond .eq 7, 3) := by decide +kernel
theorem dX5_recover_62 : decode cX5_recover 62 = .ok (.iconst 1, 1) := by decide +kernel
theorem dX5_recover_63 : decode cX5_recover 63 = .ok (.goto 4, 3) := by decide +kernel
theorem dX5_recover_66 : decode cX5_recover 66 = .ok (.iconst 0, 1) := by decide +kernel
theorem dX5_recover_67 : decode cX5_recover 67 = .ok (.istore_n 3, 1) := by decide +kernel
theorem dX5_recover_68 : decode cX5_recover 68 = .ok (.iinc 2 1, 3) := by decide +kernel
theorem dX5_recover_71 : decode cX5_recover 71 = .ok (.iinc 4 1, 3) := by decide +kernel
theorem dX5_recover_74 : decode cX5_recover 74 = .ok (.goto (-46), 3) := by decide +kernel
theorem dX5_recover_77 : decode cX5_recover 77 = .ok (.iload_n 3, 1) := by decide +kernel
theorem dX5_recover_78 : decode cX5_recover 78 = .ok (.ifCond .eq 16, 3) := by decide +kernel
theorem dX5_recover_81 : decode cX5_recover 81 = .ok (.aload_n 0, 1) := by decide +kernel
theorem dX5_recover_82 : decode cX5_recover 82 = .ok (.iconst 0, 1) := by decide +kernel
theorem dX5_recover_83 : decode cX5_recover 83 = .ok (.iconst 0, 1) := by decide +kernel
theorem dX5_recover_84 : decode cX5_recover 84 = .ok (.invokevirtual 77, 3) := by decide +kernel
theorem dX5_recover_87 : decode cX5_recover 87 = .ok (.ifCond .eq 7, 3) := by decide +kernel
theorem dX5_recover_90 : decode cX5_recover 90 = .ok (.iconst 1, 1) := by decide +kernel
theorem dX5_recover_91 : decode cX5_recover 91 = .ok (.goto 4, 3) := by decide +kernel
theorem dX5_recover_94 : decode cX5_recover 94 = .ok (.iconst 0, 1) := by decide +kernel
theorem dX5_recover_95 : decode cX5_recover 95 = .ok (.istore_n 3, 1) := by decide +kernel
theorem dX5_recover_96 : decode cX5_recover 96 = .ok (.iload_n 3, 1) := by decide +kernel
theorem dX5_recover_97 : decode cX5_recover 97 = .ok (.ifCond .ne 5, 3) := by decide +kernel
theorem dX5_recover_100 : decode cX5_recover 100 = .ok (.iconst (-1), 1) := by decide +kernel
theorem dX5_recover_101 : decode cX5_recover 101 = .ok (.ireturn, 1) := by decide +kernel
theorem dX5_recover_102 : decode cX5_recover 102 = .ok (.aload_n 0, 1) := by decide +kernel
theorem dX5_recover_103 : decode cX5_recover 103 = .ok (.invokevirtual 91, 3) := by decide +kernel
theorem dX5_recover_106 : decode cX5_recover 106 = .ok (.iconst 0, 1) := by decide +kernel
theorem dX5_recover_107 : decode cX5_recover 107 = .ok (.istore_n 1, 1) := by decide +kernel
theorem dX5_recover_108 : decode cX5_recover 108 = .ok (.iload_n 1, 1) := by decide +kernel
theorem dX5_recover_109 : decode cX5_recover 109 = .ok (.iconst 4, 1) := by decide +kernel
theorem dX5_recover_110 : decode cX5_recover 110 = .ok (.if_icmp .ge 16, 3) := by decide +kernel
theorem dX5_recover_113 : decode cX5_recover 113 = .ok (.aload_n 0, 1) := by decide +kernel
theorem dX5_recover_114 : decode cX5_recover 114 = .ok (.getfield 38, 3) := by decide +kernel
theorem dX5_recover_117 : decode cX5_recover 117 = .ok (.iload_n 1, 1) := by decide +kernel
theorem dX5_recover_118 : decode cX5_recover 118 = .ok (.iconst 0, 1) := by decide +kernel
theorem dX5_recover_119 : decode cX5_recover 119 = .ok (.bastore, 1) := by decide +kernel
theorem dX5_recover_120 : decode cX5_recover 120 = .ok (.iinc 1 1, 3) := by decide +kernel
end
section
theorem dX5_recover_123 : decode cX5_recover 123 = .ok (.goto (-15), 3) := by decide +kernel
theorem dX5_recover_126 : decode cX5_recover 126 = .ok (.iconst 0, 1) := by decide +kernel
theorem dX5_recover_127 : decode cX5_recover 127 = .ok (.ireturn, 1) := by decide +kernel
set_option maxRecDepth 20000 in
theorem ggX5_format_X5_copyBack : GoodIn wsX5_format wsX5_copyBack := goodIn_r _ [9, 10, 1, 11, 12, 13, 14, 15, 16, 17, 18, 19, 20, 21, 22, 23, 24, 25, 26, 27, 28, 29] (by decide +kernel) (by decide +kernel)
set_option maxRecDepth 20000 in
theorem gX5_format_X5_copyBack : GoodIn wsX5_format (wsV RX5 91 RX5 yX5_copyBack wsX5_copyBack) := goodIn_app (goodIn_of _ (by decide +kernel)) ggX5_format_X5_copyBack
theorem dX5_format_0 : decode cX5_format 0 = .ok (.iconst 0, 1) := by decide +kernel
theorem dX5_format_1 : decode cX5_format 1 = .ok (.istore_n 1, 1) := by decide +kernel
theorem dX5_format_2 : decode cX5_format 2 = .ok (.iload_n 1, 1) := by decide +kernel
theorem dX5_format_3 : decode cX5_format 3 = .ok (.sipush 528, 3) := by decide +kernel
theorem dX5_format_6 : decode cX5_format 6 = .ok (.if_icmp .ge 16, 3) := by decide +kernel
theorem dX5_format_9 : decode cX5_format 9 = .ok (.aload_n 0, 1) := by decide +kernel
theorem dX5_format_10 : decode cX5_format 10 = .ok (.getfield 7, 3) := by decide +kernel
theorem dX5_format_13 : decode cX5_format 13 = .ok (.iload_n 1, 1) := by decide +kernel
theorem dX5_format_14 : decode cX5_format 14 = .ok (.iconst 0, 1) := by decide +kernel
theorem dX5_format_15 : decode cX5_format 15 = .ok (.iastore, 1) := by decide +kernel
theorem dX5_format_16 : decode cX5_format 16 = .ok (.iinc 1 1, 3) := by decide +kernel
theorem dX5_format_19 : decode cX5_format 19 = .ok (.goto (-17), 3) := by decide +kernel
theorem dX5_format_22 : decode cX5_format 22 = .ok (.aload_n 0, 1) := by decide +kernel
theorem dX5_format_23 : decode cX5_format 23 = .ok (.iconst 0, 1) := by decide +kernel
theorem dX5_format_24 : decode cX5_format 24 = .ok (.putfield 51, 3) := by decide +kernel
theorem dX5_format_27 : decode cX5_format 27 = .ok (.aload_n 0, 1) := by decide +kernel
theorem dX5_format_28 : decode cX5_format 28 = .ok (.iconst (-1), 1) := by decide +kernel
theorem dX5_format_29 : decode cX5_format 29 = .ok (.putfield 22, 3) := by decide +kernel
theorem dX5_format_32 : decode cX5_format 32 = .ok (.aload_n 0, 1) := by decide +kernel
theorem dX5_format_33 : decode cX5_format 33 = .ok (.invokevirtual 91, 3) := by decide +kernel
theorem dX5_format_36 : decode cX5_format 36 = .ok (.iconst 0, 1) := by decide +kernel
theorem dX5_format_37 : decode cX5_format 37 = .ok (.istore_n 1, 1) := by decide +kernel
theorem dX5_format_38 : decode cX5_format 38 = .ok (.iload_n 1, 1) := by decide +kernel
theorem dX5_format_39 : decode cX5_format 39 = .ok (.iconst 4, 1) := by decide +kernel
theorem dX5_format_40 : decode cX5_format 40 = .ok (.if_icmp .ge 16, 3) := by decide +kernel
theorem dX5_format_43 : decode cX5_format 43 = .ok (.aload_n 0, 1) := by decide +kernel
theorem dX5_format_44 : decode cX5_format 44 = .ok (.getfield 38, 3) := by decide +kernel
theorem dX5_format_47 : decode cX5_format 47 = .ok (.iload_n 1, 1) := by decide +kernel
theorem dX5_format_48 : decode cX5_format 48 = .ok (.iconst 0, 1) := by decide +kernel
theorem dX5_format_49 : decode cX5_format 49 = .ok (.bastore, 1) := by decide +kernel
theorem dX5_format_50 : decode cX5_format 50 = .ok (.iinc 1 1, 3) := by decide +kernel
theorem dX5_format_53 : decode cX5_format 53 = .ok (.goto (-15), 3) := by decide +kernel
theorem dX5_format_56 : decode cX5_format 56 = .ok (.iconst 0, 1) := by decide +kernel
theorem dX5_format_57 : decode cX5_format 57 = .ok (.ireturn, 1) := by decide +kernel
theorem dX5_crashAfter_0 : decode cX5_crashAfter 0 = .ok (.iload_n 1, 1) := by decide +kernel
theorem dX5_crashAfter_1 : decode cX5_crashAfter 1 = .ok (.ifCond .ge 6, 3) := by decide +kernel
theorem dX5_crashAfter_4 : decode cX5_crashAfter 4 = .ok (.bipush (-4), 2) := by decide +kernel
theorem dX5_crashAfter_6 : decode cX5_crashAfter 6 = .ok (.ireturn, 1) := by decide +kernel
theorem dX5_crashAfter_7 : decode cX5_crashAfter 7 = .ok (.aload_n 0, 1) := by decide +kernel
theorem dX5_crashAfter_8 : decode cX5_crashAfter 8 = .ok (.iload_n 1, 1) := by decide +kernel
theorem dX5_crashAfter_9 : decode cX5_crashAfter 9 = .ok (.putfield 22, 3) := by decide +kernel
theorem dX5_crashAfter_12 : decode cX5_crashAfter 12 = .ok (.iconst 0, 1) := by decide +kernel
theorem dX5_crashAfter_13 : decode cX5_crashAfter 13 = .ok (.ireturn, 1) := by decide +kernel
theorem dX5_peek_0 : decode cX5_peek 0 = .ok (.iload_n 1, 1) := by decide +kernel
theorem dX5_peek_1 : decode cX5_peek 1 = .ok (.ifCond .lt 19, 3) := by decide +kernel
theorem dX5_peek_4 : decode cX5_peek 4 = .ok (.iload_n 1, 1) := by decide +kernel
theorem dX5_peek_5 : decode cX5_peek 5 = .ok (.bipush 32, 2) := by decide +kernel
theorem dX5_peek_7 : decode cX5_peek 7 = .ok (.if_icmp .gt 13, 3) := by decide +kernel
theorem dX5_peek_10 : decode cX5_peek 10 = .ok (.iload_n 2, 1) := by decide +kernel
theorem dX5_peek_11 : decode cX5_peek 11 = .ok (.ifCond .lt 9, 3) := by decide +kernel
theorem dX5_peek_14 : decode cX5_peek 14 = .ok (.iload_n 2, 1) := by decide +kernel
theorem dX5_peek_15 : decode cX5_peek 15 = .ok (.bipush 15, 2) := by decide +kernel
theorem dX5_peek_17 : decode cX5_peek 17 = .ok (.if_icmp .le 8, 3) := by decide +kernel
theorem dX5_peek_20 : decode cX5_peek 20 = .ok (.bipush (-4), 2) := by decide +kernel
theorem dX5_peek_22 : decode cX5_peek 22 = .ok (.goto 14, 3) := by decide +kernel
theorem dX5_peek_25 : decode cX5_peek 25 = .ok (.aload_n 0, 1) := by decide +kernel
theorem dX5_peek_26 : decode cX5_peek 26 = .ok (.getfield 7, 3) := by decide +kernel
theorem dX5_peek_29 : decode cX5_peek 29 = .ok (.bipush 16, 2) := by decide +kernel
theorem dX5_peek_31 : decode cX5_peek 31 = .ok (.iload_n 1, 1) := by decide +kernel
theorem dX5_peek_32 : decode cX5_peek 32 = .ok (.imul, 1) := by decide +kernel
theorem dX5_peek_33 : decode cX5_peek 33 = .ok (.iload_n 2, 1) := by decide +kernel
theorem dX5_peek_34 : decode cX5_peek 34 = .ok (.iadd, 1) := by decide +kernel
theorem dX5_peek_35 : decode cX5_peek 35 = .ok (.iaload, 1) := by decide +kernel
theorem dX5_peek_36 : decode cX5_peek 36 = .ok (.ireturn, 1) := by decide +kernel
theorem dX5_writes_0 : decode cX5_writes 0 = .ok (.aload_n 0, 1) := by decide +kernel
theorem dX5_writes_1 : decode cX5_writes 1 = .ok (.getfield 55, 3) := by decide +kernel
theorem dX5_writes_4 : decode cX5_writes 4 = .ok (.ireturn, 1) := by decide +kernel
theorem dX5_begin_0 : decode cX5_begin 0 = .ok (.aload_n 0, 1) := by decide +kernel
theorem dX5_begin_1 : decode cX5_begin 1 = .ok (.getfield 51, 3) := by decide +kernel
theorem dX5_begin_4 : decode cX5_begin 4 = .ok (.ifCond .eq 5, 3) := by decide +kernel
theorem dX5_begin_7 : decode cX5_begin 7 = .ok (.iconst (-1), 1) := by decide +kernel
theorem dX5_begin_8 : decode cX5_begin 8 = .ok (.ireturn, 1) := by decide +kernel
theorem dX5_begin_9 : decode cX5_begin 9 = .ok (.aload_n 0, 1) := by decide +kernel
theorem dX5_begin_10 : decode cX5_begin 10 = .ok (.getfield 66, 3) := by decide +kernel
theorem dX5_begin_13 : decode cX5_begin 13 = .ok (.ifCond .eq 6, 3) := by decide +kernel
theorem dX5_begin_16 : decode cX5_begin 16 = .ok (.bipush (-3), 2) := by decide +kernel
theorem dX5_begin_18 : decode cX5_begin 18 = .ok (.ireturn, 1) := by decide +kernel
theorem dX5_begin_19 : decode cX5_begin 19 = .ok (.aload_n 0, 1) := by decide +kernel
theorem dX5_begin_20 : decode cX5_begin 20 = .ok (.iconst 1, 1) := by decide +kernel
theorem dX5_begin_21 : decode cX5_begin 21 = .ok (.putfield 66, 3) := by decide +kernel
theorem dX5_begin_24 : decode cX5_begin 24 = .ok (.iconst 0, 1) := by decide +kernel
theorem dX5_begin_25 : decode cX5_begin 25 = .ok (.ireturn, 1) := by decide +kernel
set_option maxRecDepth 20000 in
theorem ggX5_rollback_X5_copyBack : GoodIn wsX5_rollback wsX5_copyBack := goodIn_r _ [8, 9, 10, 2, 11, 12, 13, 14, 15, 16, 17, 18, 19, 20, 21, 22, 23, 24, 25, 26, 27, 28] (by decide +kernel) (by decide +kernel)
set_option maxRecDepth 20000 in
theorem gX5_rollback_X5_copyBack : GoodIn wsX5_rollback (wsV RX5 91 RX5 yX5_copyBack wsX5_copyBack) := goodIn_app (goodIn_of _ (by decide +kernel)) ggX5_rollback_X5_copyBack
theorem dX5_rollback_0 : decode cX5_rollback 0 = .ok (.aload_n 0, 1) := by decide +kernel
theorem dX5_rollback_1 : decode cX5_rollback 1 = .ok (.getfield 51, 3) := by decide +kernel
theorem dX5_rollback_4 : decode cX5_rollback 4 = .ok (.ifCond .eq 5, 3) := by decide +kernel
theorem dX5_rollback_7 : decode cX5_rollback 7 = .ok (.iconst (-1), 1) := by decide +kernel
theorem dX5_rollback_8 : decode cX5_rollback 8 = .ok (.ireturn, 1) := by decide +kernel
theorem dX5_rollback_9 : decode cX5_rollback 9 = .ok (.aload_n 0, 1) := by decide +kernel
theorem dX5_rollback_10 : decode cX5_rollback 10 = .ok (.getfield 66, 3) := by decide +kernel
theorem dX5_rollback_13 : decode cX5_rollback 13 = .ok (.ifCond .ne 6, 3) := by decide +kernel
theorem dX5_rollback_16 : decode cX5_rollback 16 = .ok (.bipush (-2), 2) := by decide +kernel
theorem dX5_rollback_18 : decode cX5_rollback 18 = .ok (.ireturn, 1) := by decide +kernel
theorem dX5_rollback_19 : decode cX5_rollback 19 = .ok (.aload_n 0, 1) := by decide +kernel
theorem dX5_rollback_20 : decode cX5_rollback 20 = .ok (.invokevirtual 91, 3) := by decide +kernel
theorem dX5_rollback_23 : decode cX5_rollback 23 = .ok (.iconst 0, 1) := by decide +kernel
theorem dX5_rollback_24 : decode cX5_rollback 24 = .ok (.istore_n 1, 1) := by decide +kernel
theorem dX5_rollback_25 : decode cX5_rollback 25 = .ok (.iload_n 1, 1) := by decide +kernel
theorem dX5_rollback_26 : decode cX5_rollback 26 = .ok (.iconst 4, 1) := by decide +kernel
theorem dX5_rollback_27 : decode cX5_rollback 27 = .ok (.if_icmp .ge 16, 3) := by decide +kernel
theorem dX5_rollback_30 : decode cX5_rollback 30 = .ok (.aload_n 0, 1) := by decide +kernel
theorem dX5_rollback_31 : decode cX5_rollback 31 = .ok (.getfield 42, 3) := by decide +kernel
theorem dX5_rollback_34 : decode cX5_rollback 34 = .ok (.iload_n 1, 1) := by decide +kernel
theorem dX5_rollback_35 : decode cX5_rollback 35 = .ok (.iconst 1, 1) := by decide +kernel
theorem dX5_rollback_36 : decode cX5_rollback 36 = .ok (.bastore, 1) := by decide +kernel
theorem dX5_rollback_37 : decode cX5_rollback 37 = .ok (.iinc 1 1, 3) := by decide +kernel
theorem dX5_rollback_40 : decode cX5_rollback 40 = .ok (.goto (-15), 3) := by decide +kernel
theorem dX5_rollback_43 : decode cX5_rollback 43 = .ok (.iconst 0, 1) := by decide +kernel
theorem dX5_rollback_44 : decode cX5_rollback 44 = .ok (.ireturn, 1) := by decide +kernel
theorem dX5_noTable_0 : decode cX5_noTable 0 = .ok (.iload_n 1, 1) := by decide +kernel
theorem dX5_noTable_1 : decode cX5_noTable 1 = .ok (.ifCond .lt 17, 3) := by decide +kernel
theorem dX5_noTable_4 : decode cX5_noTable 4 = .ok (.iload_n 1, 1) := by decide +kernel
theorem dX5_noTable_5 : decode cX5_noTable 5 = .ok (.iconst 4, 1) := by decide +kernel
theorem dX5_noTable_6 : decode cX5_noTable 6 = .ok (.if_icmp .gt 12, 3) := by decide +kernel
theorem dX5_noTable_9 : decode cX5_noTable 9 = .ok (.aload_n 0, 1) := by decide +kernel
theorem dX5_noTable_10 : decode cX5_noTable 10 = .ok (.getfield 13, 3) := by decide +kernel
theorem dX5_noTable_13 : decode cX5_noTable 13 = .ok (.iload_n 1, 1) := by decide +kernel
theorem dX5_noTable_14 : decode cX5_noTable 14 = .ok (.iaload, 1) := by decide +kernel
theorem dX5_noTable_15 : decode cX5_noTable 15 = .ok (.ifCond .ne 7, 3) := by decide +kernel
theorem dX5_noTable_18 : decode cX5_noTable 18 = .ok (.iconst 1, 1) := by decide +kernel
theorem dX5_noTable_19 : decode cX5_noTable 19 = .ok (.goto 4, 3) := by decide +kernel
theorem dX5_noTable_22 : decode cX5_noTable 22 = .ok (.iconst 0, 1) := by decide +kernel
theorem dX5_noTable_23 : decode cX5_noTable 23 = .ok (.ireturn, 1) := by decide +kernel
theorem dX5_slots_0 : decode cX5_slots 0 = .ok (.bipush 13, 2) := by decide +kernel
theorem dX5_slots_2 : decode cX5_slots 2 = .ok (.aload_n 0, 1) := by decide +kernel
theorem dX5_slots_3 : decode cX5_slots 3 = .ok (.getfield 13, 3) := by decide +kernel
theorem dX5_slots_6 : decode cX5_slots 6 = .ok (.iload_n 1, 1) := by decide +kernel
theorem dX5_slots_7 : decode cX5_slots 7 = .ok (.iaload, 1) := by decide +kernel
theorem dX5_slots_8 : decode cX5_slots 8 = .ok (.idiv, 1) := by decide +kernel
theorem dX5_slots_9 : decode cX5_slots 9 = .ok (.ireturn, 1) := by decide +kernel
theorem dX5_change_0 : decode cX5_change 0 = .ok (.iconst 0, 1) := by decide +kernel
theorem dX5_change_1 : decode cX5_change 1 = .ok (.istore_n 2, 1) := by decide +kernel
theorem dX5_change_2 : decode cX5_change 2 = .ok (.iload_n 2, 1) := by decide +kernel
theorem dX5_change_3 : decode cX5_change 3 = .ok (.iconst 4, 1) := by decide +kernel
theorem dX5_change_4 : decode cX5_change 4 = .ok (.if_icmp .ge 39, 3) := by decide +kernel
theorem dX5_change_7 : decode cX5_change 7 = .ok (.aload_n 0, 1) := by decide +kernel
theorem dX5_change_8 : decode cX5_change 8 = .ok (.getfield 42, 3) := by decide +kernel
theorem dX5_change_11 : decode cX5_change 11 = .ok (.iload_n 2, 1) := by decide +kernel
theorem dX5_change_12 : decode cX5_change 12 = .ok (.aload_n 0, 1) := by decide +kernel
theorem dX5_change_13 : decode cX5_change 13 = .ok (.getfield 42, 3) := by decide +kernel
theorem dX5_change_16 : decode cX5_change 16 = .ok (.iload_n 2, 1) := by decide +kernel
theorem dX5_change_17 : decode cX5_change 17 = .ok (.baload, 1) := by decide +kernel
theorem dX5_change_18 : decode cX5_change 18 = .ok (.ifCond .ne 13, 3) := by decide +kernel
theorem dX5_change_21 : decode cX5_change 21 = .ok (.aload_n 0, 1) := by decide +kernel
theorem dX5_change_22 : decode cX5_change 22 = .ok (.getfield 26, 3) := by decide +kernel
theorem dX5_change_25 : decode cX5_change 25 = .ok (.iload_n 2, 1) := by decide +kernel
theorem dX5_change_26 : decode cX5_change 26 = .ok (.iaload, 1) := by decide +kernel
theorem dX5_change_27 : decode cX5_change 27 = .ok (.iload_n 1, 1) := by decide +kernel
theorem dX5_change_28 : decode cX5_change 28 = .ok (.if_icmp .ne 7, 3) := by decide +kernel
theorem dX5_change_31 : decode cX5_change 31 = .ok (.iconst 1, 1) := by decide +kernel
theorem dX5_change_32 : decode cX5_change 32 = .ok (.goto 4, 3) := by decide +kernel
theorem dX5_change_35 : decode cX5_change 35 = .ok (.iconst 0, 1) := by decide +kernel
theorem dX5_change_36 : decode cX5_change 36 = .ok (.bastore, 1) := by decide +kernel
theorem dX5_change_37 : decode cX5_change 37 = .ok (.iinc 2 1, 3) := by decide +kernel
theorem dX5_change_40 : decode cX5_change 40 = .ok (.goto (-38), 3) := by decide +kernel
theorem dX5_change_43 : decode cX5_change 43 = .ok (.return_, 1) := by decide +kernel
theorem dX5_clearPage_0 : decode cX5_clearPage 0 = .ok (.iconst 0, 1) := by decide +kernel
theorem dX5_clearPage_1 : decode cX5_clearPage 1 = .ok (.istore_n 2, 1) := by decide +kernel
theorem dX5_clearPage_2 : decode cX5_clearPage 2 = .ok (.iload_n 2, 1) := by decide +kernel
theorem dX5_clearPage_3 : decode cX5_clearPage 3 = .ok (.bipush 16, 2) := by decide +kernel
theorem dX5_clearPage_5 : decode cX5_clearPage 5 = .ok (.if_icmp .ge 21, 3) := by decide +kernel
theorem dX5_clearPage_8 : decode cX5_clearPage 8 = .ok (.aload_n 0, 1) := by decide +kernel
theorem dX5_clearPage_9 : decode cX5_clearPage 9 = .ok (.getfield 13, 3) := by decide +kernel
theorem dX5_clearPage_12 : decode cX5_clearPage 12 = .ok (.bipush 16, 2) := by decide +kernel
theorem dX5_clearPage_14 : decode cX5_clearPage 14 = .ok (.iload_n 1, 1) := by decide +kernel
theorem dX5_clearPage_15 : decode cX5_clearPage 15 = .ok (.imul, 1) := by decide +kernel
theorem dX5_clearPage_16 : decode cX5_clearPage 16 = .ok (.iload_n 2, 1) := by decide +kernel
theorem dX5_clearPage_17 : decode cX5_clearPage 17 = .ok (.iadd, 1) := by decide +kernel
theorem dX5_clearPage_18 : decode cX5_clearPage 18 = .ok (.iconst 0, 1) := by decide +kernel
theorem dX5_clearPage_19 : decode cX5_clearPage 19 = .ok (.iastore, 1) := by decide +kernel
theorem dX5_clearPage_20 : decode cX5_clearPage 20 = .ok (.iinc 2 1, 3) := by decide +kernel
theorem dX5_clearPage_23 : decode cX5_clearPage 23 = .ok (.goto (-21), 3) := by decide +kernel
theorem dX5_clearPage_26 : decode cX5_clearPage 26 = .ok (.return_, 1) := by decide +kernel
theorem dX5_createTable_0 : decode cX5_createTable 0 = .ok (.aload_n 0, 1) := by decide +kernel
theorem dX5_createTable_1 : decode cX5_createTable 1 = .ok (.getfield 51, 3) := by decide +kernel
theorem dX5_createTable_4 : decode cX5_createTable 4 = .ok (.ifCond .eq 5, 3) := by decide +kernel
theorem dX5_createTable_7 : decode cX5_createTable 7 = .ok (.iconst (-1), 1) := by decide +kernel
theorem dX5_createTable_8 : decode cX5_createTable 8 = .ok (.ireturn, 1) := by decide +kernel
theorem dX5_createTable_9 : decode cX5_createTable 9 = .ok (.iload_n 1, 1) := by decide +kernel
theorem dX5_createTable_10 : decode cX5_createTable 10 = .ok (.iconst 2, 1) := by decide +kernel
theorem dX5_createTable_11 : decode cX5_createTable 11 = .ok (.if_icmp .lt 9, 3) := by decide +kernel
theorem dX5_createTable_14 : decode cX5_createTable 14 = .ok (.iload_n 1, 1) := by decide +kernel
theorem dX5_createTable_15 : decode cX5_createTable 15 = .ok (.bipush 6, 2) := by decide +kernel
theorem dX5_createTable_17 : decode cX5_createTable 17 = .ok (.if_icmp .le 6, 3) := by decide +kernel
theorem dX5_createTable_20 : decode cX5_createTable 20 = .ok (.bipush (-4), 2) := by decide +kernel
theorem dX5_createTable_22 : decode cX5_createTable 22 = .ok (.ireturn, 1) := by decide +kernel
theorem dX5_createTable_23 : decode cX5_createTable 23 = .ok (.aload_n 0, 1) := by decide +kernel
theorem dX5_createTable_24 : decode cX5_createTable 24 = .ok (.getfield 66, 3) := by decide +kernel
theorem dX5_createTable_27 : decode cX5_createTable 27 = .ok (.ifCond .ne 6, 3) := by decide +kernel
theorem dX5_createTable_30 : decode cX5_createTable 30 = .ok (.bipush (-2), 2) := by decide +kernel
theorem dX5_createTable_32 : decode cX5_createTable 32 = .ok (.ireturn, 1) := by decide +kernel
theorem dX5_createTable_33 : decode cX5_createTable 33 = .ok (.iconst 0, 1) := by decide +kernel
theorem dX5_createTable_34 : decode cX5_createTable 34 = .ok (.istore_n 2, 1) := by decide +kernel
theorem dX5_createTable_35 : decode cX5_createTable 35 = .ok (.iload_n 2, 1) := by decide +kernel
theorem dX5_createTable_36 : decode cX5_createTable 36 = .ok (.iconst 5, 1) := by decide +kernel
theorem dX5_createTable_37 : decode cX5_createTable 37 = .ok (.if_icmp .ge 18, 3) := by decide +kernel
theorem dX5_createTable_40 : decode cX5_createTable 40 = .ok (.aload_n 0, 1) := by decide +kernel
theorem dX5_createTable_41 : decode cX5_createTable 41 = .ok (.getfield 13, 3) := by decide +kernel
theorem dX5_createTable_44 : decode cX5_createTable 44 = .ok (.iload_n 2, 1) := by decide +kernel
theorem dX5_createTable_45 : decode cX5_createTable 45 = .ok (.iaload, 1) := by decide +kernel
theorem dX5_createTable_46 : decode cX5_createTable 46 = .ok (.ifCond .eq 9, 3) := by decide +kernel
theorem dX5_createTable_49 : decode cX5_createTable 49 = .ok (.iinc 2 1, 3) := by decide +kernel
theorem dX5_createTable_52 : decode cX5_createTable 52 = .ok (.goto (-17), 3) := by decide +kernel
theorem dX5_createTable_55 : decode cX5_createTable 55 = .ok (.iload_n 2, 1) := by decide +kernel
theorem dX5_createTable_56 : decode cX5_createTable 56 = .ok (.iconst 5, 1) := by decide +kernel
theorem dX5_createTable_57 : decode cX5_createTable 57 = .ok (.if_icmp .ne 6, 3) := by decide +kernel
theorem dX5_createTable_60 : decode cX5_createTable 60 = .ok (.bipush (-8), 2) := by decide +kernel
theorem dX5_createTable_62 : decode cX5_createTable 62 = .ok (.ireturn, 1) := by decide +kernel
theorem dX5_createTable_63 : decode cX5_createTable 63 = .ok (.aload_n 0, 1) := by decide +kernel
theorem dX5_createTable_64 : decode cX5_createTable 64 = .ok (.getfield 13, 3) := by decide +kernel
theorem dX5_createTable_67 : decode cX5_createTable 67 = .ok (.iload_n 2, 1) := by decide +kernel
theorem dX5_createTable_68 : decode cX5_createTable 68 = .ok (.iload_n 1, 1) := by decide +kernel
theorem dX5_createTable_69 : decode cX5_createTable 69 = .ok (.iastore, 1) := by decide +kernel
theorem dX5_createTable_70 : decode cX5_createTable 70 = .ok (.iload_n 2, 1) := by decide +kernel
theorem dX5_createTable_71 : decode cX5_createTable 71 = .ok (.ireturn, 1) := by decide +kernel
set_option maxRecDepth 20000 in
theorem ggX5_dropTable_X5_noTable : GoodIn wsX5_dropTable wsX5_noTable := goodIn_r _ [8, 3, 19, 20, 21, 22, 23, 24, 25, 26, 27, 28, 29, 30, 31, 32, 33, 34, 35, 36] (by decide +kernel) (by decide +kernel)
set_option maxRecDepth 20000 in
theorem gX5_dropTable_X5_noTable : GoodIn wsX5_dropTable (wsV RX5 94 RX5 yX5_noTable wsX5_noTable) := goodIn_app (goodIn_of _ (by decide +kernel)) ggX5_dropTable_X5_noTable
set_option maxRecDepth 20000 in
theorem ggX5_dropTable_X5_clearPage : GoodIn wsX5_dropTable wsX5_clearPage := goodIn_r _ [12, 3, 19, 20, 21, 22, 23, 24, 25, 26, 27, 28, 29, 30, 31, 32, 33, 34, 35, 36] (by decide +kernel) (by decide +kernel)
set_option maxRecDepth 20000 in
theorem gX5_dropTable_X5_clearPage : GoodIn wsX5_dropTable (wsV RX5 97 RX5 yX5_clearPage wsX5_clearPage) := goodIn_app (goodIn_of _ (by decide +kernel)) ggX5_dropTable_X5_clearPage
set_option maxRecDepth 20000 in
theorem ggX5_dropTable_X5_change : GoodIn wsX5_dropTable wsX5_change := goodIn_r _ [16, 17, 18, 19, 20, 21, 22, 23, 24, 25, 26, 27, 28, 29, 30, 31, 32, 33, 34, 35, 36] (by decide +kernel) (by decide +kernel)
set_option maxRecDepth 20000 in
theorem gX5_dropTable_X5_change : GoodIn wsX5_dropTable (wsV RX5 101 RX5 yX5_change wsX5_change) := goodIn_app (goodIn_of _ (by decide +kernel)) ggX5_dropTable_X5_change
theorem dX5_dropTable_0 : decode cX5_dropTable 0 = .ok (.aload_n 0, 1) := by decide +kernel
theorem dX5_dropTable_1 : decode cX5_dropTable 1 = .ok (.getfield 51, 3) := by decide +kernel
theorem dX5_dropTable_4 : decode cX5_dropTable 4 = .ok (.ifCond .eq 5, 3) := by decide +kernel
theorem dX5_dropTable_7 : decode cX5_dropTable 7 = .ok (.iconst (-1), 1) := by decide +kernel
theorem dX5_dropTable_8 : decode cX5_dropTable 8 = .ok (.ireturn, 1) := by decide +kernel
theorem dX5_dropTable_9 : decode cX5_dropTable 9 = .ok (.aload_n 0, 1) := by decide +kernel
theorem dX5_dropTable_10 : decode cX5_dropTable 10 = .ok (.getfield 66, 3) := by decide +kernel
theorem dX5_dropTable_13 : decode cX5_dropTable 13 = .ok (.ifCond .ne 6, 3) := by decide +kernel
theorem dX5_dropTable_16 : decode cX5_dropTable 16 = .ok (.bipush (-2), 2) := by decide +kernel
theorem dX5_dropTable_18 : decode cX5_dropTable 18 = .ok (.ireturn, 1) := by decide +kernel
theorem dX5_dropTable_19 : decode cX5_dropTable 19 = .ok (.aload_n 0, 1) := by decide +kernel
theorem dX5_dropTable_20 : decode cX5_dropTable 20 = .ok (.iload_n 1, 1) := by decide +kernel
theorem dX5_dropTable_21 : decode cX5_dropTable 21 = .ok (.invokevirtual 94, 3) := by decide +kernel
theorem dX5_dropTable_24 : decode cX5_dropTable 24 = .ok (.ifCond .eq 6, 3) := by decide +kernel
theorem dX5_dropTable_27 : decode cX5_dropTable 27 = .ok (.bipush (-5), 2) := by decide +kernel
theorem dX5_dropTable_29 : decode cX5_dropTable 29 = .ok (.ireturn, 1) := by decide +kernel
theorem dX5_dropTable_30 : decode cX5_dropTable 30 = .ok (.iconst 1, 1) := by decide +kernel
theorem dX5_dropTable_31 : decode cX5_dropTable 31 = .ok (.istore_n 2, 1) := by decide +kernel
theorem dX5_dropTable_32 : decode cX5_dropTable 32 = .ok (.iload_n 2, 1) := by decide +kernel
theorem dX5_dropTable_33 : decode cX5_dropTable 33 = .ok (.bipush 16, 2) := by decide +kernel
theorem dX5_dropTable_35 : decode cX5_dropTable 35 = .ok (.if_icmp .ge 29, 3) := by decide +kernel
theorem dX5_dropTable_38 : decode cX5_dropTable 38 = .ok (.aload_n 0, 1) := by decide +kernel
theorem dX5_dropTable_39 : decode cX5_dropTable 39 = .ok (.getfield 13, 3) := by decide +kernel
theorem dX5_dropTable_42 : decode cX5_dropTable 42 = .ok (.bipush 16, 2) := by decide +kernel
theorem dX5_dropTable_44 : decode cX5_dropTable 44 = .ok (.iload_n 2, 1) := by decide +kernel
theorem dX5_dropTable_45 : decode cX5_dropTable 45 = .ok (.imul, 1) := by decide +kernel
theorem dX5_dropTable_46 : decode cX5_dropTable 46 = .ok (.iaload, 1) := by decide +kernel
theorem dX5_dropTable_47 : decode cX5_dropTable 47 = .ok (.iload_n 1, 1) := by decide +kernel
theorem dX5_dropTable_48 : decode cX5_dropTable 48 = .ok (.iconst 1, 1) := by decide +kernel
theorem dX5_dropTable_49 : decode cX5_dropTable 49 = .ok (.iadd, 1) := by decide +kernel
theorem dX5_dropTable_50 : decode cX5_dropTable 50 = .ok (.if_icmp .ne 8, 3) := by decide +kernel
theorem dX5_dropTable_53 : decode cX5_dropTable 53 = .ok (.aload_n 0, 1) := by decide +kernel
theorem dX5_dropTable_54 : decode cX5_dropTable 54 = .ok (.iload_n 2, 1) := by decide +kernel
theorem dX5_dropTable_55 : decode cX5_dropTable 55 = .ok (.invokevirtual 97, 3) := by decide +kernel
theorem dX5_dropTable_58 : decode cX5_dropTable 58 = .ok (.iinc 2 1, 3) := by decide +kernel
theorem dX5_dropTable_61 : decode cX5_dropTable 61 = .ok (.goto (-29), 3) := by decide +kernel
theorem dX5_dropTable_64 : decode cX5_dropTable 64 = .ok (.aload_n 0, 1) := by decide +kernel
theorem dX5_dropTable_65 : decode cX5_dropTable 65 = .ok (.getfield 13, 3) := by decide +kernel
theorem dX5_dropTable_68 : decode cX5_dropTable 68 = .ok (.iload_n 1, 1) := by decide +kernel
theorem dX5_dropTable_69 : decode cX5_dropTable 69 = .ok (.iconst 0, 1) := by decide +kernel
theorem dX5_dropTable_70 : decode cX5_dropTable 70 = .ok (.iastore, 1) := by decide +kernel
theorem dX5_dropTable_71 : decode cX5_dropTable 71 = .ok (.aload_n 0, 1) := by decide +kernel
theorem dX5_dropTable_72 : decode cX5_dropTable 72 = .ok (.getfield 13, 3) := by decide +kernel
theorem dX5_dropTable_75 : decode cX5_dropTable 75 = .ok (.bipush 8, 2) := by decide +kernel
theorem dX5_dropTable_77 : decode cX5_dropTable 77 = .ok (.iload_n 1, 1) := by decide +kernel
theorem dX5_dropTable_78 : decode cX5_dropTable 78 = .ok (.iadd, 1) := by decide +kernel
theorem dX5_dropTable_79 : decode cX5_dropTable 79 = .ok (.iconst 0, 1) := by decide +kernel
theorem dX5_dropTable_80 : decode cX5_dropTable 80 = .ok (.iastore, 1) := by decide +kernel
theorem dX5_dropTable_81 : decode cX5_dropTable 81 = .ok (.aload_n 0, 1) := by decide +kernel
theorem dX5_dropTable_82 : decode cX5_dropTable 82 = .ok (.iload_n 1, 1) := by decide +kernel
theorem dX5_dropTable_83 : decode cX5_dropTable 83 = .ok (.invokevirtual 101, 3) := by decide +kernel
theorem dX5_dropTable_86 : decode cX5_dropTable 86 = .ok (.iconst 0, 1) := by decide +kernel
theorem dX5_dropTable_87 : decode cX5_dropTable 87 = .ok (.ireturn, 1) := by decide +kernel
theorem dX5_stage_0 : decode cX5_stage 0 = .ok (.aload_n 0, 1) := by decide +kernel
theorem dX5_stage_1 : decode cX5_stage 1 = .ok (.getfield 51, 3) := by decide +kernel
theorem dX5_stage_4 : decode cX5_stage 4 = .ok (.ifCond .eq 5, 3) := by decide +kernel
theorem dX5_stage_7 : decode cX5_stage 7 = .ok (.iconst (-1), 1) := by decide +kernel
theorem dX5_stage_8 : decode cX5_stage 8 = .ok (.ireturn, 1) := by decide +kernel
theorem dX5_stage_9 : decode cX5_stage 9 = .ok (.iload_n 1, 1) := by decide +kernel
theorem dX5_stage_10 : decode cX5_stage 10 = .ok (.ifCond .lt 8, 3) := by decide +kernel
theorem dX5_stage_13 : decode cX5_stage 13 = .ok (.iload_n 1, 1) := by decide +kernel
theorem dX5_stage_14 : decode cX5_stage 14 = .ok (.iconst 5, 1) := by decide +kernel
theorem dX5_stage_15 : decode cX5_stage 15 = .ok (.if_icmp .le 6, 3) := by decide +kernel
theorem dX5_stage_18 : decode cX5_stage 18 = .ok (.bipush (-4), 2) := by decide +kernel
theorem dX5_stage_20 : decode cX5_stage 20 = .ok (.ireturn, 1) := by decide +kernel
theorem dX5_stage_21 : decode cX5_stage 21 = .ok (.aload_n 0, 1) := by decide +kernel
theorem dX5_stage_22 : decode cX5_stage 22 = .ok (.getfield 19, 3) := by decide +kernel
theorem dX5_stage_25 : decode cX5_stage 25 = .ok (.iload_n 1, 1) := by decide +kernel
theorem dX5_stage_26 : decode cX5_stage 26 = .ok (.iload_n 2, 1) := by decide +kernel
theorem dX5_stage_27 : decode cX5_stage 27 = .ok (.iastore, 1) := by decide +kernel
theorem dX5_stage_28 : decode cX5_stage 28 = .ok (.iconst 0, 1) := by decide +kernel
theorem dX5_stage_29 : decode cX5_stage 29 = .ok (.ireturn, 1) := by decide +kernel
theorem dX5_wordOf_0 : decode cX5_wordOf 0 = .ok (.bipush 16, 2) := by decide +kernel
theorem dX5_wordOf_2 : decode cX5_wordOf 2 = .ok (.iload_n 2, 1) := by decide +kernel
theorem dX5_wordOf_3 : decode cX5_wordOf 3 = .ok (.imul, 1) := by decide +kernel
theorem dX5_wordOf_4 : decode cX5_wordOf 4 = .ok (.iconst 3, 1) := by decide +kernel
theorem dX5_wordOf_5 : decode cX5_wordOf 5 = .ok (.iadd, 1) := by decide +kernel
theorem dX5_wordOf_6 : decode cX5_wordOf 6 = .ok (.aload_n 0, 1) := by decide +kernel
theorem dX5_wordOf_7 : decode cX5_wordOf 7 = .ok (.getfield 13, 3) := by decide +kernel
theorem dX5_wordOf_10 : decode cX5_wordOf 10 = .ok (.iload_n 1, 1) := by decide +kernel
theorem dX5_wordOf_11 : decode cX5_wordOf 11 = .ok (.iaload, 1) := by decide +kernel
theorem dX5_wordOf_12 : decode cX5_wordOf 12 = .ok (.iload_n 3, 1) := by decide +kernel
theorem dX5_wordOf_13 : decode cX5_wordOf 13 = .ok (.imul, 1) := by decide +kernel
theorem dX5_wordOf_14 : decode cX5_wordOf 14 = .ok (.iadd, 1) := by decide +kernel
theorem dX5_wordOf_15 : decode cX5_wordOf 15 = .ok (.ireturn, 1) := by decide +kernel
theorem dX5_filled_0 : decode cX5_filled 0 = .ok (.aload_n 0, 1) := by decide +kernel
theorem dX5_filled_1 : decode cX5_filled 1 = .ok (.getfield 13, 3) := by decide +kernel
theorem dX5_filled_4 : decode cX5_filled 4 = .ok (.bipush 16, 2) := by decide +kernel
theorem dX5_filled_6 : decode cX5_filled 6 = .ok (.iload_n 1, 1) := by decide +kernel
theorem dX5_filled_7 : decode cX5_filled 7 = .ok (.imul, 1) := by decide +kernel
theorem dX5_filled_8 : decode cX5_filled 8 = .ok (.iconst 2, 1) := by decide +kernel
theorem dX5_filled_9 : decode cX5_filled 9 = .ok (.iadd, 1) := by decide +kernel
theorem dX5_filled_10 : decode cX5_filled 10 = .ok (.iaload, 1) := by decide +kernel
theorem dX5_filled_11 : decode cX5_filled 11 = .ok (.iload_n 2, 1) := by decide +kernel
theorem dX5_filled_12 : decode cX5_filled 12 = .ok (.ishr, 1) := by decide +kernel
theorem dX5_filled_13 : decode cX5_filled 13 = .ok (.iconst 1, 1) := by decide +kernel
theorem dX5_filled_14 : decode cX5_filled 14 = .ok (.iand, 1) := by decide +kernel
theorem dX5_filled_15 : decode cX5_filled 15 = .ok (.iconst 1, 1) := by decide +kernel
theorem dX5_filled_16 : decode cX5_filled 16 = .ok (.if_icmp .ne 7, 3) := by decide +kernel
theorem dX5_filled_19 : decode cX5_filled 19 = .ok (.iconst 1, 1) := by decide +kernel
theorem dX5_filled_20 : decode cX5_filled 20 = .ok (.goto 4, 3) := by decide +kernel
theorem dX5_filled_23 : decode cX5_filled 23 = .ok (.iconst 0, 1) := by decide +kernel
theorem dX5_filled_24 : decode cX5_filled 24 = .ok (.ireturn, 1) := by decide +kernel
set_option maxRecDepth 20000 in
theorem ggX5_seek_X5_slots : GoodIn wsX5_seek wsX5_slots := goodIn_r _ [8, 1, 17, 18, 19, 20, 21, 22, 23, 24, 25, 26, 27, 28, 29, 30, 31, 32, 33, 34] (by decide +kernel) (by decide +kernel)
set_option maxRecDepth 20000 in
theorem gX5_seek_X5_slots : GoodIn wsX5_seek (wsV RX5 104 RX5 yX5_slots wsX5_slots) := goodIn_app (goodIn_of _ (by decide +kernel)) ggX5_seek_X5_slots
set_option maxRecDepth 20000 in
theorem ggX5_seek_X5_filled : GoodIn wsX5_seek wsX5_filled := goodIn_r _ [12, 1, 17, 18, 19, 20, 21, 22, 23, 24, 25, 26, 27, 28, 29, 30, 31, 32, 33, 34] (by decide +kernel) (by decide +kernel)
set_option maxRecDepth 20000 in
theorem gX5_seek_X5_filled : GoodIn wsX5_seek (wsV RX5 107 RX5 yX5_filled wsX5_filled) := goodIn_app (goodIn_of _ (by decide +kernel)) ggX5_seek_X5_filled
set_option maxRecDepth 20000 in
theorem ggX5_seek_X5_wordOf : GoodIn wsX5_seek wsX5_wordOf := goodIn_r _ [16, 1, 17, 18, 19, 20, 21, 22, 23, 24, 25, 26, 27, 28, 29, 30, 31, 32, 33, 34] (by decide +kernel) (by decide +kernel)
set_option maxRecDepth 20000 in
theorem gX5_seek_X5_wordOf : GoodIn wsX5_seek (wsV RX5 110 RX5 yX5_wordOf wsX5_wordOf) := goodIn_app (goodIn_of _ (by decide +kernel)) ggX5_seek_X5_wordOf
theorem dX5_seek_0 : decode cX5_seek 0 = .ok (.iconst 1, 1) := by decide +kernel
theorem dX5_seek_1 : decode cX5_seek 1 = .ok (.istore_n 3, 1) := by decide +kernel
theorem dX5_seek_2 : decode cX5_seek 2 = .ok (.iload_n 3, 1) := by decide +kernel
theorem dX5_seek_3 : decode cX5_seek 3 = .ok (.bipush 16, 2) := by decide +kernel
theorem dX5_seek_5 : decode cX5_seek 5 = .ok (.if_icmp .ge 90, 3) := by decide +kernel
theorem dX5_seek_8 : decode cX5_seek 8 = .ok (.aload_n 0, 1) := by decide +kernel
theorem dX5_seek_9 : decode cX5_seek 9 = .ok (.getfield 13, 3) := by decide +kernel
theorem dX5_seek_12 : decode cX5_seek 12 = .ok (.bipush 16, 2) := by decide +kernel
theorem dX5_seek_14 : decode cX5_seek 14 = .ok (.iload_n 3, 1) := by decide +kernel
theorem dX5_seek_15 : decode cX5_seek 15 = .ok (.imul, 1) := by decide +kernel
theorem dX5_seek_16 : decode cX5_seek 16 = .ok (.iaload, 1) := by decide +kernel
theorem dX5_seek_17 : decode cX5_seek 17 = .ok (.iload_n 1, 1) := by decide +kernel
theorem dX5_seek_18 : decode cX5_seek 18 = .ok (.iconst 1, 1) := by decide +kernel
theorem dX5_seek_19 : decode cX5_seek 19 = .ok (.iadd, 1) := by decide +kernel
theorem dX5_seek_20 : decode cX5_seek 20 = .ok (.if_icmp .ne 69, 3) := by decide +kernel
theorem dX5_seek_23 : decode cX5_seek 23 = .ok (.iconst 0, 1) := by decide +kernel
theorem dX5_seek_24 : decode cX5_seek 24 = .ok (.istore 4, 2) := by decide +kernel
theorem dX5_seek_26 : decode cX5_seek 26 = .ok (.iload 4, 2) := by decide +kernel
theorem dX5_seek_28 : decode cX5_seek 28 = .ok (.aload_n 0, 1) := by decide +kernel
theorem dX5_seek_29 : decode cX5_seek 29 = .ok (.iload_n 1, 1) := by decide +kernel
theorem dX5_seek_30 : decode cX5_seek 30 = .ok (.invokevirtual 104, 3) := by decide +kernel
theorem dX5_seek_33 : decode cX5_seek 33 = .ok (.if_icmp .ge 56, 3) := by decide +kernel
theorem dX5_seek_36 : decode cX5_seek 36 = .ok (.aload_n 0, 1) := by decide +kernel
theorem dX5_seek_37 : decode cX5_seek 37 = .ok (.iload_n 3, 1) := by decide +kernel
theorem dX5_seek_38 : decode cX5_seek 38 = .ok (.iload 4, 2) := by decide +kernel
theorem dX5_seek_40 : decode cX5_seek 40 = .ok (.invokevirtual 107, 3) := by decide +kernel
theorem dX5_seek_43 : decode cX5_seek 43 = .ok (.ifCond .eq 40, 3) := by decide +kernel
theorem dX5_seek_46 : decode cX5_seek 46 = .ok (.aload_n 0, 1) := by decide +kernel
theorem dX5_seek_47 : decode cX5_seek 47 = .ok (.getfield 13, 3) := by decide +kernel
theorem dX5_seek_50 : decode cX5_seek 50 = .ok (.aload_n 0, 1) := by decide +kernel
theorem dX5_seek_51 : decode cX5_seek 51 = .ok (.iload_n 1, 1) := by decide +kernel
theorem dX5_seek_52 : decode cX5_seek 52 = .ok (.iload_n 3, 1) := by decide +kernel
theorem dX5_seek_53 : decode cX5_seek 53 = .ok (.iload 4, 2) := by decide +kernel
theorem dX5_seek_55 : decode cX5_seek 55 = .ok (.invokevirtual 110, 3) := by decide +kernel
theorem dX5_seek_58 : decode cX5_seek 58 = .ok (.iaload, 1) := by decide +kernel
theorem dX5_seek_59 : decode cX5_seek 59 = .ok (.iload_n 2, 1) := by decide +kernel
theorem dX5_seek_60 : decode cX5_seek 60 = .ok (.if_icmp .ne 23, 3) := by decide +kernel
theorem dX5_seek_63 : decode cX5_seek 63 = .ok (.aload_n 0, 1) := by decide +kernel
theorem dX5_seek_64 : decode cX5_seek 64 = .ok (.iload_n 3, 1) := by decide +kernel
theorem dX5_seek_65 : decode cX5_seek 65 = .ok (.putfield 114, 3) := by decide +kernel
theorem dX5_seek_68 : decode cX5_seek 68 = .ok (.aload_n 0, 1) := by decide +kernel
theorem dX5_seek_69 : decode cX5_seek 69 = .ok (.iload 4, 2) := by decide +kernel
theorem dX5_seek_71 : decode cX5_seek 71 = .ok (.putfield 117, 3) := by decide +kernel
theorem dX5_seek_74 : decode cX5_seek 74 = .ok (.aload_n 0, 1) := by decide +kernel
theorem dX5_seek_75 : decode cX5_seek 75 = .ok (.iload_n 1, 1) := by decide +kernel
theorem dX5_seek_76 : decode cX5_seek 76 = .ok (.iload_n 3, 1) := by decide +kernel
theorem dX5_seek_77 : decode cX5_seek 77 = .ok (.iload 4, 2) := by decide +kernel
theorem dX5_seek_79 : decode cX5_seek 79 = .ok (.invokevirtual 110, 3) := by decide +kernel
end
section
theorem dX5_seek_82 : decode cX5_seek 82 = .ok (.ireturn, 1) := by decide +kernel
theorem dX5_seek_83 : decode cX5_seek 83 = .ok (.iinc 4 1, 3) := by decide +kernel
theorem dX5_seek_86 : decode cX5_seek 86 = .ok (.goto (-60), 3) := by decide +kernel
theorem dX5_seek_89 : decode cX5_seek 89 = .ok (.iinc 3 1, 3) := by decide +kernel
theorem dX5_seek_92 : decode cX5_seek 92 = .ok (.goto (-90), 3) := by decide +kernel
theorem dX5_seek_95 : decode cX5_seek 95 = .ok (.iconst (-1), 1) := by decide +kernel
theorem dX5_seek_96 : decode cX5_seek 96 = .ok (.ireturn, 1) := by decide +kernel
theorem dX5_leads_0 : decode cX5_leads 0 = .ok (.bipush 8, 2) := by decide +kernel
theorem dX5_leads_2 : decode cX5_leads 2 = .ok (.iload_n 1, 1) := by decide +kernel
theorem dX5_leads_3 : decode cX5_leads 3 = .ok (.iadd, 1) := by decide +kernel
theorem dX5_leads_4 : decode cX5_leads 4 = .ok (.istore_n 3, 1) := by decide +kernel
theorem dX5_leads_5 : decode cX5_leads 5 = .ok (.aload_n 0, 1) := by decide +kernel
theorem dX5_leads_6 : decode cX5_leads 6 = .ok (.getfield 13, 3) := by decide +kernel
theorem dX5_leads_9 : decode cX5_leads 9 = .ok (.iload_n 3, 1) := by decide +kernel
theorem dX5_leads_10 : decode cX5_leads 10 = .ok (.iaload, 1) := by decide +kernel
theorem dX5_leads_11 : decode cX5_leads 11 = .ok (.iload_n 2, 1) := by decide +kernel
theorem dX5_leads_12 : decode cX5_leads 12 = .ok (.if_icmp .eq 18, 3) := by decide +kernel
theorem dX5_leads_15 : decode cX5_leads 15 = .ok (.bipush 16, 2) := by decide +kernel
theorem dX5_leads_17 : decode cX5_leads 17 = .ok (.aload_n 0, 1) := by decide +kernel
theorem dX5_leads_18 : decode cX5_leads 18 = .ok (.getfield 13, 3) := by decide +kernel
theorem dX5_leads_21 : decode cX5_leads 21 = .ok (.iload_n 3, 1) := by decide +kernel
theorem dX5_leads_22 : decode cX5_leads 22 = .ok (.iaload, 1) := by decide +kernel
theorem dX5_leads_23 : decode cX5_leads 23 = .ok (.imul, 1) := by decide +kernel
theorem dX5_leads_24 : decode cX5_leads 24 = .ok (.iconst 1, 1) := by decide +kernel
theorem dX5_leads_25 : decode cX5_leads 25 = .ok (.iadd, 1) := by decide +kernel
theorem dX5_leads_26 : decode cX5_leads 26 = .ok (.istore_n 3, 1) := by decide +kernel
theorem dX5_leads_27 : decode cX5_leads 27 = .ok (.goto (-22), 3) := by decide +kernel
theorem dX5_leads_30 : decode cX5_leads 30 = .ok (.iload_n 3, 1) := by decide +kernel
theorem dX5_leads_31 : decode cX5_leads 31 = .ok (.ireturn, 1) := by decide +kernel
set_option maxRecDepth 20000 in
theorem ggX5_lay_X5_wordOf : GoodIn wsX5_lay wsX5_wordOf := goodIn_r _ [7, 1, 14, 15, 16, 17, 18, 19, 20, 21, 22, 23, 24, 25, 26, 27, 28, 29, 30, 31] (by decide +kernel) (by decide +kernel)
set_option maxRecDepth 20000 in
theorem gX5_lay_X5_wordOf : GoodIn wsX5_lay (wsV RX5 110 RX5 yX5_wordOf wsX5_wordOf) := goodIn_app (goodIn_of _ (by decide +kernel)) ggX5_lay_X5_wordOf
set_option maxRecDepth 20000 in
theorem ggX5_lay_X5_change : GoodIn wsX5_lay wsX5_change := goodIn_r _ [11, 12, 13, 14, 15, 16, 17, 18, 19, 20, 21, 22, 23, 24, 25, 26, 27, 28, 29, 30, 31] (by decide +kernel) (by decide +kernel)
set_option maxRecDepth 20000 in
theorem gX5_lay_X5_change : GoodIn wsX5_lay (wsV RX5 101 RX5 yX5_change wsX5_change) := goodIn_app (goodIn_of _ (by decide +kernel)) ggX5_lay_X5_change
theorem dX5_lay_0 : decode cX5_lay 0 = .ok (.aload_n 0, 1) := by decide +kernel
theorem dX5_lay_1 : decode cX5_lay 1 = .ok (.getfield 13, 3) := by decide +kernel
theorem dX5_lay_4 : decode cX5_lay 4 = .ok (.bipush 16, 2) := by decide +kernel
theorem dX5_lay_6 : decode cX5_lay 6 = .ok (.iload_n 2, 1) := by decide +kernel
theorem dX5_lay_7 : decode cX5_lay 7 = .ok (.imul, 1) := by decide +kernel
theorem dX5_lay_8 : decode cX5_lay 8 = .ok (.iconst 2, 1) := by decide +kernel
theorem dX5_lay_9 : decode cX5_lay 9 = .ok (.iadd, 1) := by decide +kernel
theorem dX5_lay_10 : decode cX5_lay 10 = .ok (.aload_n 0, 1) := by decide +kernel
theorem dX5_lay_11 : decode cX5_lay 11 = .ok (.getfield 13, 3) := by decide +kernel
theorem dX5_lay_14 : decode cX5_lay 14 = .ok (.bipush 16, 2) := by decide +kernel
theorem dX5_lay_16 : decode cX5_lay 16 = .ok (.iload_n 2, 1) := by decide +kernel
theorem dX5_lay_17 : decode cX5_lay 17 = .ok (.imul, 1) := by decide +kernel
theorem dX5_lay_18 : decode cX5_lay 18 = .ok (.iconst 2, 1) := by decide +kernel
theorem dX5_lay_19 : decode cX5_lay 19 = .ok (.iadd, 1) := by decide +kernel
theorem dX5_lay_20 : decode cX5_lay 20 = .ok (.iaload, 1) := by decide +kernel
theorem dX5_lay_21 : decode cX5_lay 21 = .ok (.iconst 1, 1) := by decide +kernel
theorem dX5_lay_22 : decode cX5_lay 22 = .ok (.iload_n 3, 1) := by decide +kernel
theorem dX5_lay_23 : decode cX5_lay 23 = .ok (.ishl, 1) := by decide +kernel
theorem dX5_lay_24 : decode cX5_lay 24 = .ok (.ior, 1) := by decide +kernel
theorem dX5_lay_25 : decode cX5_lay 25 = .ok (.iastore, 1) := by decide +kernel
theorem dX5_lay_26 : decode cX5_lay 26 = .ok (.iconst 0, 1) := by decide +kernel
theorem dX5_lay_27 : decode cX5_lay 27 = .ok (.istore 4, 2) := by decide +kernel
theorem dX5_lay_29 : decode cX5_lay 29 = .ok (.iload 4, 2) := by decide +kernel
theorem dX5_lay_31 : decode cX5_lay 31 = .ok (.aload_n 0, 1) := by decide +kernel
theorem dX5_lay_32 : decode cX5_lay 32 = .ok (.getfield 13, 3) := by decide +kernel
theorem dX5_lay_35 : decode cX5_lay 35 = .ok (.iload_n 1, 1) := by decide +kernel
theorem dX5_lay_36 : decode cX5_lay 36 = .ok (.iaload, 1) := by decide +kernel
theorem dX5_lay_37 : decode cX5_lay 37 = .ok (.if_icmp .ge 31, 3) := by decide +kernel
theorem dX5_lay_40 : decode cX5_lay 40 = .ok (.aload_n 0, 1) := by decide +kernel
theorem dX5_lay_41 : decode cX5_lay 41 = .ok (.getfield 13, 3) := by decide +kernel
theorem dX5_lay_44 : decode cX5_lay 44 = .ok (.aload_n 0, 1) := by decide +kernel
theorem dX5_lay_45 : decode cX5_lay 45 = .ok (.iload_n 1, 1) := by decide +kernel
theorem dX5_lay_46 : decode cX5_lay 46 = .ok (.iload_n 2, 1) := by decide +kernel
theorem dX5_lay_47 : decode cX5_lay 47 = .ok (.iload_n 3, 1) := by decide +kernel
theorem dX5_lay_48 : decode cX5_lay 48 = .ok (.invokevirtual 110, 3) := by decide +kernel
theorem dX5_lay_51 : decode cX5_lay 51 = .ok (.iload 4, 2) := by decide +kernel
theorem dX5_lay_53 : decode cX5_lay 53 = .ok (.iadd, 1) := by decide +kernel
theorem dX5_lay_54 : decode cX5_lay 54 = .ok (.aload_n 0, 1) := by decide +kernel
theorem dX5_lay_55 : decode cX5_lay 55 = .ok (.getfield 19, 3) := by decide +kernel
theorem dX5_lay_58 : decode cX5_lay 58 = .ok (.iload 4, 2) := by decide +kernel
theorem dX5_lay_60 : decode cX5_lay 60 = .ok (.iaload, 1) := by decide +kernel
theorem dX5_lay_61 : decode cX5_lay 61 = .ok (.iastore, 1) := by decide +kernel
theorem dX5_lay_62 : decode cX5_lay 62 = .ok (.iinc 4 1, 3) := by decide +kernel
theorem dX5_lay_65 : decode cX5_lay 65 = .ok (.goto (-36), 3) := by decide +kernel
theorem dX5_lay_68 : decode cX5_lay 68 = .ok (.aload_n 0, 1) := by decide +kernel
theorem dX5_lay_69 : decode cX5_lay 69 = .ok (.iload_n 1, 1) := by decide +kernel
theorem dX5_lay_70 : decode cX5_lay 70 = .ok (.invokevirtual 101, 3) := by decide +kernel
theorem dX5_lay_73 : decode cX5_lay 73 = .ok (.return_, 1) := by decide +kernel
theorem dX5_freePage_0 : decode cX5_freePage 0 = .ok (.iconst 1, 1) := by decide +kernel
theorem dX5_freePage_1 : decode cX5_freePage 1 = .ok (.istore_n 1, 1) := by decide +kernel
theorem dX5_freePage_2 : decode cX5_freePage 2 = .ok (.iload_n 1, 1) := by decide +kernel
theorem dX5_freePage_3 : decode cX5_freePage 3 = .ok (.bipush 16, 2) := by decide +kernel
theorem dX5_freePage_5 : decode cX5_freePage 5 = .ok (.if_icmp .ge 23, 3) := by decide +kernel
theorem dX5_freePage_8 : decode cX5_freePage 8 = .ok (.aload_n 0, 1) := by decide +kernel
theorem dX5_freePage_9 : decode cX5_freePage 9 = .ok (.getfield 13, 3) := by decide +kernel
theorem dX5_freePage_12 : decode cX5_freePage 12 = .ok (.bipush 16, 2) := by decide +kernel
theorem dX5_freePage_14 : decode cX5_freePage 14 = .ok (.iload_n 1, 1) := by decide +kernel
theorem dX5_freePage_15 : decode cX5_freePage 15 = .ok (.imul, 1) := by decide +kernel
theorem dX5_freePage_16 : decode cX5_freePage 16 = .ok (.iaload, 1) := by decide +kernel
theorem dX5_freePage_17 : decode cX5_freePage 17 = .ok (.ifCond .ne 5, 3) := by decide +kernel
theorem dX5_freePage_20 : decode cX5_freePage 20 = .ok (.iload_n 1, 1) := by decide +kernel
theorem dX5_freePage_21 : decode cX5_freePage 21 = .ok (.ireturn, 1) := by decide +kernel
theorem dX5_freePage_22 : decode cX5_freePage 22 = .ok (.iinc 1 1, 3) := by decide +kernel
theorem dX5_freePage_25 : decode cX5_freePage 25 = .ok (.goto (-23), 3) := by decide +kernel
theorem dX5_freePage_28 : decode cX5_freePage 28 = .ok (.iconst 0, 1) := by decide +kernel
theorem dX5_freePage_29 : decode cX5_freePage 29 = .ok (.ireturn, 1) := by decide +kernel
set_option maxRecDepth 20000 in
theorem ggX5_insert_X5_noTable : GoodIn wsX5_insert wsX5_noTable := goodIn_r _ [9, 4, 42, 43, 44, 45, 46, 47, 48, 49, 50, 51, 52, 53, 54, 55, 56, 57, 58, 59] (by decide +kernel) (by decide +kernel)
set_option maxRecDepth 20000 in
theorem gX5_insert_X5_noTable : GoodIn wsX5_insert (wsV RX5 94 RX5 yX5_noTable wsX5_noTable) := goodIn_app (goodIn_of _ (by decide +kernel)) ggX5_insert_X5_noTable
set_option maxRecDepth 20000 in
theorem ggX5_insert_X5_seek : GoodIn wsX5_insert wsX5_seek := goodIn_r _ [13, 4, 14, 15, 16, 17, 18, 8, 19, 20, 21, 22, 23, 24, 25, 26, 27, 42, 43, 44, 45, 46, 47, 48, 49, 50, 51, 52, 53, 54, 55, 56, 57, 58, 59] (by decide +kernel) (by decide +kernel)
set_option maxRecDepth 20000 in
theorem gX5_insert_X5_seek : GoodIn wsX5_insert (wsV RX5 120 RX5 yX5_seek wsX5_seek) := goodIn_app (goodIn_of _ (by decide +kernel)) ggX5_insert_X5_seek
set_option maxRecDepth 20000 in
theorem ggX5_insert_X5_slots : GoodIn wsX5_insert wsX5_slots := goodIn_r _ [19, 4, 42, 43, 44, 45, 46, 47, 48, 49, 50, 51, 52, 53, 54, 55, 56, 57, 58, 59] (by decide +kernel) (by decide +kernel)
set_option maxRecDepth 20000 in
theorem gX5_insert_X5_slots : GoodIn wsX5_insert (wsV RX5 104 RX5 yX5_slots wsX5_slots) := goodIn_app (goodIn_of _ (by decide +kernel)) ggX5_insert_X5_slots
set_option maxRecDepth 20000 in
theorem ggX5_insert_X5_filled : GoodIn wsX5_insert wsX5_filled := goodIn_r _ [23, 4, 42, 43, 44, 45, 46, 47, 48, 49, 50, 51, 52, 53, 54, 55, 56, 57, 58, 59] (by decide +kernel) (by decide +kernel)
set_option maxRecDepth 20000 in
theorem gX5_insert_X5_filled : GoodIn wsX5_insert (wsV RX5 107 RX5 yX5_filled wsX5_filled) := goodIn_app (goodIn_of _ (by decide +kernel)) ggX5_insert_X5_filled
set_option maxRecDepth 20000 in
theorem ggX5_insert_X5_lay : GoodIn wsX5_insert wsX5_lay := goodIn_r _ [31, 4, 3, 24, 25, 26, 8, 27, 32, 33, 34, 35, 36, 37, 42, 43, 44, 45, 46, 47, 48, 49, 50, 51, 52, 53, 54, 55, 56, 57, 58, 59] (by decide +kernel) (by decide +kernel)
set_option maxRecDepth 20000 in
theorem gX5_insert_X5_lay : GoodIn wsX5_insert (wsV RX5 124 RX5 yX5_lay wsX5_lay) := goodIn_app (goodIn_of _ (by decide +kernel)) ggX5_insert_X5_lay
set_option maxRecDepth 20000 in
theorem ggX5_insert_X5_freePage : GoodIn wsX5_insert wsX5_freePage := goodIn_r _ [41, 4, 42, 43, 44, 45, 46, 47, 48, 49, 50, 51, 52, 53, 54, 55, 56, 57, 58, 59] (by decide +kernel) (by decide +kernel)
set_option maxRecDepth 20000 in
theorem gX5_insert_X5_freePage : GoodIn wsX5_insert (wsV RX5 128 RX5 yX5_freePage wsX5_freePage) := goodIn_app (goodIn_of _ (by decide +kernel)) ggX5_insert_X5_freePage
theorem dX5_insert_0 : decode cX5_insert 0 = .ok (.aload_n 0, 1) := by decide +kernel
theorem dX5_insert_1 : decode cX5_insert 1 = .ok (.getfield 51, 3) := by decide +kernel
theorem dX5_insert_4 : decode cX5_insert 4 = .ok (.ifCond .eq 5, 3) := by decide +kernel
theorem dX5_insert_7 : decode cX5_insert 7 = .ok (.iconst (-1), 1) := by decide +kernel
theorem dX5_insert_8 : decode cX5_insert 8 = .ok (.ireturn, 1) := by decide +kernel
theorem dX5_insert_9 : decode cX5_insert 9 = .ok (.aload_n 0, 1) := by decide +kernel
theorem dX5_insert_10 : decode cX5_insert 10 = .ok (.getfield 66, 3) := by decide +kernel
theorem dX5_insert_13 : decode cX5_insert 13 = .ok (.ifCond .ne 6, 3) := by decide +kernel
theorem dX5_insert_16 : decode cX5_insert 16 = .ok (.bipush (-2), 2) := by decide +kernel
theorem dX5_insert_18 : decode cX5_insert 18 = .ok (.ireturn, 1) := by decide +kernel
theorem dX5_insert_19 : decode cX5_insert 19 = .ok (.aload_n 0, 1) := by decide +kernel
theorem dX5_insert_20 : decode cX5_insert 20 = .ok (.iload_n 1, 1) := by decide +kernel
theorem dX5_insert_21 : decode cX5_insert 21 = .ok (.invokevirtual 94, 3) := by decide +kernel
theorem dX5_insert_24 : decode cX5_insert 24 = .ok (.ifCond .eq 6, 3) := by decide +kernel
theorem dX5_insert_27 : decode cX5_insert 27 = .ok (.bipush (-5), 2) := by decide +kernel
theorem dX5_insert_29 : decode cX5_insert 29 = .ok (.ireturn, 1) := by decide +kernel
theorem dX5_insert_30 : decode cX5_insert 30 = .ok (.aload_n 0, 1) := by decide +kernel
theorem dX5_insert_31 : decode cX5_insert 31 = .ok (.iload_n 1, 1) := by decide +kernel
theorem dX5_insert_32 : decode cX5_insert 32 = .ok (.aload_n 0, 1) := by decide +kernel
theorem dX5_insert_33 : decode cX5_insert 33 = .ok (.getfield 19, 3) := by decide +kernel
theorem dX5_insert_36 : decode cX5_insert 36 = .ok (.iconst 0, 1) := by decide +kernel
theorem dX5_insert_37 : decode cX5_insert 37 = .ok (.iaload, 1) := by decide +kernel
theorem dX5_insert_38 : decode cX5_insert 38 = .ok (.invokevirtual 120, 3) := by decide +kernel
theorem dX5_insert_41 : decode cX5_insert 41 = .ok (.ifCond .lt 6, 3) := by decide +kernel
theorem dX5_insert_44 : decode cX5_insert 44 = .ok (.bipush (-7), 2) := by decide +kernel
theorem dX5_insert_46 : decode cX5_insert 46 = .ok (.ireturn, 1) := by decide +kernel
theorem dX5_insert_47 : decode cX5_insert 47 = .ok (.bipush 8, 2) := by decide +kernel
theorem dX5_insert_49 : decode cX5_insert 49 = .ok (.iload_n 1, 1) := by decide +kernel
theorem dX5_insert_50 : decode cX5_insert 50 = .ok (.iadd, 1) := by decide +kernel
theorem dX5_insert_51 : decode cX5_insert 51 = .ok (.istore_n 2, 1) := by decide +kernel
theorem dX5_insert_52 : decode cX5_insert 52 = .ok (.aload_n 0, 1) := by decide +kernel
theorem dX5_insert_53 : decode cX5_insert 53 = .ok (.getfield 13, 3) := by decide +kernel
theorem dX5_insert_56 : decode cX5_insert 56 = .ok (.iload_n 2, 1) := by decide +kernel
theorem dX5_insert_57 : decode cX5_insert 57 = .ok (.iaload, 1) := by decide +kernel
theorem dX5_insert_58 : decode cX5_insert 58 = .ok (.ifCond .eq 59, 3) := by decide +kernel
theorem dX5_insert_61 : decode cX5_insert 61 = .ok (.aload_n 0, 1) := by decide +kernel
theorem dX5_insert_62 : decode cX5_insert 62 = .ok (.getfield 13, 3) := by decide +kernel
theorem dX5_insert_65 : decode cX5_insert 65 = .ok (.iload_n 2, 1) := by decide +kernel
theorem dX5_insert_66 : decode cX5_insert 66 = .ok (.iaload, 1) := by decide +kernel
theorem dX5_insert_67 : decode cX5_insert 67 = .ok (.istore_n 3, 1) := by decide +kernel
theorem dX5_insert_68 : decode cX5_insert 68 = .ok (.iconst 0, 1) := by decide +kernel
theorem dX5_insert_69 : decode cX5_insert 69 = .ok (.istore 4, 2) := by decide +kernel
theorem dX5_insert_71 : decode cX5_insert 71 = .ok (.iload 4, 2) := by decide +kernel
theorem dX5_insert_73 : decode cX5_insert 73 = .ok (.aload_n 0, 1) := by decide +kernel
theorem dX5_insert_74 : decode cX5_insert 74 = .ok (.iload_n 1, 1) := by decide +kernel
theorem dX5_insert_75 : decode cX5_insert 75 = .ok (.invokevirtual 104, 3) := by decide +kernel
theorem dX5_insert_78 : decode cX5_insert 78 = .ok (.if_icmp .ge 29, 3) := by decide +kernel
theorem dX5_insert_81 : decode cX5_insert 81 = .ok (.aload_n 0, 1) := by decide +kernel
theorem dX5_insert_82 : decode cX5_insert 82 = .ok (.iload_n 3, 1) := by decide +kernel
theorem dX5_insert_83 : decode cX5_insert 83 = .ok (.iload 4, 2) := by decide +kernel
theorem dX5_insert_85 : decode cX5_insert 85 = .ok (.invokevirtual 107, 3) := by decide +kernel
theorem dX5_insert_88 : decode cX5_insert 88 = .ok (.ifCond .ne 13, 3) := by decide +kernel
theorem dX5_insert_91 : decode cX5_insert 91 = .ok (.aload_n 0, 1) := by decide +kernel
theorem dX5_insert_92 : decode cX5_insert 92 = .ok (.iload_n 1, 1) := by decide +kernel
theorem dX5_insert_93 : decode cX5_insert 93 = .ok (.iload_n 3, 1) := by decide +kernel
theorem dX5_insert_94 : decode cX5_insert 94 = .ok (.iload 4, 2) := by decide +kernel
theorem dX5_insert_96 : decode cX5_insert 96 = .ok (.invokevirtual 124, 3) := by decide +kernel
theorem dX5_insert_99 : decode cX5_insert 99 = .ok (.iconst 0, 1) := by decide +kernel
theorem dX5_insert_100 : decode cX5_insert 100 = .ok (.ireturn, 1) := by decide +kernel
theorem dX5_insert_101 : decode cX5_insert 101 = .ok (.iinc 4 1, 3) := by decide +kernel
theorem dX5_insert_104 : decode cX5_insert 104 = .ok (.goto (-33), 3) := by decide +kernel
theorem dX5_insert_107 : decode cX5_insert 107 = .ok (.bipush 16, 2) := by decide +kernel
theorem dX5_insert_109 : decode cX5_insert 109 = .ok (.iload_n 3, 1) := by decide +kernel
theorem dX5_insert_110 : decode cX5_insert 110 = .ok (.imul, 1) := by decide +kernel
theorem dX5_insert_111 : decode cX5_insert 111 = .ok (.iconst 1, 1) := by decide +kernel
theorem dX5_insert_112 : decode cX5_insert 112 = .ok (.iadd, 1) := by decide +kernel
theorem dX5_insert_113 : decode cX5_insert 113 = .ok (.istore_n 2, 1) := by decide +kernel
theorem dX5_insert_114 : decode cX5_insert 114 = .ok (.goto (-62), 3) := by decide +kernel
theorem dX5_insert_117 : decode cX5_insert 117 = .ok (.aload_n 0, 1) := by decide +kernel
theorem dX5_insert_118 : decode cX5_insert 118 = .ok (.invokevirtual 128, 3) := by decide +kernel
theorem dX5_insert_121 : decode cX5_insert 121 = .ok (.istore_n 3, 1) := by decide +kernel
theorem dX5_insert_122 : decode cX5_insert 122 = .ok (.iload_n 3, 1) := by decide +kernel
theorem dX5_insert_123 : decode cX5_insert 123 = .ok (.ifCond .ne 6, 3) := by decide +kernel
theorem dX5_insert_126 : decode cX5_insert 126 = .ok (.bipush (-8), 2) := by decide +kernel
theorem dX5_insert_128 : decode cX5_insert 128 = .ok (.ireturn, 1) := by decide +kernel
theorem dX5_insert_129 : decode cX5_insert 129 = .ok (.aload_n 0, 1) := by decide +kernel
theorem dX5_insert_130 : decode cX5_insert 130 = .ok (.getfield 13, 3) := by decide +kernel
theorem dX5_insert_133 : decode cX5_insert 133 = .ok (.iload_n 2, 1) := by decide +kernel
theorem dX5_insert_134 : decode cX5_insert 134 = .ok (.iload_n 3, 1) := by decide +kernel
theorem dX5_insert_135 : decode cX5_insert 135 = .ok (.iastore, 1) := by decide +kernel
theorem dX5_insert_136 : decode cX5_insert 136 = .ok (.aload_n 0, 1) := by decide +kernel
theorem dX5_insert_137 : decode cX5_insert 137 = .ok (.getfield 13, 3) := by decide +kernel
theorem dX5_insert_140 : decode cX5_insert 140 = .ok (.bipush 16, 2) := by decide +kernel
theorem dX5_insert_142 : decode cX5_insert 142 = .ok (.iload_n 3, 1) := by decide +kernel
theorem dX5_insert_143 : decode cX5_insert 143 = .ok (.imul, 1) := by decide +kernel
theorem dX5_insert_144 : decode cX5_insert 144 = .ok (.iload_n 1, 1) := by decide +kernel
theorem dX5_insert_145 : decode cX5_insert 145 = .ok (.iconst 1, 1) := by decide +kernel
theorem dX5_insert_146 : decode cX5_insert 146 = .ok (.iadd, 1) := by decide +kernel
theorem dX5_insert_147 : decode cX5_insert 147 = .ok (.iastore, 1) := by decide +kernel
theorem dX5_insert_148 : decode cX5_insert 148 = .ok (.aload_n 0, 1) := by decide +kernel
theorem dX5_insert_149 : decode cX5_insert 149 = .ok (.iload_n 1, 1) := by decide +kernel
theorem dX5_insert_150 : decode cX5_insert 150 = .ok (.iload_n 3, 1) := by decide +kernel
theorem dX5_insert_151 : decode cX5_insert 151 = .ok (.iconst 0, 1) := by decide +kernel
theorem dX5_insert_152 : decode cX5_insert 152 = .ok (.invokevirtual 124, 3) := by decide +kernel
theorem dX5_insert_155 : decode cX5_insert 155 = .ok (.iconst 0, 1) := by decide +kernel
theorem dX5_insert_156 : decode cX5_insert 156 = .ok (.ireturn, 1) := by decide +kernel
set_option maxRecDepth 20000 in
theorem ggX5_deleteKey_X5_noTable : GoodIn wsX5_deleteKey wsX5_noTable := goodIn_r _ [10, 4, 41, 42, 43, 44, 45, 46, 47, 48, 49, 50, 51, 52, 53, 54, 55, 56, 57, 58] (by decide +kernel) (by decide +kernel)
set_option maxRecDepth 20000 in
theorem gX5_deleteKey_X5_noTable : GoodIn wsX5_deleteKey (wsV RX5 94 RX5 yX5_noTable wsX5_noTable) := goodIn_app (goodIn_of _ (by decide +kernel)) ggX5_deleteKey_X5_noTable
set_option maxRecDepth 20000 in
theorem ggX5_deleteKey_X5_seek : GoodIn wsX5_deleteKey wsX5_seek := goodIn_r _ [14, 4, 3, 5, 15, 16, 17, 9, 18, 19, 20, 21, 22, 23, 24, 25, 26, 41, 42, 43, 44, 45, 46, 47, 48, 49, 50, 51, 52, 53, 54, 55, 56, 57, 58] (by decide +kernel) (by decide +kernel)
set_option maxRecDepth 20000 in
theorem gX5_deleteKey_X5_seek : GoodIn wsX5_deleteKey (wsV RX5 120 RX5 yX5_seek wsX5_seek) := goodIn_app (goodIn_of _ (by decide +kernel)) ggX5_deleteKey_X5_seek
set_option maxRecDepth 20000 in
theorem ggX5_deleteKey_X5_leads : GoodIn wsX5_deleteKey wsX5_leads := goodIn_r _ [30, 4, 41, 42, 43, 44, 45, 46, 47, 48, 49, 50, 51, 52, 53, 54, 55, 56, 57, 58] (by decide +kernel) (by decide +kernel)
set_option maxRecDepth 20000 in
theorem gX5_deleteKey_X5_leads : GoodIn wsX5_deleteKey (wsV RX5 131 RX5 yX5_leads wsX5_leads) := goodIn_app (goodIn_of _ (by decide +kernel)) ggX5_deleteKey_X5_leads
set_option maxRecDepth 20000 in
theorem ggX5_deleteKey_X5_clearPage : GoodIn wsX5_deleteKey wsX5_clearPage := goodIn_r _ [34, 4, 41, 42, 43, 44, 45, 46, 47, 48, 49, 50, 51, 52, 53, 54, 55, 56, 57, 58] (by decide +kernel) (by decide +kernel)
set_option maxRecDepth 20000 in
theorem gX5_deleteKey_X5_clearPage : GoodIn wsX5_deleteKey (wsV RX5 97 RX5 yX5_clearPage wsX5_clearPage) := goodIn_app (goodIn_of _ (by decide +kernel)) ggX5_deleteKey_X5_clearPage
set_option maxRecDepth 20000 in
theorem ggX5_deleteKey_X5_change : GoodIn wsX5_deleteKey wsX5_change := goodIn_r _ [38, 39, 40, 41, 42, 43, 44, 45, 46, 47, 48, 49, 50, 51, 52, 53, 54, 55, 56, 57, 58] (by decide +kernel) (by decide +kernel)
set_option maxRecDepth 20000 in
theorem gX5_deleteKey_X5_change : GoodIn wsX5_deleteKey (wsV RX5 101 RX5 yX5_change wsX5_change) := goodIn_app (goodIn_of _ (by decide +kernel)) ggX5_deleteKey_X5_change
theorem dX5_deleteKey_0 : decode cX5_deleteKey 0 = .ok (.aload_n 0, 1) := by decide +kernel
theorem dX5_deleteKey_1 : decode cX5_deleteKey 1 = .ok (.getfield 51, 3) := by decide +kernel
theorem dX5_deleteKey_4 : decode cX5_deleteKey 4 = .ok (.ifCond .eq 5, 3) := by decide +kernel
theorem dX5_deleteKey_7 : decode cX5_deleteKey 7 = .ok (.iconst (-1), 1) := by decide +kernel
theorem dX5_deleteKey_8 : decode cX5_deleteKey 8 = .ok (.ireturn, 1) := by decide +kernel
theorem dX5_deleteKey_9 : decode cX5_deleteKey 9 = .ok (.aload_n 0, 1) := by decide +kernel
theorem dX5_deleteKey_10 : decode cX5_deleteKey 10 = .ok (.getfield 66, 3) := by decide +kernel
theorem dX5_deleteKey_13 : decode cX5_deleteKey 13 = .ok (.ifCond .ne 6, 3) := by decide +kernel
theorem dX5_deleteKey_16 : decode cX5_deleteKey 16 = .ok (.bipush (-2), 2) := by decide +kernel
theorem dX5_deleteKey_18 : decode cX5_deleteKey 18 = .ok (.ireturn, 1) := by decide +kernel
theorem dX5_deleteKey_19 : decode cX5_deleteKey 19 = .ok (.aload_n 0, 1) := by decide +kernel
theorem dX5_deleteKey_20 : decode cX5_deleteKey 20 = .ok (.iload_n 1, 1) := by decide +kernel
theorem dX5_deleteKey_21 : decode cX5_deleteKey 21 = .ok (.invokevirtual 94, 3) := by decide +kernel
theorem dX5_deleteKey_24 : decode cX5_deleteKey 24 = .ok (.ifCond .eq 6, 3) := by decide +kernel
theorem dX5_deleteKey_27 : decode cX5_deleteKey 27 = .ok (.bipush (-5), 2) := by decide +kernel
theorem dX5_deleteKey_29 : decode cX5_deleteKey 29 = .ok (.ireturn, 1) := by decide +kernel
theorem dX5_deleteKey_30 : decode cX5_deleteKey 30 = .ok (.aload_n 0, 1) := by decide +kernel
theorem dX5_deleteKey_31 : decode cX5_deleteKey 31 = .ok (.iload_n 1, 1) := by decide +kernel
theorem dX5_deleteKey_32 : decode cX5_deleteKey 32 = .ok (.iload_n 2, 1) := by decide +kernel
theorem dX5_deleteKey_33 : decode cX5_deleteKey 33 = .ok (.invokevirtual 120, 3) := by decide +kernel
theorem dX5_deleteKey_36 : decode cX5_deleteKey 36 = .ok (.istore_n 3, 1) := by decide +kernel
theorem dX5_deleteKey_37 : decode cX5_deleteKey 37 = .ok (.iload_n 3, 1) := by decide +kernel
theorem dX5_deleteKey_38 : decode cX5_deleteKey 38 = .ok (.ifCond .ge 6, 3) := by decide +kernel
theorem dX5_deleteKey_41 : decode cX5_deleteKey 41 = .ok (.bipush (-6), 2) := by decide +kernel
theorem dX5_deleteKey_43 : decode cX5_deleteKey 43 = .ok (.ireturn, 1) := by decide +kernel
theorem dX5_deleteKey_44 : decode cX5_deleteKey 44 = .ok (.aload_n 0, 1) := by decide +kernel
theorem dX5_deleteKey_45 : decode cX5_deleteKey 45 = .ok (.getfield 114, 3) := by decide +kernel
theorem dX5_deleteKey_48 : decode cX5_deleteKey 48 = .ok (.istore 4, 2) := by decide +kernel
theorem dX5_deleteKey_50 : decode cX5_deleteKey 50 = .ok (.iconst 0, 1) := by decide +kernel
theorem dX5_deleteKey_51 : decode cX5_deleteKey 51 = .ok (.istore 5, 2) := by decide +kernel
theorem dX5_deleteKey_53 : decode cX5_deleteKey 53 = .ok (.iload 5, 2) := by decide +kernel
theorem dX5_deleteKey_55 : decode cX5_deleteKey 55 = .ok (.aload_n 0, 1) := by decide +kernel
theorem dX5_deleteKey_56 : decode cX5_deleteKey 56 = .ok (.getfield 13, 3) := by decide +kernel
theorem dX5_deleteKey_59 : decode cX5_deleteKey 59 = .ok (.iload_n 1, 1) := by decide +kernel
theorem dX5_deleteKey_60 : decode cX5_deleteKey 60 = .ok (.iaload, 1) := by decide +kernel
theorem dX5_deleteKey_61 : decode cX5_deleteKey 61 = .ok (.if_icmp .ge 19, 3) := by decide +kernel
theorem dX5_deleteKey_64 : decode cX5_deleteKey 64 = .ok (.aload_n 0, 1) := by decide +kernel
theorem dX5_deleteKey_65 : decode cX5_deleteKey 65 = .ok (.getfield 13, 3) := by decide +kernel
theorem dX5_deleteKey_68 : decode cX5_deleteKey 68 = .ok (.iload_n 3, 1) := by decide +kernel
theorem dX5_deleteKey_69 : decode cX5_deleteKey 69 = .ok (.iload 5, 2) := by decide +kernel
theorem dX5_deleteKey_71 : decode cX5_deleteKey 71 = .ok (.iadd, 1) := by decide +kernel
theorem dX5_deleteKey_72 : decode cX5_deleteKey 72 = .ok (.iconst 0, 1) := by decide +kernel
theorem dX5_deleteKey_73 : decode cX5_deleteKey 73 = .ok (.iastore, 1) := by decide +kernel
theorem dX5_deleteKey_74 : decode cX5_deleteKey 74 = .ok (.iinc 5 1, 3) := by decide +kernel
theorem dX5_deleteKey_77 : decode cX5_deleteKey 77 = .ok (.goto (-24), 3) := by decide +kernel
theorem dX5_deleteKey_80 : decode cX5_deleteKey 80 = .ok (.aload_n 0, 1) := by decide +kernel
theorem dX5_deleteKey_81 : decode cX5_deleteKey 81 = .ok (.getfield 13, 3) := by decide +kernel
theorem dX5_deleteKey_84 : decode cX5_deleteKey 84 = .ok (.bipush 16, 2) := by decide +kernel
theorem dX5_deleteKey_86 : decode cX5_deleteKey 86 = .ok (.iload 4, 2) := by decide +kernel
theorem dX5_deleteKey_88 : decode cX5_deleteKey 88 = .ok (.imul, 1) := by decide +kernel
theorem dX5_deleteKey_89 : decode cX5_deleteKey 89 = .ok (.iconst 2, 1) := by decide +kernel
theorem dX5_deleteKey_90 : decode cX5_deleteKey 90 = .ok (.iadd, 1) := by decide +kernel
theorem dX5_deleteKey_91 : decode cX5_deleteKey 91 = .ok (.aload_n 0, 1) := by decide +kernel
theorem dX5_deleteKey_92 : decode cX5_deleteKey 92 = .ok (.getfield 13, 3) := by decide +kernel
theorem dX5_deleteKey_95 : decode cX5_deleteKey 95 = .ok (.bipush 16, 2) := by decide +kernel
theorem dX5_deleteKey_97 : decode cX5_deleteKey 97 = .ok (.iload 4, 2) := by decide +kernel
theorem dX5_deleteKey_99 : decode cX5_deleteKey 99 = .ok (.imul, 1) := by decide +kernel
theorem dX5_deleteKey_100 : decode cX5_deleteKey 100 = .ok (.iconst 2, 1) := by decide +kernel
theorem dX5_deleteKey_101 : decode cX5_deleteKey 101 = .ok (.iadd, 1) := by decide +kernel
theorem dX5_deleteKey_102 : decode cX5_deleteKey 102 = .ok (.iaload, 1) := by decide +kernel
theorem dX5_deleteKey_103 : decode cX5_deleteKey 103 = .ok (.iconst 1, 1) := by decide +kernel
theorem dX5_deleteKey_104 : decode cX5_deleteKey 104 = .ok (.aload_n 0, 1) := by decide +kernel
theorem dX5_deleteKey_105 : decode cX5_deleteKey 105 = .ok (.getfield 117, 3) := by decide +kernel
theorem dX5_deleteKey_108 : decode cX5_deleteKey 108 = .ok (.ishl, 1) := by decide +kernel
theorem dX5_deleteKey_109 : decode cX5_deleteKey 109 = .ok (.iconst (-1), 1) := by decide +kernel
theorem dX5_deleteKey_110 : decode cX5_deleteKey 110 = .ok (.ixor, 1) := by decide +kernel
theorem dX5_deleteKey_111 : decode cX5_deleteKey 111 = .ok (.iand, 1) := by decide +kernel
theorem dX5_deleteKey_112 : decode cX5_deleteKey 112 = .ok (.iastore, 1) := by decide +kernel
theorem dX5_deleteKey_113 : decode cX5_deleteKey 113 = .ok (.aload_n 0, 1) := by decide +kernel
theorem dX5_deleteKey_114 : decode cX5_deleteKey 114 = .ok (.getfield 13, 3) := by decide +kernel
theorem dX5_deleteKey_117 : decode cX5_deleteKey 117 = .ok (.bipush 16, 2) := by decide +kernel
theorem dX5_deleteKey_119 : decode cX5_deleteKey 119 = .ok (.iload 4, 2) := by decide +kernel
theorem dX5_deleteKey_121 : decode cX5_deleteKey 121 = .ok (.imul, 1) := by decide +kernel
theorem dX5_deleteKey_122 : decode cX5_deleteKey 122 = .ok (.iconst 2, 1) := by decide +kernel
theorem dX5_deleteKey_123 : decode cX5_deleteKey 123 = .ok (.iadd, 1) := by decide +kernel
theorem dX5_deleteKey_124 : decode cX5_deleteKey 124 = .ok (.iaload, 1) := by decide +kernel
theorem dX5_deleteKey_125 : decode cX5_deleteKey 125 = .ok (.ifCond .ne 33, 3) := by decide +kernel
theorem dX5_deleteKey_128 : decode cX5_deleteKey 128 = .ok (.aload_n 0, 1) := by decide +kernel
theorem dX5_deleteKey_129 : decode cX5_deleteKey 129 = .ok (.getfield 13, 3) := by decide +kernel
theorem dX5_deleteKey_132 : decode cX5_deleteKey 132 = .ok (.aload_n 0, 1) := by decide +kernel
theorem dX5_deleteKey_133 : decode cX5_deleteKey 133 = .ok (.iload_n 1, 1) := by decide +kernel
theorem dX5_deleteKey_134 : decode cX5_deleteKey 134 = .ok (.iload 4, 2) := by decide +kernel
theorem dX5_deleteKey_136 : decode cX5_deleteKey 136 = .ok (.invokevirtual 131, 3) := by decide +kernel
theorem dX5_deleteKey_139 : decode cX5_deleteKey 139 = .ok (.aload_n 0, 1) := by decide +kernel
theorem dX5_deleteKey_140 : decode cX5_deleteKey 140 = .ok (.getfield 13, 3) := by decide +kernel
theorem dX5_deleteKey_143 : decode cX5_deleteKey 143 = .ok (.bipush 16, 2) := by decide +kernel
theorem dX5_deleteKey_145 : decode cX5_deleteKey 145 = .ok (.iload 4, 2) := by decide +kernel
theorem dX5_deleteKey_147 : decode cX5_deleteKey 147 = .ok (.imul, 1) := by decide +kernel
theorem dX5_deleteKey_148 : decode cX5_deleteKey 148 = .ok (.iconst 1, 1) := by decide +kernel
theorem dX5_deleteKey_149 : decode cX5_deleteKey 149 = .ok (.iadd, 1) := by decide +kernel
theorem dX5_deleteKey_150 : decode cX5_deleteKey 150 = .ok (.iaload, 1) := by decide +kernel
theorem dX5_deleteKey_151 : decode cX5_deleteKey 151 = .ok (.iastore, 1) := by decide +kernel
theorem dX5_deleteKey_152 : decode cX5_deleteKey 152 = .ok (.aload_n 0, 1) := by decide +kernel
theorem dX5_deleteKey_153 : decode cX5_deleteKey 153 = .ok (.iload 4, 2) := by decide +kernel
theorem dX5_deleteKey_155 : decode cX5_deleteKey 155 = .ok (.invokevirtual 97, 3) := by decide +kernel
theorem dX5_deleteKey_158 : decode cX5_deleteKey 158 = .ok (.aload_n 0, 1) := by decide +kernel
theorem dX5_deleteKey_159 : decode cX5_deleteKey 159 = .ok (.iload_n 1, 1) := by decide +kernel
theorem dX5_deleteKey_160 : decode cX5_deleteKey 160 = .ok (.invokevirtual 101, 3) := by decide +kernel
theorem dX5_deleteKey_163 : decode cX5_deleteKey 163 = .ok (.iconst 0, 1) := by decide +kernel
theorem dX5_deleteKey_164 : decode cX5_deleteKey 164 = .ok (.ireturn, 1) := by decide +kernel
set_option maxRecDepth 20000 in
theorem ggX5_updateCol_X5_noTable : GoodIn wsX5_updateCol wsX5_noTable := goodIn_r _ [8, 3, 33, 34, 35, 36, 37, 38, 39, 40, 41, 42, 43, 44, 45, 46, 47, 48, 49, 50] (by decide +kernel) (by decide +kernel)
set_option maxRecDepth 20000 in
theorem gX5_updateCol_X5_noTable : GoodIn wsX5_updateCol (wsV RX5 94 RX5 yX5_noTable wsX5_noTable) := goodIn_app (goodIn_of _ (by decide +kernel)) ggX5_updateCol_X5_noTable
set_option maxRecDepth 20000 in
theorem ggX5_updateCol_X5_seek : GoodIn wsX5_updateCol wsX5_seek := goodIn_r _ [12, 3, 13, 14, 15, 16, 17, 7, 18, 19, 20, 21, 22, 23, 24, 25, 26, 33, 34, 35, 36, 37, 38, 39, 40, 41, 42, 43, 44, 45, 46, 47, 48, 49, 50] (by decide +kernel) (by decide +kernel)
set_option maxRecDepth 20000 in
theorem gX5_updateCol_X5_seek : GoodIn wsX5_updateCol (wsV RX5 120 RX5 yX5_seek wsX5_seek) := goodIn_app (goodIn_of _ (by decide +kernel)) ggX5_updateCol_X5_seek
set_option maxRecDepth 20000 in
theorem ggX5_updateCol_X5_change : GoodIn wsX5_updateCol wsX5_change := goodIn_r _ [30, 31, 32, 33, 34, 35, 36, 37, 38, 39, 40, 41, 42, 43, 44, 45, 46, 47, 48, 49, 50] (by decide +kernel) (by decide +kernel)
set_option maxRecDepth 20000 in
theorem gX5_updateCol_X5_change : GoodIn wsX5_updateCol (wsV RX5 101 RX5 yX5_change wsX5_change) := goodIn_app (goodIn_of _ (by decide +kernel)) ggX5_updateCol_X5_change
theorem dX5_updateCol_0 : decode cX5_updateCol 0 = .ok (.aload_n 0, 1) := by decide +kernel
theorem dX5_updateCol_1 : decode cX5_updateCol 1 = .ok (.getfield 51, 3) := by decide +kernel
theorem dX5_updateCol_4 : decode cX5_updateCol 4 = .ok (.ifCond .eq 5, 3) := by decide +kernel
theorem dX5_updateCol_7 : decode cX5_updateCol 7 = .ok (.iconst (-1), 1) := by decide +kernel
theorem dX5_updateCol_8 : decode cX5_updateCol 8 = .ok (.ireturn, 1) := by decide +kernel
theorem dX5_updateCol_9 : decode cX5_updateCol 9 = .ok (.aload_n 0, 1) := by decide +kernel
theorem dX5_updateCol_10 : decode cX5_updateCol 10 = .ok (.getfield 66, 3) := by decide +kernel
theorem dX5_updateCol_13 : decode cX5_updateCol 13 = .ok (.ifCond .ne 6, 3) := by decide +kernel
theorem dX5_updateCol_16 : decode cX5_updateCol 16 = .ok (.bipush (-2), 2) := by decide +kernel
theorem dX5_updateCol_18 : decode cX5_updateCol 18 = .ok (.ireturn, 1) := by decide +kernel
theorem dX5_updateCol_19 : decode cX5_updateCol 19 = .ok (.aload_n 0, 1) := by decide +kernel
theorem dX5_updateCol_20 : decode cX5_updateCol 20 = .ok (.iload_n 1, 1) := by decide +kernel
theorem dX5_updateCol_21 : decode cX5_updateCol 21 = .ok (.invokevirtual 94, 3) := by decide +kernel
theorem dX5_updateCol_24 : decode cX5_updateCol 24 = .ok (.ifCond .eq 6, 3) := by decide +kernel
theorem dX5_updateCol_27 : decode cX5_updateCol 27 = .ok (.bipush (-5), 2) := by decide +kernel
theorem dX5_updateCol_29 : decode cX5_updateCol 29 = .ok (.ireturn, 1) := by decide +kernel
theorem dX5_updateCol_30 : decode cX5_updateCol 30 = .ok (.iload_n 3, 1) := by decide +kernel
theorem dX5_updateCol_31 : decode cX5_updateCol 31 = .ok (.iconst 1, 1) := by decide +kernel
theorem dX5_updateCol_32 : decode cX5_updateCol 32 = .ok (.if_icmp .lt 13, 3) := by decide +kernel
theorem dX5_updateCol_35 : decode cX5_updateCol 35 = .ok (.iload_n 3, 1) := by decide +kernel
theorem dX5_updateCol_36 : decode cX5_updateCol 36 = .ok (.aload_n 0, 1) := by decide +kernel
theorem dX5_updateCol_37 : decode cX5_updateCol 37 = .ok (.getfield 13, 3) := by decide +kernel
theorem dX5_updateCol_40 : decode cX5_updateCol 40 = .ok (.iload_n 1, 1) := by decide +kernel
theorem dX5_updateCol_41 : decode cX5_updateCol 41 = .ok (.iaload, 1) := by decide +kernel
theorem dX5_updateCol_42 : decode cX5_updateCol 42 = .ok (.if_icmp .lt 6, 3) := by decide +kernel
theorem dX5_updateCol_45 : decode cX5_updateCol 45 = .ok (.bipush (-4), 2) := by decide +kernel
theorem dX5_updateCol_47 : decode cX5_updateCol 47 = .ok (.ireturn, 1) := by decide +kernel
theorem dX5_updateCol_48 : decode cX5_updateCol 48 = .ok (.aload_n 0, 1) := by decide +kernel
theorem dX5_updateCol_49 : decode cX5_updateCol 49 = .ok (.iload_n 1, 1) := by decide +kernel
theorem dX5_updateCol_50 : decode cX5_updateCol 50 = .ok (.iload_n 2, 1) := by decide +kernel
theorem dX5_updateCol_51 : decode cX5_updateCol 51 = .ok (.invokevirtual 120, 3) := by decide +kernel
theorem dX5_updateCol_54 : decode cX5_updateCol 54 = .ok (.istore 5, 2) := by decide +kernel
theorem dX5_updateCol_56 : decode cX5_updateCol 56 = .ok (.iload 5, 2) := by decide +kernel
theorem dX5_updateCol_58 : decode cX5_updateCol 58 = .ok (.ifCond .ge 6, 3) := by decide +kernel
theorem dX5_updateCol_61 : decode cX5_updateCol 61 = .ok (.bipush (-6), 2) := by decide +kernel
theorem dX5_updateCol_63 : decode cX5_updateCol 63 = .ok (.ireturn, 1) := by decide +kernel
theorem dX5_updateCol_64 : decode cX5_updateCol 64 = .ok (.aload_n 0, 1) := by decide +kernel
theorem dX5_updateCol_65 : decode cX5_updateCol 65 = .ok (.getfield 13, 3) := by decide +kernel
theorem dX5_updateCol_68 : decode cX5_updateCol 68 = .ok (.iload 5, 2) := by decide +kernel
theorem dX5_updateCol_70 : decode cX5_updateCol 70 = .ok (.iload_n 3, 1) := by decide +kernel
theorem dX5_updateCol_71 : decode cX5_updateCol 71 = .ok (.iadd, 1) := by decide +kernel
theorem dX5_updateCol_72 : decode cX5_updateCol 72 = .ok (.iload 4, 2) := by decide +kernel
theorem dX5_updateCol_74 : decode cX5_updateCol 74 = .ok (.iastore, 1) := by decide +kernel
theorem dX5_updateCol_75 : decode cX5_updateCol 75 = .ok (.aload_n 0, 1) := by decide +kernel
theorem dX5_updateCol_76 : decode cX5_updateCol 76 = .ok (.iload_n 1, 1) := by decide +kernel
end
section
theorem dX5_updateCol_77 : decode cX5_updateCol 77 = .ok (.invokevirtual 101, 3) := by decide +kernel
theorem dX5_updateCol_80 : decode cX5_updateCol 80 = .ok (.iconst 0, 1) := by decide +kernel
theorem dX5_updateCol_81 : decode cX5_updateCol 81 = .ok (.ireturn, 1) := by decide +kernel
set_option maxRecDepth 20000 in
theorem ggX5_lookup_X5_noTable : GoodIn wsX5_lookup wsX5_noTable := goodIn_r _ [7, 2, 26, 27, 28, 29, 30, 31, 32, 33, 34, 35, 36, 37, 38, 39, 40, 41, 42, 43] (by decide +kernel) (by decide +kernel)
set_option maxRecDepth 20000 in
theorem gX5_lookup_X5_noTable : GoodIn wsX5_lookup (wsV RX5 94 RX5 yX5_noTable wsX5_noTable) := goodIn_app (goodIn_of _ (by decide +kernel)) ggX5_lookup_X5_noTable
set_option maxRecDepth 20000 in
theorem ggX5_lookup_X5_seek : GoodIn wsX5_lookup wsX5_seek := goodIn_r _ [11, 2, 12, 13, 14, 15, 16, 6, 17, 18, 19, 20, 21, 22, 23, 24, 25, 26, 27, 28, 29, 30, 31, 32, 33, 34, 35, 36, 37, 38, 39, 40, 41, 42, 43] (by decide +kernel) (by decide +kernel)
set_option maxRecDepth 20000 in
theorem gX5_lookup_X5_seek : GoodIn wsX5_lookup (wsV RX5 120 RX5 yX5_seek wsX5_seek) := goodIn_app (goodIn_of _ (by decide +kernel)) ggX5_lookup_X5_seek
theorem dX5_lookup_0 : decode cX5_lookup 0 = .ok (.aload_n 0, 1) := by decide +kernel
theorem dX5_lookup_1 : decode cX5_lookup 1 = .ok (.getfield 51, 3) := by decide +kernel
theorem dX5_lookup_4 : decode cX5_lookup 4 = .ok (.ifCond .ne 25, 3) := by decide +kernel
theorem dX5_lookup_7 : decode cX5_lookup 7 = .ok (.aload_n 0, 1) := by decide +kernel
theorem dX5_lookup_8 : decode cX5_lookup 8 = .ok (.iload_n 1, 1) := by decide +kernel
theorem dX5_lookup_9 : decode cX5_lookup 9 = .ok (.invokevirtual 94, 3) := by decide +kernel
theorem dX5_lookup_12 : decode cX5_lookup 12 = .ok (.ifCond .ne 17, 3) := by decide +kernel
theorem dX5_lookup_15 : decode cX5_lookup 15 = .ok (.iload_n 3, 1) := by decide +kernel
theorem dX5_lookup_16 : decode cX5_lookup 16 = .ok (.ifCond .lt 13, 3) := by decide +kernel
theorem dX5_lookup_19 : decode cX5_lookup 19 = .ok (.iload_n 3, 1) := by decide +kernel
theorem dX5_lookup_20 : decode cX5_lookup 20 = .ok (.aload_n 0, 1) := by decide +kernel
theorem dX5_lookup_21 : decode cX5_lookup 21 = .ok (.getfield 13, 3) := by decide +kernel
theorem dX5_lookup_24 : decode cX5_lookup 24 = .ok (.iload_n 1, 1) := by decide +kernel
theorem dX5_lookup_25 : decode cX5_lookup 25 = .ok (.iaload, 1) := by decide +kernel
theorem dX5_lookup_26 : decode cX5_lookup 26 = .ok (.if_icmp .lt 5, 3) := by decide +kernel
theorem dX5_lookup_29 : decode cX5_lookup 29 = .ok (.iconst 0, 1) := by decide +kernel
theorem dX5_lookup_30 : decode cX5_lookup 30 = .ok (.ireturn, 1) := by decide +kernel
theorem dX5_lookup_31 : decode cX5_lookup 31 = .ok (.aload_n 0, 1) := by decide +kernel
theorem dX5_lookup_32 : decode cX5_lookup 32 = .ok (.iload_n 1, 1) := by decide +kernel
theorem dX5_lookup_33 : decode cX5_lookup 33 = .ok (.iload_n 2, 1) := by decide +kernel
theorem dX5_lookup_34 : decode cX5_lookup 34 = .ok (.invokevirtual 120, 3) := by decide +kernel
theorem dX5_lookup_37 : decode cX5_lookup 37 = .ok (.istore 4, 2) := by decide +kernel
theorem dX5_lookup_39 : decode cX5_lookup 39 = .ok (.iload 4, 2) := by decide +kernel
theorem dX5_lookup_41 : decode cX5_lookup 41 = .ok (.ifCond .ge 7, 3) := by decide +kernel
theorem dX5_lookup_44 : decode cX5_lookup 44 = .ok (.iconst 0, 1) := by decide +kernel
theorem dX5_lookup_45 : decode cX5_lookup 45 = .ok (.goto 12, 3) := by decide +kernel
theorem dX5_lookup_48 : decode cX5_lookup 48 = .ok (.aload_n 0, 1) := by decide +kernel
theorem dX5_lookup_49 : decode cX5_lookup 49 = .ok (.getfield 13, 3) := by decide +kernel
theorem dX5_lookup_52 : decode cX5_lookup 52 = .ok (.iload 4, 2) := by decide +kernel
theorem dX5_lookup_54 : decode cX5_lookup 54 = .ok (.iload_n 3, 1) := by decide +kernel
theorem dX5_lookup_55 : decode cX5_lookup 55 = .ok (.iadd, 1) := by decide +kernel
theorem dX5_lookup_56 : decode cX5_lookup 56 = .ok (.iaload, 1) := by decide +kernel
theorem dX5_lookup_57 : decode cX5_lookup 57 = .ok (.ireturn, 1) := by decide +kernel
set_option maxRecDepth 20000 in
theorem ggX5_has_X5_noTable : GoodIn wsX5_has wsX5_noTable := goodIn_r _ [6, 7, 26, 27, 28, 29, 30, 31, 32, 33, 34, 35, 36, 37, 38, 39, 40, 41, 42, 43] (by decide +kernel) (by decide +kernel)
set_option maxRecDepth 20000 in
theorem gX5_has_X5_noTable : GoodIn wsX5_has (wsV RX5 94 RX5 yX5_noTable wsX5_noTable) := goodIn_app (goodIn_of _ (by decide +kernel)) ggX5_has_X5_noTable
set_option maxRecDepth 20000 in
theorem ggX5_has_X5_seek : GoodIn wsX5_has wsX5_seek := goodIn_r _ [11, 7, 12, 13, 14, 15, 16, 5, 17, 18, 19, 20, 21, 22, 23, 24, 25, 26, 27, 28, 29, 30, 31, 32, 33, 34, 35, 36, 37, 38, 39, 40, 41, 42, 43] (by decide +kernel) (by decide +kernel)
set_option maxRecDepth 20000 in
theorem gX5_has_X5_seek : GoodIn wsX5_has (wsV RX5 120 RX5 yX5_seek wsX5_seek) := goodIn_app (goodIn_of _ (by decide +kernel)) ggX5_has_X5_seek
theorem dX5_has_0 : decode cX5_has 0 = .ok (.aload_n 0, 1) := by decide +kernel
theorem dX5_has_1 : decode cX5_has 1 = .ok (.getfield 51, 3) := by decide +kernel
theorem dX5_has_4 : decode cX5_has 4 = .ok (.ifCond .ne 24, 3) := by decide +kernel
theorem dX5_has_7 : decode cX5_has 7 = .ok (.aload_n 0, 1) := by decide +kernel
theorem dX5_has_8 : decode cX5_has 8 = .ok (.iload_n 1, 1) := by decide +kernel
theorem dX5_has_9 : decode cX5_has 9 = .ok (.invokevirtual 94, 3) := by decide +kernel
theorem dX5_has_12 : decode cX5_has 12 = .ok (.ifCond .ne 16, 3) := by decide +kernel
theorem dX5_has_15 : decode cX5_has 15 = .ok (.aload_n 0, 1) := by decide +kernel
theorem dX5_has_16 : decode cX5_has 16 = .ok (.iload_n 1, 1) := by decide +kernel
theorem dX5_has_17 : decode cX5_has 17 = .ok (.iload_n 2, 1) := by decide +kernel
theorem dX5_has_18 : decode cX5_has 18 = .ok (.invokevirtual 120, 3) := by decide +kernel
theorem dX5_has_21 : decode cX5_has 21 = .ok (.ifCond .lt 7, 3) := by decide +kernel
theorem dX5_has_24 : decode cX5_has 24 = .ok (.iconst 1, 1) := by decide +kernel
theorem dX5_has_25 : decode cX5_has 25 = .ok (.goto 4, 3) := by decide +kernel
theorem dX5_has_28 : decode cX5_has 28 = .ok (.iconst 0, 1) := by decide +kernel
theorem dX5_has_29 : decode cX5_has 29 = .ok (.ireturn, 1) := by decide +kernel
set_option maxRecDepth 20000 in
theorem ggX5_count_X5_noTable : GoodIn wsX5_count wsX5_noTable := goodIn_r _ [7, 2, 11, 12, 13, 14, 15, 16, 17, 18, 19, 20, 21, 22, 23, 24, 25, 26, 27, 28] (by decide +kernel) (by decide +kernel)
set_option maxRecDepth 20000 in
theorem gX5_count_X5_noTable : GoodIn wsX5_count (wsV RX5 94 RX5 yX5_noTable wsX5_noTable) := goodIn_app (goodIn_of _ (by decide +kernel)) ggX5_count_X5_noTable
set_option maxRecDepth 20000 in
theorem ggX5_count_X5_bits : GoodIn wsX5_count wsX5_bits := goodIn_r _ [10] (by decide +kernel) (by decide +kernel)
set_option maxRecDepth 20000 in
theorem gX5_count_X5_bits : GoodIn wsX5_count (va_wsS RX5 84 yX5_bits wsX5_bits) := goodIn_app (goodIn_of _ (by decide +kernel)) ggX5_count_X5_bits
theorem dX5_count_0 : decode cX5_count 0 = .ok (.aload_n 0, 1) := by decide +kernel
theorem dX5_count_1 : decode cX5_count 1 = .ok (.getfield 51, 3) := by decide +kernel
theorem dX5_count_4 : decode cX5_count 4 = .ok (.ifCond .eq 5, 3) := by decide +kernel
theorem dX5_count_7 : decode cX5_count 7 = .ok (.iconst (-1), 1) := by decide +kernel
theorem dX5_count_8 : decode cX5_count 8 = .ok (.ireturn, 1) := by decide +kernel
theorem dX5_count_9 : decode cX5_count 9 = .ok (.aload_n 0, 1) := by decide +kernel
theorem dX5_count_10 : decode cX5_count 10 = .ok (.iload_n 1, 1) := by decide +kernel
theorem dX5_count_11 : decode cX5_count 11 = .ok (.invokevirtual 94, 3) := by decide +kernel
theorem dX5_count_14 : decode cX5_count 14 = .ok (.ifCond .eq 6, 3) := by decide +kernel
theorem dX5_count_17 : decode cX5_count 17 = .ok (.bipush (-5), 2) := by decide +kernel
theorem dX5_count_19 : decode cX5_count 19 = .ok (.ireturn, 1) := by decide +kernel
theorem dX5_count_20 : decode cX5_count 20 = .ok (.iconst 0, 1) := by decide +kernel
theorem dX5_count_21 : decode cX5_count 21 = .ok (.istore_n 2, 1) := by decide +kernel
theorem dX5_count_22 : decode cX5_count 22 = .ok (.iconst 1, 1) := by decide +kernel
theorem dX5_count_23 : decode cX5_count 23 = .ok (.istore_n 3, 1) := by decide +kernel
theorem dX5_count_24 : decode cX5_count 24 = .ok (.iload_n 3, 1) := by decide +kernel
theorem dX5_count_25 : decode cX5_count 25 = .ok (.bipush 16, 2) := by decide +kernel
theorem dX5_count_27 : decode cX5_count 27 = .ok (.if_icmp .ge 45, 3) := by decide +kernel
theorem dX5_count_30 : decode cX5_count 30 = .ok (.aload_n 0, 1) := by decide +kernel
theorem dX5_count_31 : decode cX5_count 31 = .ok (.getfield 13, 3) := by decide +kernel
theorem dX5_count_34 : decode cX5_count 34 = .ok (.bipush 16, 2) := by decide +kernel
theorem dX5_count_36 : decode cX5_count 36 = .ok (.iload_n 3, 1) := by decide +kernel
theorem dX5_count_37 : decode cX5_count 37 = .ok (.imul, 1) := by decide +kernel
theorem dX5_count_38 : decode cX5_count 38 = .ok (.iaload, 1) := by decide +kernel
theorem dX5_count_39 : decode cX5_count 39 = .ok (.iload_n 1, 1) := by decide +kernel
theorem dX5_count_40 : decode cX5_count 40 = .ok (.iconst 1, 1) := by decide +kernel
theorem dX5_count_41 : decode cX5_count 41 = .ok (.iadd, 1) := by decide +kernel
theorem dX5_count_42 : decode cX5_count 42 = .ok (.if_icmp .ne 22, 3) := by decide +kernel
theorem dX5_count_45 : decode cX5_count 45 = .ok (.iload_n 2, 1) := by decide +kernel
theorem dX5_count_46 : decode cX5_count 46 = .ok (.aload_n 0, 1) := by decide +kernel
theorem dX5_count_47 : decode cX5_count 47 = .ok (.getfield 13, 3) := by decide +kernel
theorem dX5_count_50 : decode cX5_count 50 = .ok (.bipush 16, 2) := by decide +kernel
theorem dX5_count_52 : decode cX5_count 52 = .ok (.iload_n 3, 1) := by decide +kernel
theorem dX5_count_53 : decode cX5_count 53 = .ok (.imul, 1) := by decide +kernel
theorem dX5_count_54 : decode cX5_count 54 = .ok (.iconst 2, 1) := by decide +kernel
theorem dX5_count_55 : decode cX5_count 55 = .ok (.iadd, 1) := by decide +kernel
theorem dX5_count_56 : decode cX5_count 56 = .ok (.iaload, 1) := by decide +kernel
theorem dX5_count_57 : decode cX5_count 57 = .ok (.invokestatic 84, 3) := by decide +kernel
theorem dX5_count_60 : decode cX5_count 60 = .ok (.iadd, 1) := by decide +kernel
theorem dX5_count_61 : decode cX5_count 61 = .ok (.goto 4, 3) := by decide +kernel
theorem dX5_count_64 : decode cX5_count 64 = .ok (.iload_n 2, 1) := by decide +kernel
theorem dX5_count_65 : decode cX5_count 65 = .ok (.istore_n 2, 1) := by decide +kernel
theorem dX5_count_66 : decode cX5_count 66 = .ok (.iinc 3 1, 3) := by decide +kernel
theorem dX5_count_69 : decode cX5_count 69 = .ok (.goto (-45), 3) := by decide +kernel
theorem dX5_count_72 : decode cX5_count 72 = .ok (.iload_n 2, 1) := by decide +kernel
theorem dX5_count_73 : decode cX5_count 73 = .ok (.ireturn, 1) := by decide +kernel
set_option maxRecDepth 20000 in
theorem ggX5_openScan_X5_noTable : GoodIn wsX5_openScan wsX5_noTable := goodIn_r _ [14, 2, 15, 16, 17, 18, 19, 20, 21, 22, 23, 24, 25, 26, 27, 28, 29, 30, 31, 32] (by decide +kernel) (by decide +kernel)
set_option maxRecDepth 20000 in
theorem gX5_openScan_X5_noTable : GoodIn wsX5_openScan (wsV RX5 94 RX5 yX5_noTable wsX5_noTable) := goodIn_app (goodIn_of _ (by decide +kernel)) ggX5_openScan_X5_noTable
theorem dX5_openScan_0 : decode cX5_openScan 0 = .ok (.aload_n 0, 1) := by decide +kernel
theorem dX5_openScan_1 : decode cX5_openScan 1 = .ok (.getfield 51, 3) := by decide +kernel
theorem dX5_openScan_4 : decode cX5_openScan 4 = .ok (.ifCond .eq 5, 3) := by decide +kernel
theorem dX5_openScan_7 : decode cX5_openScan 7 = .ok (.iconst (-1), 1) := by decide +kernel
theorem dX5_openScan_8 : decode cX5_openScan 8 = .ok (.ireturn, 1) := by decide +kernel
theorem dX5_openScan_9 : decode cX5_openScan 9 = .ok (.aload_n 0, 1) := by decide +kernel
theorem dX5_openScan_10 : decode cX5_openScan 10 = .ok (.iload_n 1, 1) := by decide +kernel
theorem dX5_openScan_11 : decode cX5_openScan 11 = .ok (.invokevirtual 94, 3) := by decide +kernel
theorem dX5_openScan_14 : decode cX5_openScan 14 = .ok (.ifCond .eq 6, 3) := by decide +kernel
theorem dX5_openScan_17 : decode cX5_openScan 17 = .ok (.bipush (-5), 2) := by decide +kernel
theorem dX5_openScan_19 : decode cX5_openScan 19 = .ok (.ireturn, 1) := by decide +kernel
theorem dX5_openScan_20 : decode cX5_openScan 20 = .ok (.iload_n 2, 1) := by decide +kernel
theorem dX5_openScan_21 : decode cX5_openScan 21 = .ok (.ifCond .lt 13, 3) := by decide +kernel
theorem dX5_openScan_24 : decode cX5_openScan 24 = .ok (.iload_n 2, 1) := by decide +kernel
theorem dX5_openScan_25 : decode cX5_openScan 25 = .ok (.aload_n 0, 1) := by decide +kernel
theorem dX5_openScan_26 : decode cX5_openScan 26 = .ok (.getfield 13, 3) := by decide +kernel
theorem dX5_openScan_29 : decode cX5_openScan 29 = .ok (.iload_n 1, 1) := by decide +kernel
theorem dX5_openScan_30 : decode cX5_openScan 30 = .ok (.iaload, 1) := by decide +kernel
theorem dX5_openScan_31 : decode cX5_openScan 31 = .ok (.if_icmp .lt 6, 3) := by decide +kernel
theorem dX5_openScan_34 : decode cX5_openScan 34 = .ok (.bipush (-4), 2) := by decide +kernel
theorem dX5_openScan_36 : decode cX5_openScan 36 = .ok (.ireturn, 1) := by decide +kernel
theorem dX5_openScan_37 : decode cX5_openScan 37 = .ok (.iconst 0, 1) := by decide +kernel
theorem dX5_openScan_38 : decode cX5_openScan 38 = .ok (.istore 5, 2) := by decide +kernel
theorem dX5_openScan_40 : decode cX5_openScan 40 = .ok (.iload 5, 2) := by decide +kernel
theorem dX5_openScan_42 : decode cX5_openScan 42 = .ok (.iconst 4, 1) := by decide +kernel
theorem dX5_openScan_43 : decode cX5_openScan 43 = .ok (.if_icmp .ge 19, 3) := by decide +kernel
theorem dX5_openScan_46 : decode cX5_openScan 46 = .ok (.aload_n 0, 1) := by decide +kernel
theorem dX5_openScan_47 : decode cX5_openScan 47 = .ok (.getfield 38, 3) := by decide +kernel
theorem dX5_openScan_50 : decode cX5_openScan 50 = .ok (.iload 5, 2) := by decide +kernel
theorem dX5_openScan_52 : decode cX5_openScan 52 = .ok (.baload, 1) := by decide +kernel
theorem dX5_openScan_53 : decode cX5_openScan 53 = .ok (.ifCond .eq 9, 3) := by decide +kernel
theorem dX5_openScan_56 : decode cX5_openScan 56 = .ok (.iinc 5 1, 3) := by decide +kernel
theorem dX5_openScan_59 : decode cX5_openScan 59 = .ok (.goto (-19), 3) := by decide +kernel
theorem dX5_openScan_62 : decode cX5_openScan 62 = .ok (.iload 5, 2) := by decide +kernel
theorem dX5_openScan_64 : decode cX5_openScan 64 = .ok (.iconst 4, 1) := by decide +kernel
theorem dX5_openScan_65 : decode cX5_openScan 65 = .ok (.if_icmp .ne 6, 3) := by decide +kernel
theorem dX5_openScan_68 : decode cX5_openScan 68 = .ok (.bipush (-8), 2) := by decide +kernel
theorem dX5_openScan_70 : decode cX5_openScan 70 = .ok (.ireturn, 1) := by decide +kernel
theorem dX5_openScan_71 : decode cX5_openScan 71 = .ok (.aload_n 0, 1) := by decide +kernel
theorem dX5_openScan_72 : decode cX5_openScan 72 = .ok (.getfield 38, 3) := by decide +kernel
theorem dX5_openScan_75 : decode cX5_openScan 75 = .ok (.iload 5, 2) := by decide +kernel
theorem dX5_openScan_77 : decode cX5_openScan 77 = .ok (.iconst 1, 1) := by decide +kernel
theorem dX5_openScan_78 : decode cX5_openScan 78 = .ok (.bastore, 1) := by decide +kernel
theorem dX5_openScan_79 : decode cX5_openScan 79 = .ok (.aload_n 0, 1) := by decide +kernel
theorem dX5_openScan_80 : decode cX5_openScan 80 = .ok (.getfield 42, 3) := by decide +kernel
theorem dX5_openScan_83 : decode cX5_openScan 83 = .ok (.iload 5, 2) := by decide +kernel
theorem dX5_openScan_85 : decode cX5_openScan 85 = .ok (.iconst 0, 1) := by decide +kernel
theorem dX5_openScan_86 : decode cX5_openScan 86 = .ok (.bastore, 1) := by decide +kernel
theorem dX5_openScan_87 : decode cX5_openScan 87 = .ok (.aload_n 0, 1) := by decide +kernel
theorem dX5_openScan_88 : decode cX5_openScan 88 = .ok (.getfield 26, 3) := by decide +kernel
theorem dX5_openScan_91 : decode cX5_openScan 91 = .ok (.iload 5, 2) := by decide +kernel
theorem dX5_openScan_93 : decode cX5_openScan 93 = .ok (.iload_n 1, 1) := by decide +kernel
theorem dX5_openScan_94 : decode cX5_openScan 94 = .ok (.iastore, 1) := by decide +kernel
theorem dX5_openScan_95 : decode cX5_openScan 95 = .ok (.aload_n 0, 1) := by decide +kernel
theorem dX5_openScan_96 : decode cX5_openScan 96 = .ok (.getfield 29, 3) := by decide +kernel
theorem dX5_openScan_99 : decode cX5_openScan 99 = .ok (.iload 5, 2) := by decide +kernel
theorem dX5_openScan_101 : decode cX5_openScan 101 = .ok (.iload_n 2, 1) := by decide +kernel
theorem dX5_openScan_102 : decode cX5_openScan 102 = .ok (.iastore, 1) := by decide +kernel
theorem dX5_openScan_103 : decode cX5_openScan 103 = .ok (.aload_n 0, 1) := by decide +kernel
theorem dX5_openScan_104 : decode cX5_openScan 104 = .ok (.getfield 32, 3) := by decide +kernel
theorem dX5_openScan_107 : decode cX5_openScan 107 = .ok (.iload 5, 2) := by decide +kernel
theorem dX5_openScan_109 : decode cX5_openScan 109 = .ok (.iload_n 3, 1) := by decide +kernel
theorem dX5_openScan_110 : decode cX5_openScan 110 = .ok (.iastore, 1) := by decide +kernel
theorem dX5_openScan_111 : decode cX5_openScan 111 = .ok (.aload_n 0, 1) := by decide +kernel
theorem dX5_openScan_112 : decode cX5_openScan 112 = .ok (.getfield 35, 3) := by decide +kernel
theorem dX5_openScan_115 : decode cX5_openScan 115 = .ok (.iload 5, 2) := by decide +kernel
theorem dX5_openScan_117 : decode cX5_openScan 117 = .ok (.iload 4, 2) := by decide +kernel
theorem dX5_openScan_119 : decode cX5_openScan 119 = .ok (.iastore, 1) := by decide +kernel
theorem dX5_openScan_120 : decode cX5_openScan 120 = .ok (.aload_n 0, 1) := by decide +kernel
theorem dX5_openScan_121 : decode cX5_openScan 121 = .ok (.getfield 45, 3) := by decide +kernel
theorem dX5_openScan_124 : decode cX5_openScan 124 = .ok (.iload 5, 2) := by decide +kernel
theorem dX5_openScan_126 : decode cX5_openScan 126 = .ok (.iconst 0, 1) := by decide +kernel
theorem dX5_openScan_127 : decode cX5_openScan 127 = .ok (.iastore, 1) := by decide +kernel
theorem dX5_openScan_128 : decode cX5_openScan 128 = .ok (.iload 5, 2) := by decide +kernel
theorem dX5_openScan_130 : decode cX5_openScan 130 = .ok (.ireturn, 1) := by decide +kernel
theorem dX5_noScan_0 : decode cX5_noScan 0 = .ok (.aload_n 0, 1) := by decide +kernel
theorem dX5_noScan_1 : decode cX5_noScan 1 = .ok (.getfield 51, 3) := by decide +kernel
theorem dX5_noScan_4 : decode cX5_noScan 4 = .ok (.ifCond .ne 21, 3) := by decide +kernel
theorem dX5_noScan_7 : decode cX5_noScan 7 = .ok (.iload_n 1, 1) := by decide +kernel
theorem dX5_noScan_8 : decode cX5_noScan 8 = .ok (.ifCond .lt 17, 3) := by decide +kernel
theorem dX5_noScan_11 : decode cX5_noScan 11 = .ok (.iload_n 1, 1) := by decide +kernel
theorem dX5_noScan_12 : decode cX5_noScan 12 = .ok (.iconst 3, 1) := by decide +kernel
theorem dX5_noScan_13 : decode cX5_noScan 13 = .ok (.if_icmp .gt 12, 3) := by decide +kernel
theorem dX5_noScan_16 : decode cX5_noScan 16 = .ok (.aload_n 0, 1) := by decide +kernel
theorem dX5_noScan_17 : decode cX5_noScan 17 = .ok (.getfield 38, 3) := by decide +kernel
theorem dX5_noScan_20 : decode cX5_noScan 20 = .ok (.iload_n 1, 1) := by decide +kernel
theorem dX5_noScan_21 : decode cX5_noScan 21 = .ok (.baload, 1) := by decide +kernel
theorem dX5_noScan_22 : decode cX5_noScan 22 = .ok (.ifCond .ne 7, 3) := by decide +kernel
theorem dX5_noScan_25 : decode cX5_noScan 25 = .ok (.iconst 1, 1) := by decide +kernel
theorem dX5_noScan_26 : decode cX5_noScan 26 = .ok (.goto 4, 3) := by decide +kernel
theorem dX5_noScan_29 : decode cX5_noScan 29 = .ok (.iconst 0, 1) := by decide +kernel
theorem dX5_noScan_30 : decode cX5_noScan 30 = .ok (.ireturn, 1) := by decide +kernel
set_option maxRecDepth 20000 in
theorem ggX5_seekNext_X5_slots : GoodIn wsX5_seekNext wsX5_slots := goodIn_r _ [12, 2, 21, 22, 23, 24, 25, 26, 27, 28, 29, 30, 31, 32, 33, 34, 35, 36, 37, 38] (by decide +kernel) (by decide +kernel)
set_option maxRecDepth 20000 in
theorem gX5_seekNext_X5_slots : GoodIn wsX5_seekNext (wsV RX5 104 RX5 yX5_slots wsX5_slots) := goodIn_app (goodIn_of _ (by decide +kernel)) ggX5_seekNext_X5_slots
set_option maxRecDepth 20000 in
theorem ggX5_seekNext_X5_wordOf : GoodIn wsX5_seekNext wsX5_wordOf := goodIn_r _ [16, 2, 21, 22, 23, 24, 25, 26, 27, 28, 29, 30, 31, 32, 33, 34, 35, 36, 37, 38] (by decide +kernel) (by decide +kernel)
set_option maxRecDepth 20000 in
theorem gX5_seekNext_X5_wordOf : GoodIn wsX5_seekNext (wsV RX5 110 RX5 yX5_wordOf wsX5_wordOf) := goodIn_app (goodIn_of _ (by decide +kernel)) ggX5_seekNext_X5_wordOf
set_option maxRecDepth 20000 in
theorem ggX5_seekNext_X5_filled : GoodIn wsX5_seekNext wsX5_filled := goodIn_r _ [20, 2, 21, 22, 23, 24, 25, 26, 27, 28, 29, 30, 31, 32, 33, 34, 35, 36, 37, 38] (by decide +kernel) (by decide +kernel)
set_option maxRecDepth 20000 in
theorem gX5_seekNext_X5_filled : GoodIn wsX5_seekNext (wsV RX5 107 RX5 yX5_filled wsX5_filled) := goodIn_app (goodIn_of _ (by decide +kernel)) ggX5_seekNext_X5_filled
theorem dX5_seekNext_0 : decode cX5_seekNext 0 = .ok (.aload_n 0, 1) := by decide +kernel
theorem dX5_seekNext_1 : decode cX5_seekNext 1 = .ok (.getfield 26, 3) := by decide +kernel
theorem dX5_seekNext_4 : decode cX5_seekNext 4 = .ok (.iload_n 1, 1) := by decide +kernel
theorem dX5_seekNext_5 : decode cX5_seekNext 5 = .ok (.iaload, 1) := by decide +kernel
theorem dX5_seekNext_6 : decode cX5_seekNext 6 = .ok (.istore_n 2, 1) := by decide +kernel
theorem dX5_seekNext_7 : decode cX5_seekNext 7 = .ok (.iconst 0, 1) := by decide +kernel
theorem dX5_seekNext_8 : decode cX5_seekNext 8 = .ok (.istore_n 3, 1) := by decide +kernel
theorem dX5_seekNext_9 : decode cX5_seekNext 9 = .ok (.iconst 0, 1) := by decide +kernel
theorem dX5_seekNext_10 : decode cX5_seekNext 10 = .ok (.istore 4, 2) := by decide +kernel
theorem dX5_seekNext_12 : decode cX5_seekNext 12 = .ok (.iconst 1, 1) := by decide +kernel
theorem dX5_seekNext_13 : decode cX5_seekNext 13 = .ok (.istore 5, 2) := by decide +kernel
theorem dX5_seekNext_15 : decode cX5_seekNext 15 = .ok (.iload 5, 2) := by decide +kernel
theorem dX5_seekNext_17 : decode cX5_seekNext 17 = .ok (.bipush 16, 2) := by decide +kernel
theorem dX5_seekNext_19 : decode cX5_seekNext 19 = .ok (.if_icmp .ge 168, 3) := by decide +kernel
theorem dX5_seekNext_22 : decode cX5_seekNext 22 = .ok (.aload_n 0, 1) := by decide +kernel
theorem dX5_seekNext_23 : decode cX5_seekNext 23 = .ok (.getfield 13, 3) := by decide +kernel
theorem dX5_seekNext_26 : decode cX5_seekNext 26 = .ok (.bipush 16, 2) := by decide +kernel
theorem dX5_seekNext_28 : decode cX5_seekNext 28 = .ok (.iload 5, 2) := by decide +kernel
theorem dX5_seekNext_30 : decode cX5_seekNext 30 = .ok (.imul, 1) := by decide +kernel
theorem dX5_seekNext_31 : decode cX5_seekNext 31 = .ok (.iaload, 1) := by decide +kernel
theorem dX5_seekNext_32 : decode cX5_seekNext 32 = .ok (.iload_n 2, 1) := by decide +kernel
theorem dX5_seekNext_33 : decode cX5_seekNext 33 = .ok (.iconst 1, 1) := by decide +kernel
theorem dX5_seekNext_34 : decode cX5_seekNext 34 = .ok (.iadd, 1) := by decide +kernel
theorem dX5_seekNext_35 : decode cX5_seekNext 35 = .ok (.if_icmp .ne 146, 3) := by decide +kernel
theorem dX5_seekNext_38 : decode cX5_seekNext 38 = .ok (.iconst 0, 1) := by decide +kernel
theorem dX5_seekNext_39 : decode cX5_seekNext 39 = .ok (.istore 6, 2) := by decide +kernel
theorem dX5_seekNext_41 : decode cX5_seekNext 41 = .ok (.iload 6, 2) := by decide +kernel
theorem dX5_seekNext_43 : decode cX5_seekNext 43 = .ok (.aload_n 0, 1) := by decide +kernel
theorem dX5_seekNext_44 : decode cX5_seekNext 44 = .ok (.iload_n 2, 1) := by decide +kernel
theorem dX5_seekNext_45 : decode cX5_seekNext 45 = .ok (.invokevirtual 104, 3) := by decide +kernel
theorem dX5_seekNext_48 : decode cX5_seekNext 48 = .ok (.if_icmp .ge 133, 3) := by decide +kernel
theorem dX5_seekNext_51 : decode cX5_seekNext 51 = .ok (.aload_n 0, 1) := by decide +kernel
theorem dX5_seekNext_52 : decode cX5_seekNext 52 = .ok (.iload_n 2, 1) := by decide +kernel
theorem dX5_seekNext_53 : decode cX5_seekNext 53 = .ok (.iload 5, 2) := by decide +kernel
theorem dX5_seekNext_55 : decode cX5_seekNext 55 = .ok (.iload 6, 2) := by decide +kernel
theorem dX5_seekNext_57 : decode cX5_seekNext 57 = .ok (.invokevirtual 110, 3) := by decide +kernel
theorem dX5_seekNext_60 : decode cX5_seekNext 60 = .ok (.istore 7, 2) := by decide +kernel
theorem dX5_seekNext_62 : decode cX5_seekNext 62 = .ok (.aload_n 0, 1) := by decide +kernel
theorem dX5_seekNext_63 : decode cX5_seekNext 63 = .ok (.getfield 13, 3) := by decide +kernel
theorem dX5_seekNext_66 : decode cX5_seekNext 66 = .ok (.iload 7, 2) := by decide +kernel
theorem dX5_seekNext_68 : decode cX5_seekNext 68 = .ok (.aload_n 0, 1) := by decide +kernel
theorem dX5_seekNext_69 : decode cX5_seekNext 69 = .ok (.getfield 29, 3) := by decide +kernel
theorem dX5_seekNext_72 : decode cX5_seekNext 72 = .ok (.iload_n 1, 1) := by decide +kernel
theorem dX5_seekNext_73 : decode cX5_seekNext 73 = .ok (.iaload, 1) := by decide +kernel
theorem dX5_seekNext_74 : decode cX5_seekNext 74 = .ok (.iadd, 1) := by decide +kernel
theorem dX5_seekNext_75 : decode cX5_seekNext 75 = .ok (.iaload, 1) := by decide +kernel
theorem dX5_seekNext_76 : decode cX5_seekNext 76 = .ok (.istore 8, 2) := by decide +kernel
theorem dX5_seekNext_78 : decode cX5_seekNext 78 = .ok (.aload_n 0, 1) := by decide +kernel
theorem dX5_seekNext_79 : decode cX5_seekNext 79 = .ok (.iload 5, 2) := by decide +kernel
theorem dX5_seekNext_81 : decode cX5_seekNext 81 = .ok (.iload 6, 2) := by decide +kernel
theorem dX5_seekNext_83 : decode cX5_seekNext 83 = .ok (.invokevirtual 107, 3) := by decide +kernel
theorem dX5_seekNext_86 : decode cX5_seekNext 86 = .ok (.ifCond .eq 54, 3) := by decide +kernel
theorem dX5_seekNext_89 : decode cX5_seekNext 89 = .ok (.iload 8, 2) := by decide +kernel
theorem dX5_seekNext_91 : decode cX5_seekNext 91 = .ok (.aload_n 0, 1) := by decide +kernel
theorem dX5_seekNext_92 : decode cX5_seekNext 92 = .ok (.getfield 32, 3) := by decide +kernel
theorem dX5_seekNext_95 : decode cX5_seekNext 95 = .ok (.iload_n 1, 1) := by decide +kernel
theorem dX5_seekNext_96 : decode cX5_seekNext 96 = .ok (.iaload, 1) := by decide +kernel
theorem dX5_seekNext_97 : decode cX5_seekNext 97 = .ok (.if_icmp .lt 43, 3) := by decide +kernel
theorem dX5_seekNext_100 : decode cX5_seekNext 100 = .ok (.iload 8, 2) := by decide +kernel
theorem dX5_seekNext_102 : decode cX5_seekNext 102 = .ok (.aload_n 0, 1) := by decide +kernel
theorem dX5_seekNext_103 : decode cX5_seekNext 103 = .ok (.getfield 35, 3) := by decide +kernel
theorem dX5_seekNext_106 : decode cX5_seekNext 106 = .ok (.iload_n 1, 1) := by decide +kernel
theorem dX5_seekNext_107 : decode cX5_seekNext 107 = .ok (.iaload, 1) := by decide +kernel
theorem dX5_seekNext_108 : decode cX5_seekNext 108 = .ok (.if_icmp .gt 32, 3) := by decide +kernel
theorem dX5_seekNext_111 : decode cX5_seekNext 111 = .ok (.aload_n 0, 1) := by decide +kernel
theorem dX5_seekNext_112 : decode cX5_seekNext 112 = .ok (.getfield 45, 3) := by decide +kernel
theorem dX5_seekNext_115 : decode cX5_seekNext 115 = .ok (.iload_n 1, 1) := by decide +kernel
theorem dX5_seekNext_116 : decode cX5_seekNext 116 = .ok (.iaload, 1) := by decide +kernel
theorem dX5_seekNext_117 : decode cX5_seekNext 117 = .ok (.ifCond .eq 19, 3) := by decide +kernel
theorem dX5_seekNext_120 : decode cX5_seekNext 120 = .ok (.aload_n 0, 1) := by decide +kernel
theorem dX5_seekNext_121 : decode cX5_seekNext 121 = .ok (.getfield 13, 3) := by decide +kernel
theorem dX5_seekNext_124 : decode cX5_seekNext 124 = .ok (.iload 7, 2) := by decide +kernel
theorem dX5_seekNext_126 : decode cX5_seekNext 126 = .ok (.iaload, 1) := by decide +kernel
theorem dX5_seekNext_127 : decode cX5_seekNext 127 = .ok (.aload_n 0, 1) := by decide +kernel
theorem dX5_seekNext_128 : decode cX5_seekNext 128 = .ok (.getfield 48, 3) := by decide +kernel
theorem dX5_seekNext_131 : decode cX5_seekNext 131 = .ok (.iload_n 1, 1) := by decide +kernel
theorem dX5_seekNext_132 : decode cX5_seekNext 132 = .ok (.iaload, 1) := by decide +kernel
theorem dX5_seekNext_133 : decode cX5_seekNext 133 = .ok (.if_icmp .le 7, 3) := by decide +kernel
theorem dX5_seekNext_136 : decode cX5_seekNext 136 = .ok (.iconst 1, 1) := by decide +kernel
theorem dX5_seekNext_137 : decode cX5_seekNext 137 = .ok (.goto 4, 3) := by decide +kernel
theorem dX5_seekNext_140 : decode cX5_seekNext 140 = .ok (.iconst 0, 1) := by decide +kernel
theorem dX5_seekNext_141 : decode cX5_seekNext 141 = .ok (.istore 9, 2) := by decide +kernel
theorem dX5_seekNext_143 : decode cX5_seekNext 143 = .ok (.iload 9, 2) := by decide +kernel
theorem dX5_seekNext_145 : decode cX5_seekNext 145 = .ok (.ifCond .eq 30, 3) := by decide +kernel
theorem dX5_seekNext_148 : decode cX5_seekNext 148 = .ok (.iload_n 3, 1) := by decide +kernel
theorem dX5_seekNext_149 : decode cX5_seekNext 149 = .ok (.ifCond .eq 15, 3) := by decide +kernel
theorem dX5_seekNext_152 : decode cX5_seekNext 152 = .ok (.aload_n 0, 1) := by decide +kernel
theorem dX5_seekNext_153 : decode cX5_seekNext 153 = .ok (.getfield 13, 3) := by decide +kernel
theorem dX5_seekNext_156 : decode cX5_seekNext 156 = .ok (.iload 7, 2) := by decide +kernel
theorem dX5_seekNext_158 : decode cX5_seekNext 158 = .ok (.iaload, 1) := by decide +kernel
theorem dX5_seekNext_159 : decode cX5_seekNext 159 = .ok (.iload 4, 2) := by decide +kernel
theorem dX5_seekNext_161 : decode cX5_seekNext 161 = .ok (.if_icmp .ge 14, 3) := by decide +kernel
theorem dX5_seekNext_164 : decode cX5_seekNext 164 = .ok (.iconst 1, 1) := by decide +kernel
theorem dX5_seekNext_165 : decode cX5_seekNext 165 = .ok (.istore_n 3, 1) := by decide +kernel
theorem dX5_seekNext_166 : decode cX5_seekNext 166 = .ok (.aload_n 0, 1) := by decide +kernel
theorem dX5_seekNext_167 : decode cX5_seekNext 167 = .ok (.getfield 13, 3) := by decide +kernel
theorem dX5_seekNext_170 : decode cX5_seekNext 170 = .ok (.iload 7, 2) := by decide +kernel
theorem dX5_seekNext_172 : decode cX5_seekNext 172 = .ok (.iaload, 1) := by decide +kernel
theorem dX5_seekNext_173 : decode cX5_seekNext 173 = .ok (.istore 4, 2) := by decide +kernel
theorem dX5_seekNext_175 : decode cX5_seekNext 175 = .ok (.iinc 6 1, 3) := by decide +kernel
theorem dX5_seekNext_178 : decode cX5_seekNext 178 = .ok (.goto (-137), 3) := by decide +kernel
theorem dX5_seekNext_181 : decode cX5_seekNext 181 = .ok (.iinc 5 1, 3) := by decide +kernel
theorem dX5_seekNext_184 : decode cX5_seekNext 184 = .ok (.goto (-169), 3) := by decide +kernel
theorem dX5_seekNext_187 : decode cX5_seekNext 187 = .ok (.aload_n 0, 1) := by decide +kernel
theorem dX5_seekNext_188 : decode cX5_seekNext 188 = .ok (.getfield 48, 3) := by decide +kernel
theorem dX5_seekNext_191 : decode cX5_seekNext 191 = .ok (.iload_n 1, 1) := by decide +kernel
theorem dX5_seekNext_192 : decode cX5_seekNext 192 = .ok (.iload_n 3, 1) := by decide +kernel
theorem dX5_seekNext_193 : decode cX5_seekNext 193 = .ok (.ifCond .eq 8, 3) := by decide +kernel
theorem dX5_seekNext_196 : decode cX5_seekNext 196 = .ok (.iload 4, 2) := by decide +kernel
theorem dX5_seekNext_198 : decode cX5_seekNext 198 = .ok (.goto 9, 3) := by decide +kernel
theorem dX5_seekNext_201 : decode cX5_seekNext 201 = .ok (.aload_n 0, 1) := by decide +kernel
theorem dX5_seekNext_202 : decode cX5_seekNext 202 = .ok (.getfield 48, 3) := by decide +kernel
theorem dX5_seekNext_205 : decode cX5_seekNext 205 = .ok (.iload_n 1, 1) := by decide +kernel
theorem dX5_seekNext_206 : decode cX5_seekNext 206 = .ok (.iaload, 1) := by decide +kernel
theorem dX5_seekNext_207 : decode cX5_seekNext 207 = .ok (.iastore, 1) := by decide +kernel
theorem dX5_seekNext_208 : decode cX5_seekNext 208 = .ok (.iload_n 3, 1) := by decide +kernel
theorem dX5_seekNext_209 : decode cX5_seekNext 209 = .ok (.ireturn, 1) := by decide +kernel
set_option maxRecDepth 20000 in
theorem ggX5_next_X5_noScan : GoodIn wsX5_next wsX5_noScan := goodIn_r _ [7, 8, 9, 32, 33, 34, 35, 36, 37, 38, 39, 40, 41, 42, 43, 44, 45, 46, 47, 48, 49] (by decide +kernel) (by decide +kernel)
set_option maxRecDepth 20000 in
theorem gX5_next_X5_noScan : GoodIn wsX5_next (wsV RX5 134 RX5 yX5_noScan wsX5_noScan) := goodIn_app (goodIn_of _ (by decide +kernel)) ggX5_next_X5_noScan
set_option maxRecDepth 20000 in
theorem ggX5_next_X5_seekNext : GoodIn wsX5_next wsX5_seekNext := goodIn_r _ [13, 14, 15, 16, 17, 18, 2, 19, 20, 21, 22, 6, 23, 24, 25, 26, 27, 28, 29, 30, 31, 32, 33, 34, 35, 36, 37, 38, 39, 40, 41, 42, 43, 44, 45, 46, 47, 48, 49] (by decide +kernel) (by decide +kernel)
set_option maxRecDepth 20000 in
theorem gX5_next_X5_seekNext : GoodIn wsX5_next (wsV RX5 137 RX5 yX5_seekNext wsX5_seekNext) := goodIn_app (goodIn_of _ (by decide +kernel)) ggX5_next_X5_seekNext
theorem dX5_next_0 : decode cX5_next 0 = .ok (.aload_n 0, 1) := by decide +kernel
theorem dX5_next_1 : decode cX5_next 1 = .ok (.iload_n 1, 1) := by decide +kernel
theorem dX5_next_2 : decode cX5_next 2 = .ok (.invokevirtual 134, 3) := by decide +kernel
theorem dX5_next_5 : decode cX5_next 5 = .ok (.ifCond .ne 22, 3) := by decide +kernel
theorem dX5_next_8 : decode cX5_next 8 = .ok (.aload_n 0, 1) := by decide +kernel
theorem dX5_next_9 : decode cX5_next 9 = .ok (.getfield 42, 3) := by decide +kernel
theorem dX5_next_12 : decode cX5_next 12 = .ok (.iload_n 1, 1) := by decide +kernel
theorem dX5_next_13 : decode cX5_next 13 = .ok (.baload, 1) := by decide +kernel
theorem dX5_next_14 : decode cX5_next 14 = .ok (.ifCond .ne 13, 3) := by decide +kernel
theorem dX5_next_17 : decode cX5_next 17 = .ok (.aload_n 0, 1) := by decide +kernel
theorem dX5_next_18 : decode cX5_next 18 = .ok (.getfield 45, 3) := by decide +kernel
theorem dX5_next_21 : decode cX5_next 21 = .ok (.iload_n 1, 1) := by decide +kernel
theorem dX5_next_22 : decode cX5_next 22 = .ok (.iaload, 1) := by decide +kernel
theorem dX5_next_23 : decode cX5_next 23 = .ok (.iconst 2, 1) := by decide +kernel
theorem dX5_next_24 : decode cX5_next 24 = .ok (.if_icmp .ne 5, 3) := by decide +kernel
theorem dX5_next_27 : decode cX5_next 27 = .ok (.iconst 0, 1) := by decide +kernel
theorem dX5_next_28 : decode cX5_next 28 = .ok (.ireturn, 1) := by decide +kernel
theorem dX5_next_29 : decode cX5_next 29 = .ok (.aload_n 0, 1) := by decide +kernel
theorem dX5_next_30 : decode cX5_next 30 = .ok (.iload_n 1, 1) := by decide +kernel
theorem dX5_next_31 : decode cX5_next 31 = .ok (.invokevirtual 137, 3) := by decide +kernel
theorem dX5_next_34 : decode cX5_next 34 = .ok (.istore_n 2, 1) := by decide +kernel
theorem dX5_next_35 : decode cX5_next 35 = .ok (.aload_n 0, 1) := by decide +kernel
theorem dX5_next_36 : decode cX5_next 36 = .ok (.getfield 45, 3) := by decide +kernel
theorem dX5_next_39 : decode cX5_next 39 = .ok (.iload_n 1, 1) := by decide +kernel
theorem dX5_next_40 : decode cX5_next 40 = .ok (.iload_n 2, 1) := by decide +kernel
theorem dX5_next_41 : decode cX5_next 41 = .ok (.ifCond .eq 7, 3) := by decide +kernel
theorem dX5_next_44 : decode cX5_next 44 = .ok (.iconst 1, 1) := by decide +kernel
theorem dX5_next_45 : decode cX5_next 45 = .ok (.goto 4, 3) := by decide +kernel
theorem dX5_next_48 : decode cX5_next 48 = .ok (.iconst 2, 1) := by decide +kernel
theorem dX5_next_49 : decode cX5_next 49 = .ok (.iastore, 1) := by decide +kernel
theorem dX5_next_50 : decode cX5_next 50 = .ok (.iload_n 2, 1) := by decide +kernel
theorem dX5_next_51 : decode cX5_next 51 = .ok (.ireturn, 1) := by decide +kernel
set_option maxRecDepth 20000 in
theorem ggX5_col_X5_noScan : GoodIn wsX5_col wsX5_noScan := goodIn_r _ [10, 11, 12, 31, 32, 33, 34, 35, 36, 37, 38, 39, 40, 41, 42, 43, 44, 45, 46, 47, 48] (by decide +kernel) (by decide +kernel)
set_option maxRecDepth 20000 in
theorem gX5_col_X5_noScan : GoodIn wsX5_col (wsV RX5 134 RX5 yX5_noScan wsX5_noScan) := goodIn_app (goodIn_of _ (by decide +kernel)) ggX5_col_X5_noScan
set_option maxRecDepth 20000 in
theorem ggX5_col_X5_seek : GoodIn wsX5_col wsX5_seek := goodIn_r _ [16, 3, 17, 18, 19, 20, 21, 9, 22, 23, 24, 25, 26, 27, 28, 29, 30, 31, 32, 33, 34, 35, 36, 37, 38, 39, 40, 41, 42, 43, 44, 45, 46, 47, 48] (by decide +kernel) (by decide +kernel)
set_option maxRecDepth 20000 in
theorem gX5_col_X5_seek : GoodIn wsX5_col (wsV RX5 120 RX5 yX5_seek wsX5_seek) := goodIn_app (goodIn_of _ (by decide +kernel)) ggX5_col_X5_seek
theorem dX5_col_0 : decode cX5_col 0 = .ok (.aload_n 0, 1) := by decide +kernel
theorem dX5_col_1 : decode cX5_col 1 = .ok (.iload_n 1, 1) := by decide +kernel
theorem dX5_col_2 : decode cX5_col 2 = .ok (.invokevirtual 134, 3) := by decide +kernel
theorem dX5_col_5 : decode cX5_col 5 = .ok (.ifCond .ne 41, 3) := by decide +kernel
theorem dX5_col_8 : decode cX5_col 8 = .ok (.aload_n 0, 1) := by decide +kernel
end
section
theorem dX5_col_9 : decode cX5_col 9 = .ok (.getfield 42, 3) := by decide +kernel
theorem dX5_col_12 : decode cX5_col 12 = .ok (.iload_n 1, 1) := by decide +kernel
theorem dX5_col_13 : decode cX5_col 13 = .ok (.baload, 1) := by decide +kernel
theorem dX5_col_14 : decode cX5_col 14 = .ok (.ifCond .ne 32, 3) := by decide +kernel
theorem dX5_col_17 : decode cX5_col 17 = .ok (.aload_n 0, 1) := by decide +kernel
theorem dX5_col_18 : decode cX5_col 18 = .ok (.getfield 45, 3) := by decide +kernel
theorem dX5_col_21 : decode cX5_col 21 = .ok (.iload_n 1, 1) := by decide +kernel
theorem dX5_col_22 : decode cX5_col 22 = .ok (.iaload, 1) := by decide +kernel
theorem dX5_col_23 : decode cX5_col 23 = .ok (.iconst 1, 1) := by decide +kernel
theorem dX5_col_24 : decode cX5_col 24 = .ok (.if_icmp .ne 22, 3) := by decide +kernel
theorem dX5_col_27 : decode cX5_col 27 = .ok (.iload_n 2, 1) := by decide +kernel
theorem dX5_col_28 : decode cX5_col 28 = .ok (.ifCond .lt 18, 3) := by decide +kernel
theorem dX5_col_31 : decode cX5_col 31 = .ok (.iload_n 2, 1) := by decide +kernel
theorem dX5_col_32 : decode cX5_col 32 = .ok (.aload_n 0, 1) := by decide +kernel
theorem dX5_col_33 : decode cX5_col 33 = .ok (.getfield 13, 3) := by decide +kernel
theorem dX5_col_36 : decode cX5_col 36 = .ok (.aload_n 0, 1) := by decide +kernel
theorem dX5_col_37 : decode cX5_col 37 = .ok (.getfield 26, 3) := by decide +kernel
theorem dX5_col_40 : decode cX5_col 40 = .ok (.iload_n 1, 1) := by decide +kernel
theorem dX5_col_41 : decode cX5_col 41 = .ok (.iaload, 1) := by decide +kernel
theorem dX5_col_42 : decode cX5_col 42 = .ok (.iaload, 1) := by decide +kernel
theorem dX5_col_43 : decode cX5_col 43 = .ok (.if_icmp .lt 5, 3) := by decide +kernel
theorem dX5_col_46 : decode cX5_col 46 = .ok (.iconst 0, 1) := by decide +kernel
theorem dX5_col_47 : decode cX5_col 47 = .ok (.ireturn, 1) := by decide +kernel
theorem dX5_col_48 : decode cX5_col 48 = .ok (.aload_n 0, 1) := by decide +kernel
theorem dX5_col_49 : decode cX5_col 49 = .ok (.getfield 13, 3) := by decide +kernel
theorem dX5_col_52 : decode cX5_col 52 = .ok (.aload_n 0, 1) := by decide +kernel
theorem dX5_col_53 : decode cX5_col 53 = .ok (.aload_n 0, 1) := by decide +kernel
theorem dX5_col_54 : decode cX5_col 54 = .ok (.getfield 26, 3) := by decide +kernel
theorem dX5_col_57 : decode cX5_col 57 = .ok (.iload_n 1, 1) := by decide +kernel
theorem dX5_col_58 : decode cX5_col 58 = .ok (.iaload, 1) := by decide +kernel
theorem dX5_col_59 : decode cX5_col 59 = .ok (.aload_n 0, 1) := by decide +kernel
theorem dX5_col_60 : decode cX5_col 60 = .ok (.getfield 48, 3) := by decide +kernel
theorem dX5_col_63 : decode cX5_col 63 = .ok (.iload_n 1, 1) := by decide +kernel
theorem dX5_col_64 : decode cX5_col 64 = .ok (.iaload, 1) := by decide +kernel
theorem dX5_col_65 : decode cX5_col 65 = .ok (.invokevirtual 120, 3) := by decide +kernel
theorem dX5_col_68 : decode cX5_col 68 = .ok (.iload_n 2, 1) := by decide +kernel
theorem dX5_col_69 : decode cX5_col 69 = .ok (.iadd, 1) := by decide +kernel
theorem dX5_col_70 : decode cX5_col 70 = .ok (.iaload, 1) := by decide +kernel
theorem dX5_col_71 : decode cX5_col 71 = .ok (.ireturn, 1) := by decide +kernel
set_option maxRecDepth 20000 in
theorem ggX5_closeScan_X5_noScan : GoodIn wsX5_closeScan wsX5_noScan := goodIn_r _ [7, 1, 2, 8, 9, 10, 11, 12, 13, 14, 15, 16, 17, 18, 19, 20, 21, 22, 23, 24, 25] (by decide +kernel) (by decide +kernel)
set_option maxRecDepth 20000 in
theorem gX5_closeScan_X5_noScan : GoodIn wsX5_closeScan (wsV RX5 134 RX5 yX5_noScan wsX5_noScan) := goodIn_app (goodIn_of _ (by decide +kernel)) ggX5_closeScan_X5_noScan
theorem dX5_closeScan_0 : decode cX5_closeScan 0 = .ok (.aload_n 0, 1) := by decide +kernel
theorem dX5_closeScan_1 : decode cX5_closeScan 1 = .ok (.getfield 51, 3) := by decide +kernel
theorem dX5_closeScan_4 : decode cX5_closeScan 4 = .ok (.ifCond .eq 5, 3) := by decide +kernel
theorem dX5_closeScan_7 : decode cX5_closeScan 7 = .ok (.iconst (-1), 1) := by decide +kernel
theorem dX5_closeScan_8 : decode cX5_closeScan 8 = .ok (.ireturn, 1) := by decide +kernel
theorem dX5_closeScan_9 : decode cX5_closeScan 9 = .ok (.aload_n 0, 1) := by decide +kernel
theorem dX5_closeScan_10 : decode cX5_closeScan 10 = .ok (.iload_n 1, 1) := by decide +kernel
theorem dX5_closeScan_11 : decode cX5_closeScan 11 = .ok (.invokevirtual 134, 3) := by decide +kernel
theorem dX5_closeScan_14 : decode cX5_closeScan 14 = .ok (.ifCond .eq 6, 3) := by decide +kernel
theorem dX5_closeScan_17 : decode cX5_closeScan 17 = .ok (.bipush (-9), 2) := by decide +kernel
theorem dX5_closeScan_19 : decode cX5_closeScan 19 = .ok (.ireturn, 1) := by decide +kernel
theorem dX5_closeScan_20 : decode cX5_closeScan 20 = .ok (.aload_n 0, 1) := by decide +kernel
theorem dX5_closeScan_21 : decode cX5_closeScan 21 = .ok (.getfield 38, 3) := by decide +kernel
theorem dX5_closeScan_24 : decode cX5_closeScan 24 = .ok (.iload_n 1, 1) := by decide +kernel
theorem dX5_closeScan_25 : decode cX5_closeScan 25 = .ok (.iconst 0, 1) := by decide +kernel
theorem dX5_closeScan_26 : decode cX5_closeScan 26 = .ok (.bastore, 1) := by decide +kernel
theorem dX5_closeScan_27 : decode cX5_closeScan 27 = .ok (.iconst 0, 1) := by decide +kernel
theorem dX5_closeScan_28 : decode cX5_closeScan 28 = .ok (.ireturn, 1) := by decide +kernel
theorem dJ6_bitCount_0f7a4_0 : decode cJ6_bitCount_0f7a4 0 = .ok (.iload_n 0, 1) := by decide +kernel
theorem dJ6_bitCount_0f7a4_1 : decode cJ6_bitCount_0f7a4 1 = .ok (.iload_n 0, 1) := by decide +kernel
theorem dJ6_bitCount_0f7a4_2 : decode cJ6_bitCount_0f7a4 2 = .ok (.iconst 1, 1) := by decide +kernel
theorem dJ6_bitCount_0f7a4_3 : decode cJ6_bitCount_0f7a4 3 = .ok (.iushr, 1) := by decide +kernel
theorem dJ6_bitCount_0f7a4_4 : decode cJ6_bitCount_0f7a4 4 = .ok (.ldc_w 265, 3) := by decide +kernel
theorem dJ6_bitCount_0f7a4_7 : decode cJ6_bitCount_0f7a4 7 = .ok (.iand, 1) := by decide +kernel
theorem dJ6_bitCount_0f7a4_8 : decode cJ6_bitCount_0f7a4 8 = .ok (.isub, 1) := by decide +kernel
theorem dJ6_bitCount_0f7a4_9 : decode cJ6_bitCount_0f7a4 9 = .ok (.istore_n 0, 1) := by decide +kernel
theorem dJ6_bitCount_0f7a4_10 : decode cJ6_bitCount_0f7a4 10 = .ok (.iload_n 0, 1) := by decide +kernel
theorem dJ6_bitCount_0f7a4_11 : decode cJ6_bitCount_0f7a4 11 = .ok (.ldc_w 266, 3) := by decide +kernel
theorem dJ6_bitCount_0f7a4_14 : decode cJ6_bitCount_0f7a4 14 = .ok (.iand, 1) := by decide +kernel
theorem dJ6_bitCount_0f7a4_15 : decode cJ6_bitCount_0f7a4 15 = .ok (.iload_n 0, 1) := by decide +kernel
theorem dJ6_bitCount_0f7a4_16 : decode cJ6_bitCount_0f7a4 16 = .ok (.iconst 2, 1) := by decide +kernel
theorem dJ6_bitCount_0f7a4_17 : decode cJ6_bitCount_0f7a4 17 = .ok (.iushr, 1) := by decide +kernel
theorem dJ6_bitCount_0f7a4_18 : decode cJ6_bitCount_0f7a4 18 = .ok (.ldc_w 266, 3) := by decide +kernel
theorem dJ6_bitCount_0f7a4_21 : decode cJ6_bitCount_0f7a4 21 = .ok (.iand, 1) := by decide +kernel
theorem dJ6_bitCount_0f7a4_22 : decode cJ6_bitCount_0f7a4 22 = .ok (.iadd, 1) := by decide +kernel
theorem dJ6_bitCount_0f7a4_23 : decode cJ6_bitCount_0f7a4 23 = .ok (.istore_n 0, 1) := by decide +kernel
theorem dJ6_bitCount_0f7a4_24 : decode cJ6_bitCount_0f7a4 24 = .ok (.iload_n 0, 1) := by decide +kernel
theorem dJ6_bitCount_0f7a4_25 : decode cJ6_bitCount_0f7a4 25 = .ok (.iload_n 0, 1) := by decide +kernel
theorem dJ6_bitCount_0f7a4_26 : decode cJ6_bitCount_0f7a4 26 = .ok (.iconst 4, 1) := by decide +kernel
theorem dJ6_bitCount_0f7a4_27 : decode cJ6_bitCount_0f7a4 27 = .ok (.iushr, 1) := by decide +kernel
theorem dJ6_bitCount_0f7a4_28 : decode cJ6_bitCount_0f7a4 28 = .ok (.iadd, 1) := by decide +kernel
theorem dJ6_bitCount_0f7a4_29 : decode cJ6_bitCount_0f7a4 29 = .ok (.ldc_w 267, 3) := by decide +kernel
theorem dJ6_bitCount_0f7a4_32 : decode cJ6_bitCount_0f7a4 32 = .ok (.iand, 1) := by decide +kernel
theorem dJ6_bitCount_0f7a4_33 : decode cJ6_bitCount_0f7a4 33 = .ok (.istore_n 0, 1) := by decide +kernel
theorem dJ6_bitCount_0f7a4_34 : decode cJ6_bitCount_0f7a4 34 = .ok (.iload_n 0, 1) := by decide +kernel
theorem dJ6_bitCount_0f7a4_35 : decode cJ6_bitCount_0f7a4 35 = .ok (.iload_n 0, 1) := by decide +kernel
theorem dJ6_bitCount_0f7a4_36 : decode cJ6_bitCount_0f7a4 36 = .ok (.bipush 8, 2) := by decide +kernel
theorem dJ6_bitCount_0f7a4_38 : decode cJ6_bitCount_0f7a4 38 = .ok (.iushr, 1) := by decide +kernel
theorem dJ6_bitCount_0f7a4_39 : decode cJ6_bitCount_0f7a4 39 = .ok (.iadd, 1) := by decide +kernel
theorem dJ6_bitCount_0f7a4_40 : decode cJ6_bitCount_0f7a4 40 = .ok (.istore_n 0, 1) := by decide +kernel
theorem dJ6_bitCount_0f7a4_41 : decode cJ6_bitCount_0f7a4 41 = .ok (.iload_n 0, 1) := by decide +kernel
theorem dJ6_bitCount_0f7a4_42 : decode cJ6_bitCount_0f7a4 42 = .ok (.iload_n 0, 1) := by decide +kernel
theorem dJ6_bitCount_0f7a4_43 : decode cJ6_bitCount_0f7a4 43 = .ok (.bipush 16, 2) := by decide +kernel
theorem dJ6_bitCount_0f7a4_45 : decode cJ6_bitCount_0f7a4 45 = .ok (.iushr, 1) := by decide +kernel
theorem dJ6_bitCount_0f7a4_46 : decode cJ6_bitCount_0f7a4 46 = .ok (.iadd, 1) := by decide +kernel
theorem dJ6_bitCount_0f7a4_47 : decode cJ6_bitCount_0f7a4 47 = .ok (.istore_n 0, 1) := by decide +kernel
theorem dJ6_bitCount_0f7a4_48 : decode cJ6_bitCount_0f7a4 48 = .ok (.iload_n 0, 1) := by decide +kernel
theorem dJ6_bitCount_0f7a4_49 : decode cJ6_bitCount_0f7a4 49 = .ok (.bipush 63, 2) := by decide +kernel
theorem dJ6_bitCount_0f7a4_51 : decode cJ6_bitCount_0f7a4 51 = .ok (.iand, 1) := by decide +kernel
theorem dJ6_bitCount_0f7a4_52 : decode cJ6_bitCount_0f7a4 52 = .ok (.ireturn, 1) := by decide +kernel
set_option maxRecDepth 20000 in
theorem ggL_law_X4_init : GoodIn wsL_law wsX4_init := goodIn_r _ [8, 9, 10, 11, 12, 13, 14, 15, 16, 17, 18, 19, 20, 21, 22, 23, 24, 25, 26, 27, 28, 29, 30, 31, 32, 33, 34, 35, 36, 37, 38, 39, 40, 41, 42, 43, 44, 45, 46, 47, 48, 49, 50, 51, 52, 53, 54, 55, 56, 57, 58, 59, 60, 615, 616, 617, 618, 591, 592, 593, 594, 595, 596, 619, 620, 621, 622, 623, 624, 625, 626, 627, 628, 629, 630] (by decide +kernel) (by decide +kernel)
set_option maxRecDepth 20000 in
theorem gL_law_X4_init : GoodIn wsL_law (wsX4_init) := ggL_law_X4_init
set_option maxRecDepth 20000 in
theorem ggL_law_X5_init : GoodIn wsL_law wsX5_init := goodIn_r _ [63, 64, 10, 11, 28, 65, 66, 67, 68, 69, 70, 71, 72, 73, 74, 75, 76, 77, 78, 597, 598, 599, 600, 601, 602, 603, 604, 605, 606, 607, 608, 609, 610, 611, 612, 613, 614] (by decide +kernel) (by decide +kernel)
set_option maxRecDepth 20000 in
theorem gL_law_X5_init : GoodIn wsL_law (wsX5_init) := ggL_law_X5_init
set_option maxRecDepth 20000 in
theorem ggL_law_X4_format : GoodIn wsL_law wsX4_format := goodIn_r _ [82, 15, 83, 84, 85, 14, 86, 34, 35, 36, 87, 88, 89, 2, 90, 19, 30, 25, 91, 92, 93, 18, 94, 41, 95, 96, 97, 98, 99, 100, 101, 27, 102, 52, 591, 592, 593, 594, 595, 596, 615, 616, 617, 618, 619, 623, 624, 625, 626, 627, 628, 629, 630] (by decide +kernel) (by decide +kernel)
set_option maxRecDepth 20000 in
theorem gL_law_X4_format : GoodIn wsL_law (wsV RL 13 RX4 yX4_format wsX4_format) := goodIn_app (goodIn_of _ (by decide +kernel)) ggL_law_X4_format
set_option maxRecDepth 20000 in
theorem ggL_law_X5_format : GoodIn wsL_law wsX5_format := goodIn_r _ [106, 65, 107, 69, 75, 108, 109, 110, 5, 111, 66, 112, 597, 598, 599, 600, 601, 602, 603, 604, 605, 606, 607, 608, 609, 610, 611, 612, 613, 614] (by decide +kernel) (by decide +kernel)
set_option maxRecDepth 20000 in
theorem gL_law_X5_format : GoodIn wsL_law (wsV RL 17 RX5 yX5_format wsX5_format) := goodIn_app (goodIn_of _ (by decide +kernel)) ggL_law_X5_format
set_option maxRecDepth 20000 in
theorem ggL_law_X4_createTable : GoodIn wsL_law wsX4_createTable := goodIn_r _ [116, 15, 30, 19, 117, 118, 119, 14, 120, 35, 121, 122, 123, 18, 124, 41, 125, 126, 127, 128, 591, 592, 593, 594, 595, 596, 615, 616, 617, 618, 619] (by decide +kernel) (by decide +kernel)
set_option maxRecDepth 20000 in
theorem gL_law_X4_createTable : GoodIn wsL_law (wsV RL 18 RX4 yX4_createTable wsX4_createTable) := goodIn_app (goodIn_of _ (by decide +kernel)) ggL_law_X4_createTable
set_option maxRecDepth 20000 in
theorem ggL_law_X5_createTable : GoodIn wsL_law wsX5_createTable := goodIn_r _ [132, 107, 112, 66, 597, 598, 599, 600, 601, 602, 603, 604, 605, 606, 607, 608, 609, 610, 611, 612, 613, 614] (by decide +kernel) (by decide +kernel)
set_option maxRecDepth 20000 in
theorem gL_law_X5_createTable : GoodIn wsL_law (wsV RL 22 RX5 yX5_createTable wsX5_createTable) := goodIn_app (goodIn_of _ (by decide +kernel)) ggL_law_X5_createTable
set_option maxRecDepth 20000 in
theorem ggL_law_X4_dropTable : GoodIn wsL_law wsX4_dropTable := goodIn_r _ [136, 19, 137, 138, 139, 2, 140, 141, 142, 143, 144, 15, 30, 117, 118, 119, 14, 120, 35, 145, 146, 147, 18, 148, 41, 149, 150, 151, 152, 153, 154, 155, 156, 157, 158, 159, 160, 161, 162, 163, 164, 25, 165, 166, 167, 27, 168, 54, 53, 591, 592, 593, 594, 595, 596, 615, 616, 617, 618, 619, 623, 624, 625, 626, 627, 628, 629, 630] (by decide +kernel) (by decide +kernel)
set_option maxRecDepth 20000 in
theorem gL_law_X4_dropTable : GoodIn wsL_law (wsV RL 23 RX4 yX4_dropTable wsX4_dropTable) := goodIn_app (goodIn_of _ (by decide +kernel)) ggL_law_X4_dropTable
set_option maxRecDepth 20000 in
theorem ggL_law_X5_dropTable : GoodIn wsL_law wsX5_dropTable := goodIn_r _ [172, 107, 112, 66, 173, 174, 175, 5, 176, 177, 178, 179, 180, 181, 182, 183, 184, 76, 70, 597, 598, 599, 600, 601, 602, 603, 604, 605, 606, 607, 608, 609, 610, 611, 612, 613, 614] (by decide +kernel) (by decide +kernel)
set_option maxRecDepth 20000 in
theorem gL_law_X5_dropTable : GoodIn wsL_law (wsV RL 26 RX5 yX5_dropTable wsX5_dropTable) := goodIn_app (goodIn_of _ (by decide +kernel)) ggL_law_X5_dropTable
set_option maxRecDepth 20000 in
theorem ggL_law_X4_begin : GoodIn wsL_law wsX4_begin := goodIn_r _ [188, 15, 30, 117, 118, 119, 14, 120, 35, 591, 592, 593, 594, 595, 596, 615, 616, 617, 618] (by decide +kernel) (by decide +kernel)
set_option maxRecDepth 20000 in
theorem gL_law_X4_begin : GoodIn wsL_law (wsV RL 27 RX4 yX4_begin wsX4_begin) := goodIn_app (goodIn_of _ (by decide +kernel)) ggL_law_X4_begin
set_option maxRecDepth 20000 in
theorem ggL_law_X5_begin : GoodIn wsL_law wsX5_begin := goodIn_r _ [192, 107, 112, 597, 598, 599, 600, 601, 602, 603, 604, 605, 606, 607, 608, 609, 610, 611, 612, 613, 614] (by decide +kernel) (by decide +kernel)
set_option maxRecDepth 20000 in
theorem gL_law_X5_begin : GoodIn wsL_law (wsV RL 30 RX5 yX5_begin wsX5_begin) := goodIn_app (goodIn_of _ (by decide +kernel)) ggL_law_X5_begin
set_option maxRecDepth 20000 in
theorem ggL_law_X4_commit : GoodIn wsL_law wsX4_commit := goodIn_r _ [196, 23, 30, 141, 142, 143, 2, 144, 15, 117, 118, 119, 14, 120, 35, 197, 198, 199, 22, 200, 201, 202, 203, 204, 48, 47, 205, 206, 207, 18, 208, 41, 209, 210, 211, 212, 213, 214, 215, 216, 217, 218, 219, 220, 221, 222, 223, 224, 225, 226, 227, 228, 229, 34, 230, 231, 232, 233, 36, 234, 96, 97, 98, 37, 235, 236, 237, 238, 46, 239, 240, 241, 242, 243, 244, 245, 246, 247, 248, 249, 250, 251, 252, 253, 254, 255, 256, 257, 258, 259, 260, 591, 592, 593, 594, 595, 596, 615, 616, 617, 618, 620, 621, 622, 619] (by decide +kernel) (by decide +kernel)
set_option maxRecDepth 20000 in
theorem gL_law_X4_commit : GoodIn wsL_law (wsV RL 31 RX4 yX4_commit wsX4_commit) := goodIn_app (goodIn_of _ (by decide +kernel)) ggL_law_X4_commit
set_option maxRecDepth 20000 in
theorem ggL_law_X5_commit : GoodIn wsL_law wsX5_commit := goodIn_r _ [264, 107, 112, 265, 266, 267, 5, 268, 65, 66, 269, 270, 271, 272, 67, 273, 274, 275, 276, 69, 277, 278, 279, 280, 281, 282, 283, 284, 285, 286, 287, 288, 289, 597, 598, 599, 600, 601, 602, 603, 604, 605, 606, 607, 608, 609, 610, 611, 612, 613, 614] (by decide +kernel) (by decide +kernel)
set_option maxRecDepth 20000 in
theorem gL_law_X5_commit : GoodIn wsL_law (wsV RL 34 RX5 yX5_commit wsX5_commit) := goodIn_app (goodIn_of _ (by decide +kernel)) ggL_law_X5_commit
set_option maxRecDepth 20000 in
theorem ggL_law_X4_rollback : GoodIn wsL_law wsX4_rollback := goodIn_r _ [293, 19, 15, 30, 141, 142, 143, 2, 144, 117, 118, 119, 14, 120, 35, 91, 92, 93, 18, 94, 41, 95, 96, 97, 98, 161, 162, 163, 164, 25, 165, 166, 167, 27, 168, 54, 53, 591, 592, 593, 594, 595, 596, 615, 616, 617, 618, 619, 623, 624, 625, 626, 627, 628, 629, 630] (by decide +kernel) (by decide +kernel)
set_option maxRecDepth 20000 in
theorem gL_law_X4_rollback : GoodIn wsL_law (wsV RL 35 RX4 yX4_rollback wsX4_rollback) := goodIn_app (goodIn_of _ (by decide +kernel)) ggL_law_X4_rollback
set_option maxRecDepth 20000 in
theorem ggL_law_X5_rollback : GoodIn wsL_law wsX5_rollback := goodIn_r _ [297, 107, 112, 76, 108, 109, 110, 5, 111, 66, 65, 597, 598, 599, 600, 601, 602, 603, 604, 605, 606, 607, 608, 609, 610, 611, 612, 613, 614] (by decide +kernel) (by decide +kernel)
set_option maxRecDepth 20000 in
theorem gL_law_X5_rollback : GoodIn wsL_law (wsV RL 38 RX5 yX5_rollback wsX5_rollback) := goodIn_app (goodIn_of _ (by decide +kernel)) ggL_law_X5_rollback
set_option maxRecDepth 20000 in
theorem ggL_law_X4_stage : GoodIn wsL_law wsX4_stage := goodIn_r _ [301, 15, 29, 117, 118, 119, 14, 120, 35, 591, 592, 593, 594, 595, 596, 615, 616, 617, 618] (by decide +kernel) (by decide +kernel)
set_option maxRecDepth 20000 in
theorem gL_law_X4_stage : GoodIn wsL_law (wsV RL 39 RX4 yX4_stage wsX4_stage) := goodIn_app (goodIn_of _ (by decide +kernel)) ggL_law_X4_stage
set_option maxRecDepth 20000 in
theorem ggL_law_X5_stage : GoodIn wsL_law wsX5_stage := goodIn_r _ [305, 107, 68, 597, 598, 599, 600, 601, 602, 603, 604, 605, 606, 607, 608, 609, 610, 611, 612, 613, 614] (by decide +kernel) (by decide +kernel)
set_option maxRecDepth 20000 in
theorem gL_law_X5_stage : GoodIn wsL_law (wsV RL 43 RX5 yX5_stage wsX5_stage) := goodIn_app (goodIn_of _ (by decide +kernel)) ggL_law_X5_stage
set_option maxRecDepth 20000 in
theorem ggL_law_X4_insert : GoodIn wsL_law wsX4_insert := goodIn_r _ [309, 19, 29, 137, 138, 139, 2, 140, 141, 142, 143, 144, 15, 30, 117, 118, 119, 14, 120, 35, 145, 146, 147, 18, 148, 41, 310, 311, 312, 313, 314, 315, 316, 317, 318, 319, 320, 321, 322, 323, 324, 325, 326, 153, 154, 155, 156, 327, 328, 329, 330, 331, 332, 333, 334, 335, 336, 337, 338, 339, 340, 341, 342, 343, 344, 345, 346, 347, 348, 349, 350, 95, 96, 97, 98, 351, 352, 353, 354, 355, 356, 357, 358, 161, 162, 163, 164, 25, 165, 166, 167, 27, 168, 54, 53, 591, 592, 593, 594, 595, 596, 615, 616, 617, 618, 619, 623, 624, 625, 626, 627, 628, 629, 630] (by decide +kernel) (by decide +kernel)
set_option maxRecDepth 20000 in
theorem gL_law_X4_insert : GoodIn wsL_law (wsV RL 44 RX4 yX4_insert wsX4_insert) := goodIn_app (goodIn_of _ (by decide +kernel)) ggL_law_X4_insert
set_option maxRecDepth 20000 in
theorem ggL_law_X5_insert : GoodIn wsL_law wsX5_insert := goodIn_r _ [362, 107, 112, 68, 66, 173, 174, 175, 5, 176, 363, 364, 365, 366, 367, 368, 369, 370, 371, 372, 373, 374, 375, 376, 377, 378, 379, 380, 381, 382, 383, 384, 181, 182, 183, 184, 76, 70, 385, 386, 387, 388, 597, 598, 599, 600, 601, 602, 603, 604, 605, 606, 607, 608, 609, 610, 611, 612, 613, 614] (by decide +kernel) (by decide +kernel)
set_option maxRecDepth 20000 in
theorem gL_law_X5_insert : GoodIn wsL_law (wsV RL 47 RX5 yX5_insert wsX5_insert) := goodIn_app (goodIn_of _ (by decide +kernel)) ggL_law_X5_insert
set_option maxRecDepth 20000 in
theorem ggL_law_X4_deleteKey : GoodIn wsL_law wsX4_deleteKey := goodIn_r _ [392, 19, 137, 138, 139, 2, 140, 141, 142, 143, 144, 15, 30, 117, 118, 119, 14, 120, 35, 145, 146, 147, 18, 148, 41, 310, 311, 312, 313, 314, 315, 316, 317, 318, 319, 320, 321, 322, 323, 324, 325, 326, 153, 154, 155, 156, 327, 328, 329, 330, 331, 332, 333, 334, 393, 394, 395, 396, 157, 158, 159, 160, 355, 356, 357, 358, 161, 162, 163, 164, 25, 165, 166, 167, 27, 168, 54, 53, 591, 592, 593, 594, 595, 596, 615, 616, 617, 618, 619, 623, 624, 625, 626, 627, 628, 629, 630] (by decide +kernel) (by decide +kernel)
set_option maxRecDepth 20000 in
theorem gL_law_X4_deleteKey : GoodIn wsL_law (wsV RL 48 RX4 yX4_deleteKey wsX4_deleteKey) := goodIn_app (goodIn_of _ (by decide +kernel)) ggL_law_X4_deleteKey
set_option maxRecDepth 20000 in
theorem ggL_law_X5_deleteKey : GoodIn wsL_law wsX5_deleteKey := goodIn_r _ [400, 107, 112, 367, 66, 368, 173, 174, 175, 5, 176, 363, 364, 365, 366, 369, 370, 371, 372, 373, 374, 375, 376, 377, 378, 379, 380, 401, 402, 403, 404, 177, 178, 179, 180, 181, 182, 183, 184, 76, 70, 597, 598, 599, 600, 601, 602, 603, 604, 605, 606, 607, 608, 609, 610, 611, 612, 613, 614] (by decide +kernel) (by decide +kernel)
set_option maxRecDepth 20000 in
theorem gL_law_X5_deleteKey : GoodIn wsL_law (wsV RL 51 RX5 yX5_deleteKey wsX5_deleteKey) := goodIn_app (goodIn_of _ (by decide +kernel)) ggL_law_X5_deleteKey
set_option maxRecDepth 20000 in
theorem ggL_law_X4_updateCol : GoodIn wsL_law wsX4_updateCol := goodIn_r _ [408, 19, 137, 138, 139, 2, 140, 141, 142, 143, 144, 15, 30, 117, 118, 119, 14, 120, 35, 145, 146, 147, 18, 148, 41, 409, 323, 324, 325, 326, 310, 311, 312, 313, 314, 315, 316, 317, 318, 319, 320, 321, 322, 153, 154, 155, 156, 327, 328, 329, 330, 331, 332, 333, 334, 410, 411, 412, 413, 161, 162, 163, 164, 25, 165, 166, 167, 27, 168, 54, 53, 591, 592, 593, 594, 595, 596, 615, 616, 617, 618, 619, 623, 624, 625, 626, 627, 628, 629, 630] (by decide +kernel) (by decide +kernel)
set_option maxRecDepth 20000 in
theorem gL_law_X4_updateCol : GoodIn wsL_law (wsV RL 52 RX4 yX4_updateCol wsX4_updateCol) := goodIn_app (goodIn_of _ (by decide +kernel)) ggL_law_X4_updateCol
set_option maxRecDepth 20000 in
theorem ggL_law_X5_updateCol : GoodIn wsL_law wsX5_updateCol := goodIn_r _ [417, 107, 112, 66, 173, 174, 175, 5, 176, 363, 364, 365, 366, 367, 368, 369, 370, 371, 372, 373, 374, 375, 376, 377, 378, 379, 380, 181, 182, 183, 184, 76, 70, 597, 598, 599, 600, 601, 602, 603, 604, 605, 606, 607, 608, 609, 610, 611, 612, 613, 614] (by decide +kernel) (by decide +kernel)
set_option maxRecDepth 20000 in
theorem gL_law_X5_updateCol : GoodIn wsL_law (wsV RL 56 RX5 yX5_updateCol wsX5_updateCol) := goodIn_app (goodIn_of _ (by decide +kernel)) ggL_law_X5_updateCol
set_option maxRecDepth 20000 in
theorem ggL_law_X4_lookup : GoodIn wsL_law wsX4_lookup := goodIn_r _ [421, 15, 19, 117, 118, 119, 14, 120, 35, 422, 423, 424, 18, 425, 322, 323, 324, 325, 41, 326, 146, 147, 148, 310, 311, 312, 313, 314, 315, 316, 317, 318, 319, 320, 321, 153, 154, 155, 156, 327, 328, 329, 330, 331, 332, 333, 334, 426, 427, 428, 429, 591, 592, 593, 594, 595, 596, 615, 616, 617, 618, 619] (by decide +kernel) (by decide +kernel)
set_option maxRecDepth 20000 in
theorem gL_law_X4_lookup : GoodIn wsL_law (wsV RL 57 RX4 yX4_lookup wsX4_lookup) := goodIn_app (goodIn_of _ (by decide +kernel)) ggL_law_X4_lookup
set_option maxRecDepth 20000 in
theorem ggL_law_X5_lookup : GoodIn wsL_law wsX5_lookup := goodIn_r _ [433, 107, 66, 173, 174, 175, 5, 176, 363, 364, 365, 366, 367, 368, 369, 370, 371, 372, 373, 374, 375, 376, 377, 378, 379, 380, 597, 598, 599, 600, 601, 602, 603, 604, 605, 606, 607, 608, 609, 610, 611, 612, 613, 614] (by decide +kernel) (by decide +kernel)
set_option maxRecDepth 20000 in
theorem gL_law_X5_lookup : GoodIn wsL_law (wsV RL 61 RX5 yX5_lookup wsX5_lookup) := goodIn_app (goodIn_of _ (by decide +kernel)) ggL_law_X5_lookup
set_option maxRecDepth 20000 in
theorem ggL_law_X4_has : GoodIn wsL_law wsX4_has := goodIn_r _ [437, 15, 19, 117, 118, 119, 14, 120, 35, 145, 146, 147, 18, 148, 41, 310, 311, 312, 313, 314, 315, 316, 317, 318, 319, 320, 321, 322, 323, 324, 325, 326, 153, 154, 155, 156, 327, 328, 329, 330, 331, 332, 333, 334, 591, 592, 593, 594, 595, 596, 615, 616, 617, 618, 619] (by decide +kernel) (by decide +kernel)
set_option maxRecDepth 20000 in
theorem gL_law_X4_has : GoodIn wsL_law (wsV RL 62 RX4 yX4_has wsX4_has) := goodIn_app (goodIn_of _ (by decide +kernel)) ggL_law_X4_has
set_option maxRecDepth 20000 in
theorem ggL_law_X5_has : GoodIn wsL_law wsX5_has := goodIn_r _ [441, 107, 173, 174, 175, 5, 176, 66, 363, 364, 365, 366, 367, 368, 369, 370, 371, 372, 373, 374, 375, 376, 377, 378, 379, 380, 597, 598, 599, 600, 601, 602, 603, 604, 605, 606, 607, 608, 609, 610, 611, 612, 613, 614] (by decide +kernel) (by decide +kernel)
set_option maxRecDepth 20000 in
theorem gL_law_X5_has : GoodIn wsL_law (wsV RL 66 RX5 yX5_has wsX5_has) := goodIn_app (goodIn_of _ (by decide +kernel)) ggL_law_X5_has
set_option maxRecDepth 20000 in
theorem ggL_law_X4_count : GoodIn wsL_law wsX4_count := goodIn_r _ [445, 15, 19, 117, 118, 119, 14, 120, 35, 145, 146, 147, 18, 148, 41, 446, 447, 448, 449, 153, 154, 155, 156, 450, 220, 221, 222, 223, 224, 225, 591, 592, 593, 594, 595, 596, 615, 616, 617, 618, 619] (by decide +kernel) (by decide +kernel)
set_option maxRecDepth 20000 in
theorem gL_law_X4_count : GoodIn wsL_law (wsV RL 67 RX4 yX4_count wsX4_count) := goodIn_app (goodIn_of _ (by decide +kernel)) ggL_law_X4_count
set_option maxRecDepth 20000 in
theorem ggL_law_X5_count : GoodIn wsL_law wsX5_count := goodIn_r _ [454, 107, 66, 173, 174, 175, 5, 176, 455, 456, 457, 597, 598, 599, 600, 601, 602, 603, 604, 605, 606, 607, 608, 609, 610, 611, 612, 613, 614] (by decide +kernel) (by decide +kernel)
set_option maxRecDepth 20000 in
theorem gL_law_X5_count : GoodIn wsL_law (wsV RL 70 RX5 yX5_count wsX5_count) := goodIn_app (goodIn_of _ (by decide +kernel)) ggL_law_X5_count
set_option maxRecDepth 20000 in
theorem ggL_law_X4_openScan : GoodIn wsL_law wsX4_openScan := goodIn_r _ [461, 15, 19, 25, 117, 118, 119, 14, 120, 35, 145, 146, 147, 18, 148, 41, 422, 423, 424, 425, 322, 323, 324, 325, 326, 462, 463, 464, 2, 465, 466, 467, 468, 27, 469, 52, 470, 471, 472, 473, 53, 54, 55, 56, 57, 58, 59, 60, 591, 592, 593, 594, 595, 596, 615, 616, 617, 618, 619, 623, 624, 625, 626, 627, 628, 629, 630] (by decide +kernel) (by decide +kernel)
set_option maxRecDepth 20000 in
theorem gL_law_X4_openScan : GoodIn wsL_law (wsV RL 71 RX4 yX4_openScan wsX4_openScan) := goodIn_app (goodIn_of _ (by decide +kernel)) ggL_law_X4_openScan
set_option maxRecDepth 20000 in
theorem ggL_law_X5_openScan : GoodIn wsL_law wsX5_openScan := goodIn_r _ [477, 107, 66, 75, 76, 70, 71, 72, 73, 77, 173, 174, 175, 5, 176, 597, 598, 599, 600, 601, 602, 603, 604, 605, 606, 607, 608, 609, 610, 611, 612, 613, 614] (by decide +kernel) (by decide +kernel)
set_option maxRecDepth 20000 in
theorem gL_law_X5_openScan : GoodIn wsL_law (wsV RL 74 RX5 yX5_openScan wsX5_openScan) := goodIn_app (goodIn_of _ (by decide +kernel)) ggL_law_X5_openScan
set_option maxRecDepth 20000 in
theorem ggL_law_X4_next : GoodIn wsL_law wsX4_next := goodIn_r _ [481, 19, 482, 483, 484, 2, 485, 15, 117, 118, 119, 14, 120, 35, 462, 463, 464, 465, 25, 466, 467, 468, 27, 469, 52, 486, 487, 488, 489, 53, 490, 491, 492, 493, 54, 55, 56, 57, 59, 60, 494, 315, 316, 18, 317, 41, 318, 319, 320, 321, 322, 323, 324, 325, 326, 146, 147, 148, 153, 154, 155, 156, 327, 328, 329, 330, 331, 332, 333, 334, 495, 427, 428, 429, 591, 592, 593, 594, 595, 596, 615, 616, 617, 618, 623, 624, 625, 626, 627, 628, 629, 630, 619] (by decide +kernel) (by decide +kernel)
set_option maxRecDepth 20000 in
theorem gL_law_X4_next : GoodIn wsL_law (wsV RL 75 RX4 yX4_next wsX4_next) := goodIn_app (goodIn_of _ (by decide +kernel)) ggL_law_X4_next
set_option maxRecDepth 20000 in
theorem ggL_law_X5_next : GoodIn wsL_law wsX5_next := goodIn_r _ [499, 76, 77, 500, 501, 502, 5, 503, 107, 75, 504, 505, 506, 507, 70, 66, 71, 72, 73, 78, 369, 370, 371, 372, 377, 378, 379, 380, 373, 374, 375, 376, 597, 598, 599, 600, 601, 602, 603, 604, 605, 606, 607, 608, 609, 610, 611, 612, 613, 614] (by decide +kernel) (by decide +kernel)
set_option maxRecDepth 20000 in
theorem gL_law_X5_next : GoodIn wsL_law (wsV RL 79 RX5 yX5_next wsX5_next) := goodIn_app (goodIn_of _ (by decide +kernel)) ggL_law_X5_next
set_option maxRecDepth 20000 in
theorem ggL_law_X4_col : GoodIn wsL_law wsX4_col := goodIn_r _ [511, 19, 482, 483, 484, 2, 485, 15, 117, 118, 119, 14, 120, 35, 462, 463, 464, 465, 25, 466, 467, 468, 27, 469, 52, 486, 487, 488, 489, 53, 512, 513, 514, 515, 60, 54, 516, 423, 424, 18, 425, 322, 323, 324, 325, 41, 326, 146, 147, 148, 495, 427, 428, 429, 591, 592, 593, 594, 595, 596, 615, 616, 617, 618, 623, 624, 625, 626, 627, 628, 629, 630, 619] (by decide +kernel) (by decide +kernel)
set_option maxRecDepth 20000 in
theorem gL_law_X4_col : GoodIn wsL_law (wsV RL 80 RX4 yX4_col wsX4_col) := goodIn_app (goodIn_of _ (by decide +kernel)) ggL_law_X4_col
set_option maxRecDepth 20000 in
theorem ggL_law_X5_col : GoodIn wsL_law wsX5_col := goodIn_r _ [520, 76, 77, 66, 70, 78, 500, 501, 502, 5, 503, 107, 75, 363, 364, 365, 366, 367, 368, 369, 370, 371, 372, 373, 374, 375, 376, 377, 378, 379, 380, 597, 598, 599, 600, 601, 602, 603, 604, 605, 606, 607, 608, 609, 610, 611, 612, 613, 614] (by decide +kernel) (by decide +kernel)
set_option maxRecDepth 20000 in
theorem gL_law_X5_col : GoodIn wsL_law (wsV RL 83 RX5 yX5_col wsX5_col) := goodIn_app (goodIn_of _ (by decide +kernel)) ggL_law_X5_col
set_option maxRecDepth 20000 in
theorem ggL_law_X4_closeScan : GoodIn wsL_law wsX4_closeScan := goodIn_r _ [524, 15, 117, 118, 119, 14, 120, 35, 462, 463, 464, 2, 465, 25, 466, 467, 468, 27, 469, 52, 99, 100, 101, 102, 591, 592, 593, 594, 595, 596, 615, 616, 617, 618, 623, 624, 625, 626, 627, 628, 629, 630] (by decide +kernel) (by decide +kernel)
set_option maxRecDepth 20000 in
theorem gL_law_X4_closeScan : GoodIn wsL_law (wsV RL 84 RX4 yX4_closeScan wsX4_closeScan) := goodIn_app (goodIn_of _ (by decide +kernel)) ggL_law_X4_closeScan
set_option maxRecDepth 20000 in
theorem ggL_law_X5_closeScan : GoodIn wsL_law wsX5_closeScan := goodIn_r _ [528, 107, 75, 500, 501, 502, 5, 503, 597, 598, 599, 600, 601, 602, 603, 604, 605, 606, 607, 608, 609, 610, 611, 612, 613, 614] (by decide +kernel) (by decide +kernel)
set_option maxRecDepth 20000 in
theorem gL_law_X5_closeScan : GoodIn wsL_law (wsV RL 87 RX5 yX5_closeScan wsX5_closeScan) := goodIn_app (goodIn_of _ (by decide +kernel)) ggL_law_X5_closeScan
set_option maxRecDepth 20000 in
theorem ggL_law_X4_crashAfter : GoodIn wsL_law wsX4_crashAfter := goodIn_r _ [532, 15, 533, 534, 535, 14, 536, 36, 591, 592, 593, 594, 595, 596, 615, 616, 617, 618] (by decide +kernel) (by decide +kernel)
set_option maxRecDepth 20000 in
theorem gL_law_X4_crashAfter : GoodIn wsL_law (wsV RL 88 RX4 yX4_crashAfter wsX4_crashAfter) := goodIn_app (goodIn_of _ (by decide +kernel)) ggL_law_X4_crashAfter
set_option maxRecDepth 20000 in
theorem ggL_law_X5_crashAfter : GoodIn wsL_law wsX5_crashAfter := goodIn_r _ [540, 69, 597, 598, 599, 600, 601, 602, 603, 604, 605, 606, 607, 608, 609, 610, 611, 612, 613, 614] (by decide +kernel) (by decide +kernel)
set_option maxRecDepth 20000 in
theorem gL_law_X5_crashAfter : GoodIn wsL_law (wsV RL 91 RX5 yX5_crashAfter wsX5_crashAfter) := goodIn_app (goodIn_of _ (by decide +kernel)) ggL_law_X5_crashAfter
set_option maxRecDepth 20000 in
theorem ggL_law_X4_recover : GoodIn wsL_law wsX4_recover := goodIn_r _ [544, 15, 23, 545, 546, 547, 14, 548, 35, 549, 550, 551, 22, 552, 553, 554, 555, 556, 47, 243, 244, 245, 246, 34, 219, 220, 221, 222, 223, 224, 225, 239, 240, 241, 242, 557, 558, 559, 560, 213, 214, 215, 216, 217, 218, 226, 227, 228, 229, 230, 231, 232, 233, 36, 234, 96, 97, 98, 37, 257, 258, 259, 260, 46, 247, 87, 88, 89, 2, 90, 19, 30, 25, 91, 92, 93, 18, 94, 41, 95, 99, 100, 101, 27, 102, 52, 591, 592, 593, 594, 595, 596, 615, 616, 617, 618, 620, 621, 622, 619, 623, 624, 625, 626, 627, 628, 629, 630] (by decide +kernel) (by decide +kernel)
set_option maxRecDepth 20000 in
theorem gL_law_X4_recover : GoodIn wsL_law (wsV RL 92 RX4 yX4_recover wsX4_recover) := goodIn_app (goodIn_of _ (by decide +kernel)) ggL_law_X4_recover
set_option maxRecDepth 20000 in
theorem ggL_law_X5_recover : GoodIn wsL_law wsX5_recover := goodIn_r _ [564, 107, 65, 75, 565, 566, 567, 5, 568, 569, 455, 456, 457, 282, 283, 284, 285, 269, 270, 271, 272, 67, 273, 274, 275, 276, 69, 277, 278, 279, 280, 281, 108, 109, 110, 111, 66, 112, 597, 598, 599, 600, 601, 602, 603, 604, 605, 606, 607, 608, 609, 610, 611, 612, 613, 614] (by decide +kernel) (by decide +kernel)
set_option maxRecDepth 20000 in
theorem gL_law_X5_recover : GoodIn wsL_law (wsV RL 95 RX5 yX5_recover wsX5_recover) := goodIn_app (goodIn_of _ (by decide +kernel)) ggL_law_X5_recover
set_option maxRecDepth 20000 in
theorem ggL_law_X4_peek : GoodIn wsL_law wsX4_peek := goodIn_r _ [573, 15, 574, 244, 245, 14, 246, 34, 591, 592, 593, 594, 595, 596, 615, 616, 617, 618] (by decide +kernel) (by decide +kernel)
set_option maxRecDepth 20000 in
theorem gL_law_X4_peek : GoodIn wsL_law (wsV RL 96 RX4 yX4_peek wsX4_peek) := goodIn_app (goodIn_of _ (by decide +kernel)) ggL_law_X4_peek
set_option maxRecDepth 20000 in
theorem ggL_law_X5_peek : GoodIn wsL_law wsX5_peek := goodIn_r _ [578, 65, 597, 598, 599, 600, 601, 602, 603, 604, 605, 606, 607, 608, 609, 610, 611, 612, 613, 614] (by decide +kernel) (by decide +kernel)
set_option maxRecDepth 20000 in
theorem gL_law_X5_peek : GoodIn wsL_law (wsV RL 99 RX5 yX5_peek wsX5_peek) := goodIn_app (goodIn_of _ (by decide +kernel)) ggL_law_X5_peek
set_option maxRecDepth 20000 in
theorem ggL_law_X4_writes : GoodIn wsL_law wsX4_writes := goodIn_r _ [582, 15, 583, 584, 585, 14, 586, 37, 591, 592, 593, 594, 595, 596, 615, 616, 617, 618] (by decide +kernel) (by decide +kernel)
set_option maxRecDepth 20000 in
theorem gL_law_X4_writes : GoodIn wsL_law (wsV RL 100 RX4 yX4_writes wsX4_writes) := goodIn_app (goodIn_of _ (by decide +kernel)) ggL_law_X4_writes
set_option maxRecDepth 20000 in
theorem ggL_law_X5_writes : GoodIn wsL_law wsX5_writes := goodIn_r _ [590, 277, 597, 598, 599, 600, 601, 602, 603, 604, 605, 606, 607, 608, 609, 610, 611, 612, 613, 614] (by decide +kernel) (by decide +kernel)
set_option maxRecDepth 20000 in
theorem gL_law_X5_writes : GoodIn wsL_law (wsV RL 103 RX5 yX5_writes wsX5_writes) := goodIn_app (goodIn_of _ (by decide +kernel)) ggL_law_X5_writes
theorem dL_law_0 : decode cL_law 0 = .ok (.new 7, 3) := by decide +kernel
theorem dL_law_3 : decode cL_law 3 = .ok (.dup, 1) := by decide +kernel
theorem dL_law_4 : decode cL_law 4 = .ok (.invokespecial 9, 3) := by decide +kernel
theorem dL_law_7 : decode cL_law 7 = .ok (.astore_n 1, 1) := by decide +kernel
theorem dL_law_8 : decode cL_law 8 = .ok (.new 10, 3) := by decide +kernel
theorem dL_law_11 : decode cL_law 11 = .ok (.dup, 1) := by decide +kernel
theorem dL_law_12 : decode cL_law 12 = .ok (.invokespecial 12, 3) := by decide +kernel
theorem dL_law_15 : decode cL_law 15 = .ok (.astore_n 2, 1) := by decide +kernel
theorem dL_law_16 : decode cL_law 16 = .ok (.iconst 0, 1) := by decide +kernel
theorem dL_law_17 : decode cL_law 17 = .ok (.istore_n 3, 1) := by decide +kernel
theorem dL_law_18 : decode cL_law 18 = .ok (.iload_n 3, 1) := by decide +kernel
theorem dL_law_19 : decode cL_law 19 = .ok (.aload_n 0, 1) := by decide +kernel
theorem dL_law_20 : decode cL_law 20 = .ok (.arraylength, 1) := by decide +kernel
theorem dL_law_21 : decode cL_law 21 = .ok (.iconst 5, 1) := by decide +kernel
theorem dL_law_22 : decode cL_law 22 = .ok (.isub, 1) := by decide +kernel
theorem dL_law_23 : decode cL_law 23 = .ok (.if_icmp .gt 668, 3) := by decide +kernel
theorem dL_law_26 : decode cL_law 26 = .ok (.aload_n 0, 1) := by decide +kernel
theorem dL_law_27 : decode cL_law 27 = .ok (.iload_n 3, 1) := by decide +kernel
theorem dL_law_28 : decode cL_law 28 = .ok (.iaload, 1) := by decide +kernel
theorem dL_law_29 : decode cL_law 29 = .ok (.bipush 31, 2) := by decide +kernel
theorem dL_law_31 : decode cL_law 31 = .ok (.iand, 1) := by decide +kernel
theorem dL_law_32 : decode cL_law 32 = .ok (.tableswitch 653 0 20 #[100, 113, 136, 159, 172, 185, 198, 231, 254, 287, 340, 383, 416, 439, 492, 515, 548, 571, 594, 607, 640], 100) := by decide +kernel
theorem dL_law_132 : decode cL_law 132 = .ok (.aload_n 1, 1) := by decide +kernel
theorem dL_law_133 : decode cL_law 133 = .ok (.invokevirtual 13, 3) := by decide +kernel
theorem dL_law_136 : decode cL_law 136 = .ok (.aload_n 2, 1) := by decide +kernel
theorem dL_law_137 : decode cL_law 137 = .ok (.invokevirtual 17, 3) := by decide +kernel
theorem dL_law_140 : decode cL_law 140 = .ok (.if_icmp .eq 545, 3) := by decide +kernel
theorem dL_law_143 : decode cL_law 143 = .ok (.iconst 0, 1) := by decide +kernel
theorem dL_law_144 : decode cL_law 144 = .ok (.ireturn, 1) := by decide +kernel
theorem dL_law_145 : decode cL_law 145 = .ok (.aload_n 1, 1) := by decide +kernel
theorem dL_law_146 : decode cL_law 146 = .ok (.aload_n 0, 1) := by decide +kernel
theorem dL_law_147 : decode cL_law 147 = .ok (.iload_n 3, 1) := by decide +kernel
theorem dL_law_148 : decode cL_law 148 = .ok (.iconst 1, 1) := by decide +kernel
theorem dL_law_149 : decode cL_law 149 = .ok (.iadd, 1) := by decide +kernel
theorem dL_law_150 : decode cL_law 150 = .ok (.iaload, 1) := by decide +kernel
theorem dL_law_151 : decode cL_law 151 = .ok (.invokevirtual 18, 3) := by decide +kernel
theorem dL_law_154 : decode cL_law 154 = .ok (.aload_n 2, 1) := by decide +kernel
theorem dL_law_155 : decode cL_law 155 = .ok (.aload_n 0, 1) := by decide +kernel
theorem dL_law_156 : decode cL_law 156 = .ok (.iload_n 3, 1) := by decide +kernel
theorem dL_law_157 : decode cL_law 157 = .ok (.iconst 1, 1) := by decide +kernel
theorem dL_law_158 : decode cL_law 158 = .ok (.iadd, 1) := by decide +kernel
theorem dL_law_159 : decode cL_law 159 = .ok (.iaload, 1) := by decide +kernel
theorem dL_law_160 : decode cL_law 160 = .ok (.invokevirtual 22, 3) := by decide +kernel
theorem dL_law_163 : decode cL_law 163 = .ok (.if_icmp .eq 522, 3) := by decide +kernel
theorem dL_law_166 : decode cL_law 166 = .ok (.iconst 0, 1) := by decide +kernel
theorem dL_law_167 : decode cL_law 167 = .ok (.ireturn, 1) := by decide +kernel
theorem dL_law_168 : decode cL_law 168 = .ok (.aload_n 1, 1) := by decide +kernel
theorem dL_law_169 : decode cL_law 169 = .ok (.aload_n 0, 1) := by decide +kernel
theorem dL_law_170 : decode cL_law 170 = .ok (.iload_n 3, 1) := by decide +kernel
theorem dL_law_171 : decode cL_law 171 = .ok (.iconst 1, 1) := by decide +kernel
theorem dL_law_172 : decode cL_law 172 = .ok (.iadd, 1) := by decide +kernel
theorem dL_law_173 : decode cL_law 173 = .ok (.iaload, 1) := by decide +kernel
theorem dL_law_174 : decode cL_law 174 = .ok (.invokevirtual 23, 3) := by decide +kernel
theorem dL_law_177 : decode cL_law 177 = .ok (.aload_n 2, 1) := by decide +kernel
theorem dL_law_178 : decode cL_law 178 = .ok (.aload_n 0, 1) := by decide +kernel
theorem dL_law_179 : decode cL_law 179 = .ok (.iload_n 3, 1) := by decide +kernel
theorem dL_law_180 : decode cL_law 180 = .ok (.iconst 1, 1) := by decide +kernel
theorem dL_law_181 : decode cL_law 181 = .ok (.iadd, 1) := by decide +kernel
theorem dL_law_182 : decode cL_law 182 = .ok (.iaload, 1) := by decide +kernel
theorem dL_law_183 : decode cL_law 183 = .ok (.invokevirtual 26, 3) := by decide +kernel
theorem dL_law_186 : decode cL_law 186 = .ok (.if_icmp .eq 499, 3) := by decide +kernel
theorem dL_law_189 : decode cL_law 189 = .ok (.iconst 0, 1) := by decide +kernel
theorem dL_law_190 : decode cL_law 190 = .ok (.ireturn, 1) := by decide +kernel
theorem dL_law_191 : decode cL_law 191 = .ok (.aload_n 1, 1) := by decide +kernel
theorem dL_law_192 : decode cL_law 192 = .ok (.invokevirtual 27, 3) := by decide +kernel
theorem dL_law_195 : decode cL_law 195 = .ok (.aload_n 2, 1) := by decide +kernel
theorem dL_law_196 : decode cL_law 196 = .ok (.invokevirtual 30, 3) := by decide +kernel
theorem dL_law_199 : decode cL_law 199 = .ok (.if_icmp .eq 486, 3) := by decide +kernel
theorem dL_law_202 : decode cL_law 202 = .ok (.iconst 0, 1) := by decide +kernel
theorem dL_law_203 : decode cL_law 203 = .ok (.ireturn, 1) := by decide +kernel
theorem dL_law_204 : decode cL_law 204 = .ok (.aload_n 1, 1) := by decide +kernel
theorem dL_law_205 : decode cL_law 205 = .ok (.invokevirtual 31, 3) := by decide +kernel
theorem dL_law_208 : decode cL_law 208 = .ok (.aload_n 2, 1) := by decide +kernel
theorem dL_law_209 : decode cL_law 209 = .ok (.invokevirtual 34, 3) := by decide +kernel
theorem dL_law_212 : decode cL_law 212 = .ok (.if_icmp .eq 473, 3) := by decide +kernel
theorem dL_law_215 : decode cL_law 215 = .ok (.iconst 0, 1) := by decide +kernel
theorem dL_law_216 : decode cL_law 216 = .ok (.ireturn, 1) := by decide +kernel
theorem dL_law_217 : decode cL_law 217 = .ok (.aload_n 1, 1) := by decide +kernel
theorem dL_law_218 : decode cL_law 218 = .ok (.invokevirtual 35, 3) := by decide +kernel
theorem dL_law_221 : decode cL_law 221 = .ok (.aload_n 2, 1) := by decide +kernel
theorem dL_law_222 : decode cL_law 222 = .ok (.invokevirtual 38, 3) := by decide +kernel
theorem dL_law_225 : decode cL_law 225 = .ok (.if_icmp .eq 460, 3) := by decide +kernel
theorem dL_law_228 : decode cL_law 228 = .ok (.iconst 0, 1) := by decide +kernel
theorem dL_law_229 : decode cL_law 229 = .ok (.ireturn, 1) := by decide +kernel
theorem dL_law_230 : decode cL_law 230 = .ok (.aload_n 1, 1) := by decide +kernel
theorem dL_law_231 : decode cL_law 231 = .ok (.aload_n 0, 1) := by decide +kernel
theorem dL_law_232 : decode cL_law 232 = .ok (.iload_n 3, 1) := by decide +kernel
theorem dL_law_233 : decode cL_law 233 = .ok (.iconst 1, 1) := by decide +kernel
theorem dL_law_234 : decode cL_law 234 = .ok (.iadd, 1) := by decide +kernel
theorem dL_law_235 : decode cL_law 235 = .ok (.iaload, 1) := by decide +kernel
theorem dL_law_236 : decode cL_law 236 = .ok (.aload_n 0, 1) := by decide +kernel
theorem dL_law_237 : decode cL_law 237 = .ok (.iload_n 3, 1) := by decide +kernel
theorem dL_law_238 : decode cL_law 238 = .ok (.iconst 2, 1) := by decide +kernel
theorem dL_law_239 : decode cL_law 239 = .ok (.iadd, 1) := by decide +kernel
theorem dL_law_240 : decode cL_law 240 = .ok (.iaload, 1) := by decide +kernel
theorem dL_law_241 : decode cL_law 241 = .ok (.invokevirtual 39, 3) := by decide +kernel
theorem dL_law_244 : decode cL_law 244 = .ok (.aload_n 2, 1) := by decide +kernel
theorem dL_law_245 : decode cL_law 245 = .ok (.aload_n 0, 1) := by decide +kernel
theorem dL_law_246 : decode cL_law 246 = .ok (.iload_n 3, 1) := by decide +kernel
theorem dL_law_247 : decode cL_law 247 = .ok (.iconst 1, 1) := by decide +kernel
theorem dL_law_248 : decode cL_law 248 = .ok (.iadd, 1) := by decide +kernel
theorem dL_law_249 : decode cL_law 249 = .ok (.iaload, 1) := by decide +kernel
theorem dL_law_250 : decode cL_law 250 = .ok (.aload_n 0, 1) := by decide +kernel
theorem dL_law_251 : decode cL_law 251 = .ok (.iload_n 3, 1) := by decide +kernel
theorem dL_law_252 : decode cL_law 252 = .ok (.iconst 2, 1) := by decide +kernel
theorem dL_law_253 : decode cL_law 253 = .ok (.iadd, 1) := by decide +kernel
theorem dL_law_254 : decode cL_law 254 = .ok (.iaload, 1) := by decide +kernel
theorem dL_law_255 : decode cL_law 255 = .ok (.invokevirtual 43, 3) := by decide +kernel
theorem dL_law_258 : decode cL_law 258 = .ok (.if_icmp .eq 427, 3) := by decide +kernel
theorem dL_law_261 : decode cL_law 261 = .ok (.iconst 0, 1) := by decide +kernel
theorem dL_law_262 : decode cL_law 262 = .ok (.ireturn, 1) := by decide +kernel
theorem dL_law_263 : decode cL_law 263 = .ok (.aload_n 1, 1) := by decide +kernel
theorem dL_law_264 : decode cL_law 264 = .ok (.aload_n 0, 1) := by decide +kernel
theorem dL_law_265 : decode cL_law 265 = .ok (.iload_n 3, 1) := by decide +kernel
theorem dL_law_266 : decode cL_law 266 = .ok (.iconst 1, 1) := by decide +kernel
theorem dL_law_267 : decode cL_law 267 = .ok (.iadd, 1) := by decide +kernel
theorem dL_law_268 : decode cL_law 268 = .ok (.iaload, 1) := by decide +kernel
theorem dL_law_269 : decode cL_law 269 = .ok (.invokevirtual 44, 3) := by decide +kernel
theorem dL_law_272 : decode cL_law 272 = .ok (.aload_n 2, 1) := by decide +kernel
theorem dL_law_273 : decode cL_law 273 = .ok (.aload_n 0, 1) := by decide +kernel
theorem dL_law_274 : decode cL_law 274 = .ok (.iload_n 3, 1) := by decide +kernel
end
section
theorem dL_law_275 : decode cL_law 275 = .ok (.iconst 1, 1) := by decide +kernel
theorem dL_law_276 : decode cL_law 276 = .ok (.iadd, 1) := by decide +kernel
theorem dL_law_277 : decode cL_law 277 = .ok (.iaload, 1) := by decide +kernel
theorem dL_law_278 : decode cL_law 278 = .ok (.invokevirtual 47, 3) := by decide +kernel
theorem dL_law_281 : decode cL_law 281 = .ok (.if_icmp .eq 404, 3) := by decide +kernel
theorem dL_law_284 : decode cL_law 284 = .ok (.iconst 0, 1) := by decide +kernel
theorem dL_law_285 : decode cL_law 285 = .ok (.ireturn, 1) := by decide +kernel
theorem dL_law_286 : decode cL_law 286 = .ok (.aload_n 1, 1) := by decide +kernel
theorem dL_law_287 : decode cL_law 287 = .ok (.aload_n 0, 1) := by decide +kernel
theorem dL_law_288 : decode cL_law 288 = .ok (.iload_n 3, 1) := by decide +kernel
theorem dL_law_289 : decode cL_law 289 = .ok (.iconst 1, 1) := by decide +kernel
theorem dL_law_290 : decode cL_law 290 = .ok (.iadd, 1) := by decide +kernel
theorem dL_law_291 : decode cL_law 291 = .ok (.iaload, 1) := by decide +kernel
theorem dL_law_292 : decode cL_law 292 = .ok (.aload_n 0, 1) := by decide +kernel
theorem dL_law_293 : decode cL_law 293 = .ok (.iload_n 3, 1) := by decide +kernel
theorem dL_law_294 : decode cL_law 294 = .ok (.iconst 2, 1) := by decide +kernel
theorem dL_law_295 : decode cL_law 295 = .ok (.iadd, 1) := by decide +kernel
theorem dL_law_296 : decode cL_law 296 = .ok (.iaload, 1) := by decide +kernel
theorem dL_law_297 : decode cL_law 297 = .ok (.invokevirtual 48, 3) := by decide +kernel
theorem dL_law_300 : decode cL_law 300 = .ok (.aload_n 2, 1) := by decide +kernel
theorem dL_law_301 : decode cL_law 301 = .ok (.aload_n 0, 1) := by decide +kernel
theorem dL_law_302 : decode cL_law 302 = .ok (.iload_n 3, 1) := by decide +kernel
theorem dL_law_303 : decode cL_law 303 = .ok (.iconst 1, 1) := by decide +kernel
theorem dL_law_304 : decode cL_law 304 = .ok (.iadd, 1) := by decide +kernel
theorem dL_law_305 : decode cL_law 305 = .ok (.iaload, 1) := by decide +kernel
theorem dL_law_306 : decode cL_law 306 = .ok (.aload_n 0, 1) := by decide +kernel
theorem dL_law_307 : decode cL_law 307 = .ok (.iload_n 3, 1) := by decide +kernel
theorem dL_law_308 : decode cL_law 308 = .ok (.iconst 2, 1) := by decide +kernel
theorem dL_law_309 : decode cL_law 309 = .ok (.iadd, 1) := by decide +kernel
theorem dL_law_310 : decode cL_law 310 = .ok (.iaload, 1) := by decide +kernel
theorem dL_law_311 : decode cL_law 311 = .ok (.invokevirtual 51, 3) := by decide +kernel
theorem dL_law_314 : decode cL_law 314 = .ok (.if_icmp .eq 371, 3) := by decide +kernel
theorem dL_law_317 : decode cL_law 317 = .ok (.iconst 0, 1) := by decide +kernel
theorem dL_law_318 : decode cL_law 318 = .ok (.ireturn, 1) := by decide +kernel
theorem dL_law_319 : decode cL_law 319 = .ok (.aload_n 1, 1) := by decide +kernel
theorem dL_law_320 : decode cL_law 320 = .ok (.aload_n 0, 1) := by decide +kernel
theorem dL_law_321 : decode cL_law 321 = .ok (.iload_n 3, 1) := by decide +kernel
theorem dL_law_322 : decode cL_law 322 = .ok (.iconst 1, 1) := by decide +kernel
theorem dL_law_323 : decode cL_law 323 = .ok (.iadd, 1) := by decide +kernel
theorem dL_law_324 : decode cL_law 324 = .ok (.iaload, 1) := by decide +kernel
theorem dL_law_325 : decode cL_law 325 = .ok (.aload_n 0, 1) := by decide +kernel
theorem dL_law_326 : decode cL_law 326 = .ok (.iload_n 3, 1) := by decide +kernel
theorem dL_law_327 : decode cL_law 327 = .ok (.iconst 2, 1) := by decide +kernel
theorem dL_law_328 : decode cL_law 328 = .ok (.iadd, 1) := by decide +kernel
theorem dL_law_329 : decode cL_law 329 = .ok (.iaload, 1) := by decide +kernel
theorem dL_law_330 : decode cL_law 330 = .ok (.aload_n 0, 1) := by decide +kernel
theorem dL_law_331 : decode cL_law 331 = .ok (.iload_n 3, 1) := by decide +kernel
theorem dL_law_332 : decode cL_law 332 = .ok (.iconst 3, 1) := by decide +kernel
theorem dL_law_333 : decode cL_law 333 = .ok (.iadd, 1) := by decide +kernel
theorem dL_law_334 : decode cL_law 334 = .ok (.iaload, 1) := by decide +kernel
theorem dL_law_335 : decode cL_law 335 = .ok (.aload_n 0, 1) := by decide +kernel
theorem dL_law_336 : decode cL_law 336 = .ok (.iload_n 3, 1) := by decide +kernel
theorem dL_law_337 : decode cL_law 337 = .ok (.iconst 4, 1) := by decide +kernel
theorem dL_law_338 : decode cL_law 338 = .ok (.iadd, 1) := by decide +kernel
theorem dL_law_339 : decode cL_law 339 = .ok (.iaload, 1) := by decide +kernel
theorem dL_law_340 : decode cL_law 340 = .ok (.invokevirtual 52, 3) := by decide +kernel
theorem dL_law_343 : decode cL_law 343 = .ok (.aload_n 2, 1) := by decide +kernel
theorem dL_law_344 : decode cL_law 344 = .ok (.aload_n 0, 1) := by decide +kernel
theorem dL_law_345 : decode cL_law 345 = .ok (.iload_n 3, 1) := by decide +kernel
theorem dL_law_346 : decode cL_law 346 = .ok (.iconst 1, 1) := by decide +kernel
theorem dL_law_347 : decode cL_law 347 = .ok (.iadd, 1) := by decide +kernel
theorem dL_law_348 : decode cL_law 348 = .ok (.iaload, 1) := by decide +kernel
theorem dL_law_349 : decode cL_law 349 = .ok (.aload_n 0, 1) := by decide +kernel
theorem dL_law_350 : decode cL_law 350 = .ok (.iload_n 3, 1) := by decide +kernel
theorem dL_law_351 : decode cL_law 351 = .ok (.iconst 2, 1) := by decide +kernel
theorem dL_law_352 : decode cL_law 352 = .ok (.iadd, 1) := by decide +kernel
theorem dL_law_353 : decode cL_law 353 = .ok (.iaload, 1) := by decide +kernel
theorem dL_law_354 : decode cL_law 354 = .ok (.aload_n 0, 1) := by decide +kernel
theorem dL_law_355 : decode cL_law 355 = .ok (.iload_n 3, 1) := by decide +kernel
theorem dL_law_356 : decode cL_law 356 = .ok (.iconst 3, 1) := by decide +kernel
theorem dL_law_357 : decode cL_law 357 = .ok (.iadd, 1) := by decide +kernel
theorem dL_law_358 : decode cL_law 358 = .ok (.iaload, 1) := by decide +kernel
theorem dL_law_359 : decode cL_law 359 = .ok (.aload_n 0, 1) := by decide +kernel
theorem dL_law_360 : decode cL_law 360 = .ok (.iload_n 3, 1) := by decide +kernel
theorem dL_law_361 : decode cL_law 361 = .ok (.iconst 4, 1) := by decide +kernel
theorem dL_law_362 : decode cL_law 362 = .ok (.iadd, 1) := by decide +kernel
theorem dL_law_363 : decode cL_law 363 = .ok (.iaload, 1) := by decide +kernel
theorem dL_law_364 : decode cL_law 364 = .ok (.invokevirtual 56, 3) := by decide +kernel
theorem dL_law_367 : decode cL_law 367 = .ok (.if_icmp .eq 318, 3) := by decide +kernel
theorem dL_law_370 : decode cL_law 370 = .ok (.iconst 0, 1) := by decide +kernel
theorem dL_law_371 : decode cL_law 371 = .ok (.ireturn, 1) := by decide +kernel
theorem dL_law_372 : decode cL_law 372 = .ok (.aload_n 1, 1) := by decide +kernel
theorem dL_law_373 : decode cL_law 373 = .ok (.aload_n 0, 1) := by decide +kernel
theorem dL_law_374 : decode cL_law 374 = .ok (.iload_n 3, 1) := by decide +kernel
theorem dL_law_375 : decode cL_law 375 = .ok (.iconst 1, 1) := by decide +kernel
theorem dL_law_376 : decode cL_law 376 = .ok (.iadd, 1) := by decide +kernel
theorem dL_law_377 : decode cL_law 377 = .ok (.iaload, 1) := by decide +kernel
theorem dL_law_378 : decode cL_law 378 = .ok (.aload_n 0, 1) := by decide +kernel
theorem dL_law_379 : decode cL_law 379 = .ok (.iload_n 3, 1) := by decide +kernel
theorem dL_law_380 : decode cL_law 380 = .ok (.iconst 2, 1) := by decide +kernel
theorem dL_law_381 : decode cL_law 381 = .ok (.iadd, 1) := by decide +kernel
theorem dL_law_382 : decode cL_law 382 = .ok (.iaload, 1) := by decide +kernel
theorem dL_law_383 : decode cL_law 383 = .ok (.aload_n 0, 1) := by decide +kernel
theorem dL_law_384 : decode cL_law 384 = .ok (.iload_n 3, 1) := by decide +kernel
theorem dL_law_385 : decode cL_law 385 = .ok (.iconst 3, 1) := by decide +kernel
theorem dL_law_386 : decode cL_law 386 = .ok (.iadd, 1) := by decide +kernel
theorem dL_law_387 : decode cL_law 387 = .ok (.iaload, 1) := by decide +kernel
theorem dL_law_388 : decode cL_law 388 = .ok (.invokevirtual 57, 3) := by decide +kernel
theorem dL_law_391 : decode cL_law 391 = .ok (.aload_n 2, 1) := by decide +kernel
theorem dL_law_392 : decode cL_law 392 = .ok (.aload_n 0, 1) := by decide +kernel
theorem dL_law_393 : decode cL_law 393 = .ok (.iload_n 3, 1) := by decide +kernel
theorem dL_law_394 : decode cL_law 394 = .ok (.iconst 1, 1) := by decide +kernel
theorem dL_law_395 : decode cL_law 395 = .ok (.iadd, 1) := by decide +kernel
theorem dL_law_396 : decode cL_law 396 = .ok (.iaload, 1) := by decide +kernel
theorem dL_law_397 : decode cL_law 397 = .ok (.aload_n 0, 1) := by decide +kernel
theorem dL_law_398 : decode cL_law 398 = .ok (.iload_n 3, 1) := by decide +kernel
theorem dL_law_399 : decode cL_law 399 = .ok (.iconst 2, 1) := by decide +kernel
theorem dL_law_400 : decode cL_law 400 = .ok (.iadd, 1) := by decide +kernel
theorem dL_law_401 : decode cL_law 401 = .ok (.iaload, 1) := by decide +kernel
theorem dL_law_402 : decode cL_law 402 = .ok (.aload_n 0, 1) := by decide +kernel
theorem dL_law_403 : decode cL_law 403 = .ok (.iload_n 3, 1) := by decide +kernel
theorem dL_law_404 : decode cL_law 404 = .ok (.iconst 3, 1) := by decide +kernel
theorem dL_law_405 : decode cL_law 405 = .ok (.iadd, 1) := by decide +kernel
theorem dL_law_406 : decode cL_law 406 = .ok (.iaload, 1) := by decide +kernel
theorem dL_law_407 : decode cL_law 407 = .ok (.invokevirtual 61, 3) := by decide +kernel
theorem dL_law_410 : decode cL_law 410 = .ok (.if_icmp .eq 275, 3) := by decide +kernel
theorem dL_law_413 : decode cL_law 413 = .ok (.iconst 0, 1) := by decide +kernel
theorem dL_law_414 : decode cL_law 414 = .ok (.ireturn, 1) := by decide +kernel
theorem dL_law_415 : decode cL_law 415 = .ok (.aload_n 1, 1) := by decide +kernel
theorem dL_law_416 : decode cL_law 416 = .ok (.aload_n 0, 1) := by decide +kernel
theorem dL_law_417 : decode cL_law 417 = .ok (.iload_n 3, 1) := by decide +kernel
theorem dL_law_418 : decode cL_law 418 = .ok (.iconst 1, 1) := by decide +kernel
theorem dL_law_419 : decode cL_law 419 = .ok (.iadd, 1) := by decide +kernel
theorem dL_law_420 : decode cL_law 420 = .ok (.iaload, 1) := by decide +kernel
theorem dL_law_421 : decode cL_law 421 = .ok (.aload_n 0, 1) := by decide +kernel
theorem dL_law_422 : decode cL_law 422 = .ok (.iload_n 3, 1) := by decide +kernel
theorem dL_law_423 : decode cL_law 423 = .ok (.iconst 2, 1) := by decide +kernel
theorem dL_law_424 : decode cL_law 424 = .ok (.iadd, 1) := by decide +kernel
theorem dL_law_425 : decode cL_law 425 = .ok (.iaload, 1) := by decide +kernel
theorem dL_law_426 : decode cL_law 426 = .ok (.invokevirtual 62, 3) := by decide +kernel
theorem dL_law_429 : decode cL_law 429 = .ok (.aload_n 2, 1) := by decide +kernel
theorem dL_law_430 : decode cL_law 430 = .ok (.aload_n 0, 1) := by decide +kernel
theorem dL_law_431 : decode cL_law 431 = .ok (.iload_n 3, 1) := by decide +kernel
theorem dL_law_432 : decode cL_law 432 = .ok (.iconst 1, 1) := by decide +kernel
theorem dL_law_433 : decode cL_law 433 = .ok (.iadd, 1) := by decide +kernel
theorem dL_law_434 : decode cL_law 434 = .ok (.iaload, 1) := by decide +kernel
theorem dL_law_435 : decode cL_law 435 = .ok (.aload_n 0, 1) := by decide +kernel
theorem dL_law_436 : decode cL_law 436 = .ok (.iload_n 3, 1) := by decide +kernel
theorem dL_law_437 : decode cL_law 437 = .ok (.iconst 2, 1) := by decide +kernel
theorem dL_law_438 : decode cL_law 438 = .ok (.iadd, 1) := by decide +kernel
theorem dL_law_439 : decode cL_law 439 = .ok (.iaload, 1) := by decide +kernel
theorem dL_law_440 : decode cL_law 440 = .ok (.invokevirtual 66, 3) := by decide +kernel
theorem dL_law_443 : decode cL_law 443 = .ok (.if_icmp .eq 242, 3) := by decide +kernel
theorem dL_law_446 : decode cL_law 446 = .ok (.iconst 0, 1) := by decide +kernel
theorem dL_law_447 : decode cL_law 447 = .ok (.ireturn, 1) := by decide +kernel
theorem dL_law_448 : decode cL_law 448 = .ok (.aload_n 1, 1) := by decide +kernel
theorem dL_law_449 : decode cL_law 449 = .ok (.aload_n 0, 1) := by decide +kernel
theorem dL_law_450 : decode cL_law 450 = .ok (.iload_n 3, 1) := by decide +kernel
theorem dL_law_451 : decode cL_law 451 = .ok (.iconst 1, 1) := by decide +kernel
theorem dL_law_452 : decode cL_law 452 = .ok (.iadd, 1) := by decide +kernel
theorem dL_law_453 : decode cL_law 453 = .ok (.iaload, 1) := by decide +kernel
theorem dL_law_454 : decode cL_law 454 = .ok (.invokevirtual 67, 3) := by decide +kernel
theorem dL_law_457 : decode cL_law 457 = .ok (.aload_n 2, 1) := by decide +kernel
theorem dL_law_458 : decode cL_law 458 = .ok (.aload_n 0, 1) := by decide +kernel
theorem dL_law_459 : decode cL_law 459 = .ok (.iload_n 3, 1) := by decide +kernel
theorem dL_law_460 : decode cL_law 460 = .ok (.iconst 1, 1) := by decide +kernel
theorem dL_law_461 : decode cL_law 461 = .ok (.iadd, 1) := by decide +kernel
theorem dL_law_462 : decode cL_law 462 = .ok (.iaload, 1) := by decide +kernel
theorem dL_law_463 : decode cL_law 463 = .ok (.invokevirtual 70, 3) := by decide +kernel
theorem dL_law_466 : decode cL_law 466 = .ok (.if_icmp .eq 219, 3) := by decide +kernel
theorem dL_law_469 : decode cL_law 469 = .ok (.iconst 0, 1) := by decide +kernel
theorem dL_law_470 : decode cL_law 470 = .ok (.ireturn, 1) := by decide +kernel
theorem dL_law_471 : decode cL_law 471 = .ok (.aload_n 1, 1) := by decide +kernel
theorem dL_law_472 : decode cL_law 472 = .ok (.aload_n 0, 1) := by decide +kernel
theorem dL_law_473 : decode cL_law 473 = .ok (.iload_n 3, 1) := by decide +kernel
theorem dL_law_474 : decode cL_law 474 = .ok (.iconst 1, 1) := by decide +kernel
theorem dL_law_475 : decode cL_law 475 = .ok (.iadd, 1) := by decide +kernel
theorem dL_law_476 : decode cL_law 476 = .ok (.iaload, 1) := by decide +kernel
theorem dL_law_477 : decode cL_law 477 = .ok (.aload_n 0, 1) := by decide +kernel
theorem dL_law_478 : decode cL_law 478 = .ok (.iload_n 3, 1) := by decide +kernel
theorem dL_law_479 : decode cL_law 479 = .ok (.iconst 2, 1) := by decide +kernel
theorem dL_law_480 : decode cL_law 480 = .ok (.iadd, 1) := by decide +kernel
theorem dL_law_481 : decode cL_law 481 = .ok (.iaload, 1) := by decide +kernel
theorem dL_law_482 : decode cL_law 482 = .ok (.aload_n 0, 1) := by decide +kernel
theorem dL_law_483 : decode cL_law 483 = .ok (.iload_n 3, 1) := by decide +kernel
theorem dL_law_484 : decode cL_law 484 = .ok (.iconst 3, 1) := by decide +kernel
theorem dL_law_485 : decode cL_law 485 = .ok (.iadd, 1) := by decide +kernel
theorem dL_law_486 : decode cL_law 486 = .ok (.iaload, 1) := by decide +kernel
theorem dL_law_487 : decode cL_law 487 = .ok (.aload_n 0, 1) := by decide +kernel
theorem dL_law_488 : decode cL_law 488 = .ok (.iload_n 3, 1) := by decide +kernel
theorem dL_law_489 : decode cL_law 489 = .ok (.iconst 4, 1) := by decide +kernel
theorem dL_law_490 : decode cL_law 490 = .ok (.iadd, 1) := by decide +kernel
theorem dL_law_491 : decode cL_law 491 = .ok (.iaload, 1) := by decide +kernel
theorem dL_law_492 : decode cL_law 492 = .ok (.invokevirtual 71, 3) := by decide +kernel
theorem dL_law_495 : decode cL_law 495 = .ok (.aload_n 2, 1) := by decide +kernel
theorem dL_law_496 : decode cL_law 496 = .ok (.aload_n 0, 1) := by decide +kernel
theorem dL_law_497 : decode cL_law 497 = .ok (.iload_n 3, 1) := by decide +kernel
theorem dL_law_498 : decode cL_law 498 = .ok (.iconst 1, 1) := by decide +kernel
theorem dL_law_499 : decode cL_law 499 = .ok (.iadd, 1) := by decide +kernel
theorem dL_law_500 : decode cL_law 500 = .ok (.iaload, 1) := by decide +kernel
theorem dL_law_501 : decode cL_law 501 = .ok (.aload_n 0, 1) := by decide +kernel
theorem dL_law_502 : decode cL_law 502 = .ok (.iload_n 3, 1) := by decide +kernel
theorem dL_law_503 : decode cL_law 503 = .ok (.iconst 2, 1) := by decide +kernel
theorem dL_law_504 : decode cL_law 504 = .ok (.iadd, 1) := by decide +kernel
theorem dL_law_505 : decode cL_law 505 = .ok (.iaload, 1) := by decide +kernel
theorem dL_law_506 : decode cL_law 506 = .ok (.aload_n 0, 1) := by decide +kernel
theorem dL_law_507 : decode cL_law 507 = .ok (.iload_n 3, 1) := by decide +kernel
theorem dL_law_508 : decode cL_law 508 = .ok (.iconst 3, 1) := by decide +kernel
theorem dL_law_509 : decode cL_law 509 = .ok (.iadd, 1) := by decide +kernel
theorem dL_law_510 : decode cL_law 510 = .ok (.iaload, 1) := by decide +kernel
theorem dL_law_511 : decode cL_law 511 = .ok (.aload_n 0, 1) := by decide +kernel
theorem dL_law_512 : decode cL_law 512 = .ok (.iload_n 3, 1) := by decide +kernel
theorem dL_law_513 : decode cL_law 513 = .ok (.iconst 4, 1) := by decide +kernel
theorem dL_law_514 : decode cL_law 514 = .ok (.iadd, 1) := by decide +kernel
theorem dL_law_515 : decode cL_law 515 = .ok (.iaload, 1) := by decide +kernel
theorem dL_law_516 : decode cL_law 516 = .ok (.invokevirtual 74, 3) := by decide +kernel
theorem dL_law_519 : decode cL_law 519 = .ok (.if_icmp .eq 166, 3) := by decide +kernel
theorem dL_law_522 : decode cL_law 522 = .ok (.iconst 0, 1) := by decide +kernel
theorem dL_law_523 : decode cL_law 523 = .ok (.ireturn, 1) := by decide +kernel
theorem dL_law_524 : decode cL_law 524 = .ok (.aload_n 1, 1) := by decide +kernel
theorem dL_law_525 : decode cL_law 525 = .ok (.aload_n 0, 1) := by decide +kernel
theorem dL_law_526 : decode cL_law 526 = .ok (.iload_n 3, 1) := by decide +kernel
theorem dL_law_527 : decode cL_law 527 = .ok (.iconst 1, 1) := by decide +kernel
theorem dL_law_528 : decode cL_law 528 = .ok (.iadd, 1) := by decide +kernel
theorem dL_law_529 : decode cL_law 529 = .ok (.iaload, 1) := by decide +kernel
theorem dL_law_530 : decode cL_law 530 = .ok (.invokevirtual 75, 3) := by decide +kernel
theorem dL_law_533 : decode cL_law 533 = .ok (.aload_n 2, 1) := by decide +kernel
theorem dL_law_534 : decode cL_law 534 = .ok (.aload_n 0, 1) := by decide +kernel
theorem dL_law_535 : decode cL_law 535 = .ok (.iload_n 3, 1) := by decide +kernel
theorem dL_law_536 : decode cL_law 536 = .ok (.iconst 1, 1) := by decide +kernel
theorem dL_law_537 : decode cL_law 537 = .ok (.iadd, 1) := by decide +kernel
theorem dL_law_538 : decode cL_law 538 = .ok (.iaload, 1) := by decide +kernel
theorem dL_law_539 : decode cL_law 539 = .ok (.invokevirtual 79, 3) := by decide +kernel
theorem dL_law_542 : decode cL_law 542 = .ok (.if_icmp .eq 143, 3) := by decide +kernel
theorem dL_law_545 : decode cL_law 545 = .ok (.iconst 0, 1) := by decide +kernel
theorem dL_law_546 : decode cL_law 546 = .ok (.ireturn, 1) := by decide +kernel
theorem dL_law_547 : decode cL_law 547 = .ok (.aload_n 1, 1) := by decide +kernel
theorem dL_law_548 : decode cL_law 548 = .ok (.aload_n 0, 1) := by decide +kernel
theorem dL_law_549 : decode cL_law 549 = .ok (.iload_n 3, 1) := by decide +kernel
theorem dL_law_550 : decode cL_law 550 = .ok (.iconst 1, 1) := by decide +kernel
theorem dL_law_551 : decode cL_law 551 = .ok (.iadd, 1) := by decide +kernel
theorem dL_law_552 : decode cL_law 552 = .ok (.iaload, 1) := by decide +kernel
theorem dL_law_553 : decode cL_law 553 = .ok (.aload_n 0, 1) := by decide +kernel
theorem dL_law_554 : decode cL_law 554 = .ok (.iload_n 3, 1) := by decide +kernel
theorem dL_law_555 : decode cL_law 555 = .ok (.iconst 2, 1) := by decide +kernel
theorem dL_law_556 : decode cL_law 556 = .ok (.iadd, 1) := by decide +kernel
theorem dL_law_557 : decode cL_law 557 = .ok (.iaload, 1) := by decide +kernel
theorem dL_law_558 : decode cL_law 558 = .ok (.invokevirtual 80, 3) := by decide +kernel
theorem dL_law_561 : decode cL_law 561 = .ok (.aload_n 2, 1) := by decide +kernel
theorem dL_law_562 : decode cL_law 562 = .ok (.aload_n 0, 1) := by decide +kernel
theorem dL_law_563 : decode cL_law 563 = .ok (.iload_n 3, 1) := by decide +kernel
theorem dL_law_564 : decode cL_law 564 = .ok (.iconst 1, 1) := by decide +kernel
theorem dL_law_565 : decode cL_law 565 = .ok (.iadd, 1) := by decide +kernel
theorem dL_law_566 : decode cL_law 566 = .ok (.iaload, 1) := by decide +kernel
theorem dL_law_567 : decode cL_law 567 = .ok (.aload_n 0, 1) := by decide +kernel
theorem dL_law_568 : decode cL_law 568 = .ok (.iload_n 3, 1) := by decide +kernel
theorem dL_law_569 : decode cL_law 569 = .ok (.iconst 2, 1) := by decide +kernel
theorem dL_law_570 : decode cL_law 570 = .ok (.iadd, 1) := by decide +kernel
theorem dL_law_571 : decode cL_law 571 = .ok (.iaload, 1) := by decide +kernel
theorem dL_law_572 : decode cL_law 572 = .ok (.invokevirtual 83, 3) := by decide +kernel
theorem dL_law_575 : decode cL_law 575 = .ok (.if_icmp .eq 110, 3) := by decide +kernel
theorem dL_law_578 : decode cL_law 578 = .ok (.iconst 0, 1) := by decide +kernel
theorem dL_law_579 : decode cL_law 579 = .ok (.ireturn, 1) := by decide +kernel
theorem dL_law_580 : decode cL_law 580 = .ok (.aload_n 1, 1) := by decide +kernel
theorem dL_law_581 : decode cL_law 581 = .ok (.aload_n 0, 1) := by decide +kernel
theorem dL_law_582 : decode cL_law 582 = .ok (.iload_n 3, 1) := by decide +kernel
theorem dL_law_583 : decode cL_law 583 = .ok (.iconst 1, 1) := by decide +kernel
theorem dL_law_584 : decode cL_law 584 = .ok (.iadd, 1) := by decide +kernel
theorem dL_law_585 : decode cL_law 585 = .ok (.iaload, 1) := by decide +kernel
theorem dL_law_586 : decode cL_law 586 = .ok (.invokevirtual 84, 3) := by decide +kernel
theorem dL_law_589 : decode cL_law 589 = .ok (.aload_n 2, 1) := by decide +kernel
theorem dL_law_590 : decode cL_law 590 = .ok (.aload_n 0, 1) := by decide +kernel
theorem dL_law_591 : decode cL_law 591 = .ok (.iload_n 3, 1) := by decide +kernel
theorem dL_law_592 : decode cL_law 592 = .ok (.iconst 1, 1) := by decide +kernel
theorem dL_law_593 : decode cL_law 593 = .ok (.iadd, 1) := by decide +kernel
theorem dL_law_594 : decode cL_law 594 = .ok (.iaload, 1) := by decide +kernel
theorem dL_law_595 : decode cL_law 595 = .ok (.invokevirtual 87, 3) := by decide +kernel
theorem dL_law_598 : decode cL_law 598 = .ok (.if_icmp .eq 87, 3) := by decide +kernel
theorem dL_law_601 : decode cL_law 601 = .ok (.iconst 0, 1) := by decide +kernel
theorem dL_law_602 : decode cL_law 602 = .ok (.ireturn, 1) := by decide +kernel
theorem dL_law_603 : decode cL_law 603 = .ok (.aload_n 1, 1) := by decide +kernel
theorem dL_law_604 : decode cL_law 604 = .ok (.aload_n 0, 1) := by decide +kernel
theorem dL_law_605 : decode cL_law 605 = .ok (.iload_n 3, 1) := by decide +kernel
theorem dL_law_606 : decode cL_law 606 = .ok (.iconst 1, 1) := by decide +kernel
theorem dL_law_607 : decode cL_law 607 = .ok (.iadd, 1) := by decide +kernel
theorem dL_law_608 : decode cL_law 608 = .ok (.iaload, 1) := by decide +kernel
theorem dL_law_609 : decode cL_law 609 = .ok (.invokevirtual 88, 3) := by decide +kernel
theorem dL_law_612 : decode cL_law 612 = .ok (.aload_n 2, 1) := by decide +kernel
theorem dL_law_613 : decode cL_law 613 = .ok (.aload_n 0, 1) := by decide +kernel
theorem dL_law_614 : decode cL_law 614 = .ok (.iload_n 3, 1) := by decide +kernel
theorem dL_law_615 : decode cL_law 615 = .ok (.iconst 1, 1) := by decide +kernel
theorem dL_law_616 : decode cL_law 616 = .ok (.iadd, 1) := by decide +kernel
theorem dL_law_617 : decode cL_law 617 = .ok (.iaload, 1) := by decide +kernel
theorem dL_law_618 : decode cL_law 618 = .ok (.invokevirtual 91, 3) := by decide +kernel
theorem dL_law_621 : decode cL_law 621 = .ok (.if_icmp .eq 64, 3) := by decide +kernel
theorem dL_law_624 : decode cL_law 624 = .ok (.iconst 0, 1) := by decide +kernel
theorem dL_law_625 : decode cL_law 625 = .ok (.ireturn, 1) := by decide +kernel
theorem dL_law_626 : decode cL_law 626 = .ok (.aload_n 1, 1) := by decide +kernel
theorem dL_law_627 : decode cL_law 627 = .ok (.invokevirtual 92, 3) := by decide +kernel
theorem dL_law_630 : decode cL_law 630 = .ok (.aload_n 2, 1) := by decide +kernel
theorem dL_law_631 : decode cL_law 631 = .ok (.invokevirtual 95, 3) := by decide +kernel
theorem dL_law_634 : decode cL_law 634 = .ok (.if_icmp .eq 51, 3) := by decide +kernel
theorem dL_law_637 : decode cL_law 637 = .ok (.iconst 0, 1) := by decide +kernel
theorem dL_law_638 : decode cL_law 638 = .ok (.ireturn, 1) := by decide +kernel
theorem dL_law_639 : decode cL_law 639 = .ok (.aload_n 1, 1) := by decide +kernel
theorem dL_law_640 : decode cL_law 640 = .ok (.aload_n 0, 1) := by decide +kernel
theorem dL_law_641 : decode cL_law 641 = .ok (.iload_n 3, 1) := by decide +kernel
theorem dL_law_642 : decode cL_law 642 = .ok (.iconst 1, 1) := by decide +kernel
theorem dL_law_643 : decode cL_law 643 = .ok (.iadd, 1) := by decide +kernel
theorem dL_law_644 : decode cL_law 644 = .ok (.iaload, 1) := by decide +kernel
theorem dL_law_645 : decode cL_law 645 = .ok (.aload_n 0, 1) := by decide +kernel
theorem dL_law_646 : decode cL_law 646 = .ok (.iload_n 3, 1) := by decide +kernel
theorem dL_law_647 : decode cL_law 647 = .ok (.iconst 2, 1) := by decide +kernel
theorem dL_law_648 : decode cL_law 648 = .ok (.iadd, 1) := by decide +kernel
theorem dL_law_649 : decode cL_law 649 = .ok (.iaload, 1) := by decide +kernel
theorem dL_law_650 : decode cL_law 650 = .ok (.invokevirtual 96, 3) := by decide +kernel
theorem dL_law_653 : decode cL_law 653 = .ok (.aload_n 2, 1) := by decide +kernel
theorem dL_law_654 : decode cL_law 654 = .ok (.aload_n 0, 1) := by decide +kernel
theorem dL_law_655 : decode cL_law 655 = .ok (.iload_n 3, 1) := by decide +kernel
theorem dL_law_656 : decode cL_law 656 = .ok (.iconst 1, 1) := by decide +kernel
theorem dL_law_657 : decode cL_law 657 = .ok (.iadd, 1) := by decide +kernel
theorem dL_law_658 : decode cL_law 658 = .ok (.iaload, 1) := by decide +kernel
theorem dL_law_659 : decode cL_law 659 = .ok (.aload_n 0, 1) := by decide +kernel
theorem dL_law_660 : decode cL_law 660 = .ok (.iload_n 3, 1) := by decide +kernel
theorem dL_law_661 : decode cL_law 661 = .ok (.iconst 2, 1) := by decide +kernel
theorem dL_law_662 : decode cL_law 662 = .ok (.iadd, 1) := by decide +kernel
theorem dL_law_663 : decode cL_law 663 = .ok (.iaload, 1) := by decide +kernel
theorem dL_law_664 : decode cL_law 664 = .ok (.invokevirtual 99, 3) := by decide +kernel
theorem dL_law_667 : decode cL_law 667 = .ok (.if_icmp .eq 18, 3) := by decide +kernel
theorem dL_law_670 : decode cL_law 670 = .ok (.iconst 0, 1) := by decide +kernel
theorem dL_law_671 : decode cL_law 671 = .ok (.ireturn, 1) := by decide +kernel
theorem dL_law_672 : decode cL_law 672 = .ok (.aload_n 1, 1) := by decide +kernel
theorem dL_law_673 : decode cL_law 673 = .ok (.invokevirtual 100, 3) := by decide +kernel
theorem dL_law_676 : decode cL_law 676 = .ok (.aload_n 2, 1) := by decide +kernel
theorem dL_law_677 : decode cL_law 677 = .ok (.invokevirtual 103, 3) := by decide +kernel
theorem dL_law_680 : decode cL_law 680 = .ok (.if_icmp .eq 5, 3) := by decide +kernel
theorem dL_law_683 : decode cL_law 683 = .ok (.iconst 0, 1) := by decide +kernel
theorem dL_law_684 : decode cL_law 684 = .ok (.ireturn, 1) := by decide +kernel
theorem dL_law_685 : decode cL_law 685 = .ok (.iinc 3 5, 3) := by decide +kernel
theorem dL_law_688 : decode cL_law 688 = .ok (.goto (-670), 3) := by decide +kernel
theorem dL_law_691 : decode cL_law 691 = .ok (.iconst 1, 1) := by decide +kernel
theorem dL_law_692 : decode cL_law 692 = .ok (.ireturn, 1) := by decide +kernel
abbrev vwCl : List vw_C := [(RX0, TX0, 4), (RX1, TX1, 3), (RX2, TX2, 1), (RX3, TX3, 8), (RX4, TX4, 6), (RX5, TX5, 18)]
end
section
/-! RULES: contracts of one shape (the answer and the new cells are what a pure function says), calls with cutting and joining, the entry and the end of a method -/
/-- the one private field of a nest mate that is read: Disk's words, in Memory -/
def nx_ok (U : State) : Prop := va_Nw (.fieldLinkNest RX2 15 "JournaledTables$Disk" "words" "[I" "JournaledTables") U
theorem nx_same {u U : State} (h : u.vm = U.vm) (n : nx_ok u) : nx_ok U := va_Nw.same rfl h n
theorem nx_warm {s U : State} (hW : s.WarmedH U.vm) (n : nx_ok s) : nx_ok U := va_Nw.warmF hW n
/-- the array classes -/
abbrev tyz (cI cZ cS : ClassId) : List (ClassId × FieldType) := [(cI, .int), (cZ, .boolean), (cS, .object "JournaledTables$Scan")]
section MKP
variable {D : va_G} {cl : List vw_C} {tys : List (ClassId × FieldType)}
/-- a method's world at its start -/
def mk_Pre (D : va_G) (cl : List vw_C) (tys : List (ClassId × FieldType)) (w0 : va_W) (sz : Nat) : State → Prop := fun U => U.heap.size = sz ∧ va_P D cl w0 U.heap ∧ va_K D cl tys U ∧ va_D (fun _ => True) w0 ∧ nx_ok U
def mk_B {S : Type} (D : va_G) (cl : List vw_C) (tys : List (ClassId × FieldType)) (A : Nat → Prop) (w : S → va_W) : S → State → Prop := fun u t => va_P D cl (w u) t.heap ∧ va_K D cl tys t ∧ va_D A (w u)
theorem mk_blind {av : List Value} {w0 : va_W} {sz : Nat} : FrameBlind (va_Pc av (mk_Pre D cl tys w0 sz)) := fun a U g mk q => by
  obtain ⟨q0, q1, qP, qK, qD, qN⟩ := q
  exact ⟨q0, q1, qP, va_K.moved (u := U) (U := U.calling g mk a) (Vm.Alike.refl U.vm) qK, qD, nx_same (u := U) (U := U.calling g mk a) rfl qN⟩
/-- the ends: an int and a new state; a new state; an int alone; a reference that may be null -/
def mk_QI {S : Type} (D : va_G) (cl : List vw_C) (tys : List (ClassId × FieldType)) (A : Nat → Prop) (w1 : S → va_W) (R : Int32 × S) : Array Value → State → Outcome → State → Prop := va_Qi (fun r u => r = R.1 ∧ u = R.2) (mk_B D cl tys A w1) A
def mk_QV {S : Type} (D : va_G) (cl : List vw_C) (tys : List (ClassId × FieldType)) (A : Nat → Prop) (w1 : S → va_W) (R : S) : Array Value → State → Outcome → State → Prop := va_Qv (fun u => u = R) (mk_B D cl tys A w1) A
def mk_QR (D : va_G) (cl : List vw_C) (tys : List (ClassId × FieldType)) (A : Nat → Prop) (w0 : va_W) (R : Int32) : Array Value → State → Outcome → State → Prop := va_Qi (fun r (_ : Unit) => r = R) (mk_B D cl tys A (fun _ => w0)) A
def mk_QQ (D : va_G) (cl : List vw_C) (tys : List (ClassId × FieldType)) (A : Nat → Prop) (w0 : va_W) (R : Option Nat) : Array Value → State → Outcome → State → Prop := va_Qq (fun r (_ : Unit) => r = R) (mk_B D cl tys A (fun _ => w0)) A
/-- the contracts -/
def CtI (l : Launch) (y : MethodName) (ws : List Cond) (rm : Room) (D : va_G) (cl : List vw_C) (tys : List (ClassId × FieldType)) (av : List Value) (w0 : va_W) {S : Type} (w1 : S → va_W) (f : Option (Int32 × S)) : Prop :=
  ∀ R, f = some R → ∀ sz : Nat, Met l y ws rm (va_Pc av (mk_Pre D cl tys w0 sz)) (mk_QI D cl tys (va_A w0 sz) w1 R) 0 0 (va_A w0 sz)
def CtV (l : Launch) (y : MethodName) (ws : List Cond) (rm : Room) (D : va_G) (cl : List vw_C) (tys : List (ClassId × FieldType)) (av : List Value) (w0 : va_W) {S : Type} (w1 : S → va_W) (f : Option S) : Prop :=
  ∀ R, f = some R → ∀ sz : Nat, Met l y ws rm (va_Pc av (mk_Pre D cl tys w0 sz)) (mk_QV D cl tys (va_A w0 sz) w1 R) 0 0 (va_A w0 sz)
def CtR (l : Launch) (y : MethodName) (ws : List Cond) (rm : Room) (D : va_G) (cl : List vw_C) (tys : List (ClassId × FieldType)) (av : List Value) (w0 : va_W) (f : Option Int32) : Prop :=
  ∀ R, f = some R → ∀ sz : Nat, Met l y ws rm (va_Pc av (mk_Pre D cl tys w0 sz)) (mk_QR D cl tys (va_A w0 sz) w0 R) 0 0 (va_A w0 sz)
def CtQ (l : Launch) (y : MethodName) (ws : List Cond) (rm : Room) (D : va_G) (cl : List vw_C) (tys : List (ClassId × FieldType)) (av : List Value) (w0 : va_W) (f : Option (Option Nat)) : Prop :=
  ∀ R, f = some R → ∀ sz : Nat, Met l y ws rm (va_Pc av (mk_Pre D cl tys w0 sz)) (mk_QQ D cl tys (va_A w0 sz) w0 R) 0 0 (va_A w0 sz)
theorem mk_pick {w w0 : va_W} {H : Heap} (hP : va_P D cl w H) (is : List Nat) (hC : is.map (fun i => w[i]?) = w0.map some) : va_P D cl w0 H := fun k q hk => by
  obtain ⟨i, -, hi⟩ := va_in_of is hC hk
  exact hP i q hi
end MKP
/-- what a method's body knows at its entry -/
def mk_En (p : Program) (s : State) (m : MethodId) (meth : Method) (c : Code) (cc : ByteArray) (nL : Nat) (ret : Option FieldType) (args : Array Value) (Ts : List Cond) (own : String) : Prop :=
  (p.tables.exec = Jvm.exec ∧ c.code = cc ∧ c.maxLocals = nL ∧ s.vm.findClass own = some m.cls ∧ ∀ w ∈ Ts, w.before args s = true) ∧ meth.sig.returnType = ret ∧ meth.locks = false ∧ nx_ok s
section MKE
variable {l : Launch} {y : MethodName} {ws ws' : List Cond} {rm : Room} {D : va_G} {cl : List vw_C} {tys : List (ClassId × FieldType)} {av : List Value} {w0 : va_W} {cc : ByteArray} {nL : Nat} {ret : Option FieldType}
/-- the entry, whatever the end -/
theorem mk_enter {Qc : (Nat → Prop) → Array Value → State → Outcome → State → Prop} (hy : plainName y.cls = true) (hw : ws = Cond.code y cc nL ret :: ws') (hn : (lg_sl av).length ≤ nL)
    (body : ∀ (p : Program) (e : Env) (s : State) (m : MethodId) (below : List Frame) (meth : Method) (c : Code) (A : Nat → Prop), mk_En p s m meth c cc nL ret av.toArray ws y.cls → (∀ q : Nat, s.heap.size ≤ q → A q) → va_K D cl tys s → ∀ (H : Heap) (locs : List Loc) (ls : Array Slot), va_P D cl w0 H → va_D A w0 → va_S A s.heap H locs → lv_has ls nL (lv_args 0 av) → W p l e rm s m av.toArray below meth c H locs 0 0 (MQ below (Qc A) av.toArray s 0 0 A) (F0 m 0 ls [])) :
    ∀ sz : Nat, Met l y ws rm (va_Pc av (mk_Pre D cl tys w0 sz)) (Qc (va_A w0 sz)) 0 0 (va_A w0 sz) := by
  intro sz
  refine Met.ofW (cc := cc) (maxL := nL) (ret := ret) hy hw ?_
  intro p e s m args below meth c s₁ B hml hv
  obtain ⟨rfl, hsz, hP, hK, hD0, hN⟩ := hv
  subst hsz
  have hl := lv_entry av (n := nL) hn
  rw [lg_entry_eq]
  exact body p e s m below meth c (va_A w0 s.heap.size) ⟨⟨B.exec, B.bytes, hml, findClass_of_methodNamed B.named, atoms_spec (ws := ws) B.pre⟩, B.returns, B.notSynchronized, hN⟩ (fun q h => Or.inr h) hK s.heap [] _ hP (hD0.self (sz := s.heap.size)) va_S.rf hl
end MKE
section MKC
variable {p : Program} {l : Launch} {e : Env} {R : Room} {s : State} {m : MethodId} {args : Array Value} {below : List Frame} {meth : Method} {c : Code} {H : Heap} {locs : List Loc} {cells slots : Nat} {Q : State → Prop}
variable {D : va_G} {cl : List vw_C} {tys : List (ClassId × FieldType)} {cc : ByteArray} {nL pc : Nat} {ls : Array Slot} {ret : Option FieldType} {Ts : List Cond} {own : String} {A A0 : Nat → Prop} {H0 : Heap}
/-- ends -/
theorem mk_iret {S : Type} {w1 : S → va_W} {r : Int32} {u : S} (E : mk_En p s m meth c cc nL (some .int) args Ts own) (hK : va_K D cl tys s) (hP : va_P D cl (w1 u) H) (hD : va_D A (w1 u)) (hS : va_S A s.heap H locs) (hdg : decode cc pc = .ok (.ireturn, 1)) : W p l e R s m args below meth c H locs 0 0 (MQ below (mk_QI D cl tys A w1 (r, u)) args s 0 0 A) (F0 m pc ls [.int r]) := by
  have hlocks : meth.locks = false := E.2.2.1
  exact W.iret E.1.1 E.1.2.1 E.2.1 (fun t ht hW => ⟨⟨r, u, rfl, ⟨rfl, rfl⟩, by rw [ht]; exact hP, va_K.moved hW.alike hK, hD⟩, hS.F ht⟩) hS.2.2 hdg hlocks
theorem mk_zret {S : Type} {w1 : S → va_W} {r : Int32} {u : S} (E : mk_En p s m meth c cc nL (some .boolean) args Ts own) (hr : r &&& 1 = r) (hK : va_K D cl tys s) (hP : va_P D cl (w1 u) H) (hD : va_D A (w1 u)) (hS : va_S A s.heap H locs) (hdg : decode cc pc = .ok (.ireturn, 1)) : W p l e R s m args below meth c H locs 0 0 (MQ below (mk_QI D cl tys A w1 (r, u)) args s 0 0 A) (F0 m pc ls [.int r]) := by
  have hlocks : meth.locks = false := E.2.2.1
  exact W.zret E.1.1 E.1.2.1 E.2.1 (by show Value.int (r &&& 1) = _; rw [hr]) (fun t ht hW => ⟨⟨r, u, rfl, ⟨rfl, rfl⟩, by rw [ht]; exact hP, va_K.moved hW.alike hK, hD⟩, hS.F ht⟩) hS.2.2 hdg hlocks
theorem mk_vret {S : Type} {w1 : S → va_W} {u : S} (E : mk_En p s m meth c cc nL none args Ts own) (hK : va_K D cl tys s) (hP : va_P D cl (w1 u) H) (hD : va_D A (w1 u)) (hS : va_S A s.heap H locs) (hdg : decode cc pc = .ok (.return_, 1)) : W p l e R s m args below meth c H locs 0 0 (MQ below (mk_QV D cl tys A w1 u) args s 0 0 A) (F0 m pc ls []) := by
  have hlocks : meth.locks = false := E.2.2.1
  exact W.vret E.1.1 E.1.2.1 E.2.1 (fun t ht hW => ⟨⟨u, rfl, rfl, by rw [ht]; exact hP, va_K.moved hW.alike hK, hD⟩, hS.F ht⟩) hS.2.2 hdg hlocks
theorem mk_iretR {w0 : va_W} {r : Int32} (E : mk_En p s m meth c cc nL (some .int) args Ts own) (hK : va_K D cl tys s) (hP : va_P D cl w0 H) (hD : va_D A w0) (hS : va_S A s.heap H locs) (hdg : decode cc pc = .ok (.ireturn, 1)) : W p l e R s m args below meth c H locs 0 0 (MQ below (mk_QR D cl tys A w0 r) args s 0 0 A) (F0 m pc ls [.int r]) := by
  have hlocks : meth.locks = false := E.2.2.1
  exact W.iret E.1.1 E.1.2.1 E.2.1 (fun t ht hW => ⟨⟨r, (), rfl, rfl, by rw [ht]; exact hP, va_K.moved hW.alike hK, hD⟩, hS.F ht⟩) hS.2.2 hdg hlocks
theorem mk_zretR {w0 : va_W} {r : Int32} (E : mk_En p s m meth c cc nL (some .boolean) args Ts own) (hr : r &&& 1 = r) (hK : va_K D cl tys s) (hP : va_P D cl w0 H) (hD : va_D A w0) (hS : va_S A s.heap H locs) (hdg : decode cc pc = .ok (.ireturn, 1)) : W p l e R s m args below meth c H locs 0 0 (MQ below (mk_QR D cl tys A w0 r) args s 0 0 A) (F0 m pc ls [.int r]) := by
  have hlocks : meth.locks = false := E.2.2.1
  exact W.zret E.1.1 E.1.2.1 E.2.1 (by show Value.int (r &&& 1) = _; rw [hr]) (fun t ht hW => ⟨⟨r, (), rfl, rfl, by rw [ht]; exact hP, va_K.moved hW.alike hK, hD⟩, hS.F ht⟩) hS.2.2 hdg hlocks
theorem mk_aretQ {w0 : va_W} {r : Option Nat} {C : String} (E : mk_En p s m meth c cc nL (some (.object C)) args Ts own) (hK : va_K D cl tys s) (hP : va_P D cl w0 H) (hD : va_D A w0) (hS : va_S A s.heap H locs) (hdg : decode cc pc = .ok (.areturn, 1)) : W p l e R s m args below meth c H locs 0 0 (MQ below (mk_QQ D cl tys A w0 r) args s 0 0 A) (F0 m pc ls [va_rf r]) := by
  have hlocks : meth.locks = false := E.2.2.1
  exact W.aret E.1.1 E.1.2.1 E.2.1 (Or.inl ⟨C, rfl⟩) (va_rf_or r) (fun t ht hW => ⟨⟨r, (), rfl, rfl, by rw [ht]; exact hP, va_K.moved hW.alike hK, hD⟩, hS.F ht⟩) hS.2.2 hdg hlocks
/-- a callee's start, out of the caller's world -/
theorem mk_preV {C : String} {b : Nat} {As : List Value} {w0 : va_W} {ci q0 : Nat} {r : vw_C} {fs : List Value} (hN : nx_ok s) (hK : va_K D cl tys s) (hP : va_P D cl w0 H) (hD : va_D A w0) (hc : cl[ci]? = some r) (hC : r.1 = C) (he : w0[q0]? = some (b, .inr (ci, fs))) : PreV s H C b (va_Pc (.ref b :: As) (mk_Pre D cl tys w0 H.size)) As := by
  subst hC
  exact ⟨mk_blind, va_recv hK hP hc he, fun U hU hW => ⟨rfl, by rw [hU], by rw [hU]; exact hP, va_K.moved hW.alike hK, hD.weaken (fun _ _ _ _ => trivial), nx_warm hW hN⟩⟩
theorem mk_preS {As : List Value} {w0 : va_W} (hN : nx_ok s) (hK : va_K D cl tys s) (hP : va_P D cl w0 H) (hD : va_D A w0) : PreS s H (va_Pc As (mk_Pre D cl tys w0 H.size)) As :=
  ⟨mk_blind, fun U hU hW => ⟨rfl, by rw [hU], by rw [hU]; exact hP, va_K.moved hW.alike hK, hD.weaken (fun _ _ _ _ => trivial), nx_warm hW hN⟩⟩
variable {rest st0 : List Value} {a : Array Value} {w w0 wr w2 : va_W} {free : Addr → Prop}
/-- behind a call: an int and a new state -/
theorem mk_contI {S : Type} {w1 : S → va_W} {Rv : Int32 × S} (hP : va_P D cl w H) (hD : va_D A0 w) (hS : va_S A0 H0 H locs) (hA : ∀ q, H0.size ≤ q → A0 q) (isC isR : List Nat) (hC : isC.map (fun i => w[i]?) = w0.map some) (hR : isR.map (fun i => w[i]?) = wr.map some) (hn2 : va_nd isR = true) (hdis : ∀ i ∈ isR, i ∉ isC)
    (is2 : List Nat) (h2 : is2.map (fun i => (wr ++ w1 Rv.2)[i]?) = w2.map some) (hn3 : va_nd is2 = true)
    (hr : va_Run p l e R s m args below meth c H locs cells slots 0 0 (F0 m pc ls st0) rest (mk_QI D cl tys (va_A w0 H.size) w1 Rv a) (va_A w0 H.size))
    (kk : ∀ (H1 : Heap) (locs1 : List Loc), va_P D cl w2 H1 → va_D A0 w2 → va_S A0 H0 H1 locs1 → W p l e R s m args below meth c H1 locs1 cells slots Q (F0 m (pc + 3) ls (.int Rv.1 :: rest))) : W p l e R s m args below meth c H locs cells slots Q (F0 m pc ls st0) := by
  have hFc := va_free hD hS hA isC hC
  refine va_calli hr hS (fun q _ h => hFc q h) hFc (fun r u t H1 locs1 ht hvm hw hB hz1 hk1 hS1 => ?_)
  obtain ⟨rfl, rfl⟩ := hw
  obtain ⟨hP1, hK1, hD1⟩ := hB
  rw [ht] at hP1
  obtain ⟨hP', hD'⟩ := va_join hP hD isC isR hC hR hn2 hdis hk1 hFc hP1 hD1
  exact kk H1 locs1 (mk_pick hP' is2 h2) (hD'.sub is2 hn3 h2) hS1
theorem mk_contV {S : Type} {w1 : S → va_W} {Rv : S} (hP : va_P D cl w H) (hD : va_D A0 w) (hS : va_S A0 H0 H locs) (hA : ∀ q, H0.size ≤ q → A0 q) (isC isR : List Nat) (hC : isC.map (fun i => w[i]?) = w0.map some) (hR : isR.map (fun i => w[i]?) = wr.map some) (hn2 : va_nd isR = true) (hdis : ∀ i ∈ isR, i ∉ isC)
    (is2 : List Nat) (h2 : is2.map (fun i => (wr ++ w1 Rv)[i]?) = w2.map some) (hn3 : va_nd is2 = true)
    (hr : va_Run p l e R s m args below meth c H locs cells slots 0 0 (F0 m pc ls st0) rest (mk_QV D cl tys (va_A w0 H.size) w1 Rv a) (va_A w0 H.size))
    (kk : ∀ (H1 : Heap) (locs1 : List Loc), va_P D cl w2 H1 → va_D A0 w2 → va_S A0 H0 H1 locs1 → W p l e R s m args below meth c H1 locs1 cells slots Q (F0 m (pc + 3) ls rest)) : W p l e R s m args below meth c H locs cells slots Q (F0 m pc ls st0) := by
  have hFc := va_free hD hS hA isC hC
  refine va_callv hr hS (fun q _ h => hFc q h) hFc (fun u t H1 locs1 ht hvm hw hB hz1 hk1 hS1 => ?_)
  subst hw
  obtain ⟨hP1, hK1, hD1⟩ := hB
  rw [ht] at hP1
  obtain ⟨hP', hD'⟩ := va_join hP hD isC isR hC hR hn2 hdis hk1 hFc hP1 hD1
  exact kk H1 locs1 (mk_pick hP' is2 h2) (hD'.sub is2 hn3 h2) hS1
/-- a call that only reads: the caller's world is as it was -/
theorem mk_contR {Rv : Int32} (hP : va_P D cl w H) (hD : va_D A0 w) (hS : va_S A0 H0 H locs) (hA : ∀ q, H0.size ≤ q → A0 q) (isC isR : List Nat) (hC : isC.map (fun i => w[i]?) = w0.map some) (hR : isR.map (fun i => w[i]?) = wr.map some) (hn2 : va_nd isR = true) (hdis : ∀ i ∈ isR, i ∉ isC)
    (is2 : List Nat) (h2 : is2.map (fun i => (wr ++ w0)[i]?) = w.map some) (hn3 : va_nd is2 = true)
    (hr : va_Run p l e R s m args below meth c H locs cells slots 0 0 (F0 m pc ls st0) rest (mk_QR D cl tys (va_A w0 H.size) w0 Rv a) (va_A w0 H.size))
    (kk : ∀ (H1 : Heap) (locs1 : List Loc), va_P D cl w H1 → va_D A0 w → va_S A0 H0 H1 locs1 → W p l e R s m args below meth c H1 locs1 cells slots Q (F0 m (pc + 3) ls (.int Rv :: rest))) : W p l e R s m args below meth c H locs cells slots Q (F0 m pc ls st0) := by
  have hFc := va_free hD hS hA isC hC
  refine va_calli hr hS (fun q _ h => hFc q h) hFc (fun r u t H1 locs1 ht hvm hw hB hz1 hk1 hS1 => ?_)
  subst hw
  obtain ⟨hP1, hK1, hD1⟩ := hB
  rw [ht] at hP1
  obtain ⟨hP', hD'⟩ := va_join hP hD isC isR hC hR hn2 hdis hk1 hFc hP1 hD1
  exact kk H1 locs1 (mk_pick hP' is2 h2) (hD'.sub is2 hn3 h2) hS1
theorem mk_contQ {Rv : Option Nat} (hP : va_P D cl w H) (hD : va_D A0 w) (hS : va_S A0 H0 H locs) (hA : ∀ q, H0.size ≤ q → A0 q) (isC isR : List Nat) (hC : isC.map (fun i => w[i]?) = w0.map some) (hR : isR.map (fun i => w[i]?) = wr.map some) (hn2 : va_nd isR = true) (hdis : ∀ i ∈ isR, i ∉ isC)
    (is2 : List Nat) (h2 : is2.map (fun i => (wr ++ w0)[i]?) = w.map some) (hn3 : va_nd is2 = true)
    (hr : va_Run p l e R s m args below meth c H locs cells slots 0 0 (F0 m pc ls st0) rest (mk_QQ D cl tys (va_A w0 H.size) w0 Rv a) (va_A w0 H.size))
    (kk : ∀ (H1 : Heap) (locs1 : List Loc), va_P D cl w H1 → va_D A0 w → va_S A0 H0 H1 locs1 → W p l e R s m args below meth c H1 locs1 cells slots Q (F0 m (pc + 3) ls (va_rf Rv :: rest))) : W p l e R s m args below meth c H locs cells slots Q (F0 m pc ls st0) := by
  have hFc := va_free hD hS hA isC hC
  refine va_callq hr hS (fun q _ h => hFc q h) hFc (fun r u t H1 locs1 ht hvm hw hB hz1 hk1 hS1 => ?_)
  subst hw
  obtain ⟨hP1, hK1, hD1⟩ := hB
  rw [ht] at hP1
  obtain ⟨hP', hD'⟩ := va_join hP hD isC isR hC hR hn2 hdis hk1 hFc hP1 hD1
  exact kk H1 locs1 (mk_pick hP' is2 h2) (hD'.sub is2 hn3 h2) hS1
end MKC
/-- pure steps -/
theorem kp_if {c : Prop} [Decidable c] {α : Type} {a b x : α} (h : (if c then a else b) = x) : (c → a = x) ∧ (¬ c → b = x) := ⟨fun q => by rw [if_pos q] at h; exact h, fun q => by rw [if_neg q] at h; exact h⟩
theorem kp_in {c : Prop} [Decidable c] {α : Type} {a : Option α} {x : α} (h : (if c then a else none) = some x) : c ∧ a = some x := by
  by_cases q : c
  · rw [if_pos q] at h; exact ⟨q, h⟩
  · rw [if_neg q] at h; cases h
theorem kp_bind {α β : Type} {o : Option α} {f : α → Option β} {x : β} (h : o.bind f = some x) : ∃ a, o = some a ∧ f a = some x := by
  cases o with
  | none => cases h
  | some a => exact ⟨a, rfl, h⟩
/-- an index that is inside -/
def kx_in (i : Int32) (n : Nat) : Bool := !(decide (i < 0) || decide (n ≤ i.toNatClampNeg))
theorem kx_of {i : Int32} {n : Nat} (h : kx_in i n = true) : vp_in i n := by
  unfold kx_in at h
  unfold vp_in
  intro q
  rcases q with q | q
  · simp [q] at h
  · simp [q] at h
theorem kx_to {i : Int32} {n : Nat} (h : vp_in i n) : kx_in i n = true := by
  unfold vp_in at h
  unfold kx_in
  have h1 : ¬ i < 0 := fun q => h (Or.inl q)
  have h2 : ¬ n ≤ i.toNatClampNeg := fun q => h (Or.inr q)
  simp [h1, h2]
theorem kx_nI {k n : Nat} (h : k < n) (hn : n < 2 ^ 31) : kx_in (nI k) n = true := kx_to (vp_in_nI h hn)
/-- a stretch that is inside both arrays -/
def kx_cp (sp dp n : Int32) (n0 n1 : Nat) : Bool := decide (¬ sp < 0) && (decide (¬ dp < 0) && (decide (¬ n < 0) && (decide (sp.toNatClampNeg + n.toNatClampNeg ≤ n0) && decide (dp.toNatClampNeg + n.toNatClampNeg ≤ n1))))
section KCP
variable {sp dp n : Int32} {n0 n1 : Nat}
theorem kx_cpA (h : kx_cp sp dp n n0 n1 = true) : ¬ sp < 0 ∧ ¬ dp < 0 ∧ ¬ n < 0 ∧ sp.toNatClampNeg + n.toNatClampNeg ≤ n0 ∧ dp.toNatClampNeg + n.toNatClampNeg ≤ n1 := by
  simp only [kx_cp, Bool.and_eq_true, decide_eq_true_eq] at h
  exact h
theorem kx_cp1 (h : kx_cp sp dp n n0 n1 = true) : ¬ sp < 0 := (kx_cpA h).1
theorem kx_cp2 (h : kx_cp sp dp n n0 n1 = true) : ¬ dp < 0 := (kx_cpA h).2.1
theorem kx_cp3 (h : kx_cp sp dp n n0 n1 = true) : ¬ n < 0 := (kx_cpA h).2.2.1
theorem kx_cp4 (h : kx_cp sp dp n n0 n1 = true) : sp.toNatClampNeg + n.toNatClampNeg ≤ n0 := (kx_cpA h).2.2.2.1
theorem kx_cp5 (h : kx_cp sp dp n n0 n1 = true) : dp.toNatClampNeg + n.toNatClampNeg ≤ n1 := (kx_cpA h).2.2.2.2
end KCP
/-- a name for a value -/
def kl {α β : Type} (x : α) (f : α → β) : β := f x
theorem kp_kl {α β : Type} {x : α} {f : α → β} {y : β} (h : kl x f = y) (v : α) (hv : v = x) : f v = y := by
  subst hv
  exact h
end

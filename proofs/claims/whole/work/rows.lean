section
-- ===== PART A: goes FIRST, ahead of the names: the tables' words, and 'selects' of the private methods out of them =====
/-- a private method of a class that the tables say can be made, by its rows of tables_1 -/
def lw_okq (q : MethodName × Nat) : Prop := (q.1.cls ≠ "java/lang/invoke/MethodHandle" ∧ q.1.cls ≠ "java/lang/invoke/VarHandle") ∧ Cond.instantiable q.1.cls q.2 ∈ tables_1 ∧ Cond.privateMethod q.1 ∈ tables_1 ∧ Cond.instanceMethod q.1 ∈ tables_1
theorem lw_p0 : lw_okq (⟨"SteppedList", "workerOf", "(I)LSteppedList$Worker;"⟩, 5) := ⟨⟨by decide +kernel, by decide +kernel⟩, List.mem_of_getElem? (i := 14) (by decide +kernel), List.mem_of_getElem? (i := 169) (by decide +kernel), List.mem_of_getElem? (i := 170) (by decide +kernel)⟩
theorem lw_p1 : lw_okq (⟨"java/lang/Throwable", "fillInStackTrace", "(I)Ljava/lang/Throwable;"⟩, 6) := ⟨⟨by decide +kernel, by decide +kernel⟩, List.mem_of_getElem? (i := 213) (by decide +kernel), List.mem_of_getElem? (i := 211) (by decide +kernel), List.mem_of_getElem? (i := 212) (by decide +kernel)⟩
theorem lw_p2 : lw_okq (⟨"SteppedList$Worker", "forget", "()V"⟩, 16) := ⟨⟨by decide +kernel, by decide +kernel⟩, List.mem_of_getElem? (i := 55) (by decide +kernel), List.mem_of_getElem? (i := 276) (by decide +kernel), List.mem_of_getElem? (i := 277) (by decide +kernel)⟩
theorem lw_p3 : lw_okq (⟨"SteppedList", "busyWorkerOf", "(I)LSteppedList$Worker;"⟩, 5) := ⟨⟨by decide +kernel, by decide +kernel⟩, List.mem_of_getElem? (i := 14) (by decide +kernel), List.mem_of_getElem? (i := 287) (by decide +kernel), List.mem_of_getElem? (i := 288) (by decide +kernel)⟩
theorem lw_p4 : lw_okq (⟨"SteppedList", "perform", "(LSteppedList$Worker;)V"⟩, 5) := ⟨⟨by decide +kernel, by decide +kernel⟩, List.mem_of_getElem? (i := 14) (by decide +kernel), List.mem_of_getElem? (i := 292) (by decide +kernel), List.mem_of_getElem? (i := 293) (by decide +kernel)⟩
theorem lw_p5 : lw_okq (⟨"SteppedList", "startWork", "(LSteppedList$Worker;)V"⟩, 5) := ⟨⟨by decide +kernel, by decide +kernel⟩, List.mem_of_getElem? (i := 14) (by decide +kernel), List.mem_of_getElem? (i := 296) (by decide +kernel), List.mem_of_getElem? (i := 297) (by decide +kernel)⟩
theorem lw_p6 : lw_okq (⟨"SteppedList", "goToHead", "(LSteppedList$Worker;)V"⟩, 5) := ⟨⟨by decide +kernel, by decide +kernel⟩, List.mem_of_getElem? (i := 14) (by decide +kernel), List.mem_of_getElem? (i := 300) (by decide +kernel), List.mem_of_getElem? (i := 301) (by decide +kernel)⟩
theorem lw_p7 : lw_okq (⟨"SteppedList", "moveHereTo", "(LSteppedList$Worker;I)V"⟩, 5) := ⟨⟨by decide +kernel, by decide +kernel⟩, List.mem_of_getElem? (i := 14) (by decide +kernel), List.mem_of_getElem? (i := 304) (by decide +kernel), List.mem_of_getElem? (i := 305) (by decide +kernel)⟩
theorem lw_p8 : lw_okq (⟨"SteppedList", "nameHere", "(LSteppedList$Worker;)V"⟩, 5) := ⟨⟨by decide +kernel, by decide +kernel⟩, List.mem_of_getElem? (i := 14) (by decide +kernel), List.mem_of_getElem? (i := 308) (by decide +kernel), List.mem_of_getElem? (i := 309) (by decide +kernel)⟩
theorem lw_p9 : lw_okq (⟨"SteppedList", "checkBack", "(LSteppedList$Worker;)V"⟩, 5) := ⟨⟨by decide +kernel, by decide +kernel⟩, List.mem_of_getElem? (i := 14) (by decide +kernel), List.mem_of_getElem? (i := 312) (by decide +kernel), List.mem_of_getElem? (i := 313) (by decide +kernel)⟩
theorem lw_p10 : lw_okq (⟨"SteppedList", "lookAtBack", "(LSteppedList$Worker;)V"⟩, 5) := ⟨⟨by decide +kernel, by decide +kernel⟩, List.mem_of_getElem? (i := 14) (by decide +kernel), List.mem_of_getElem? (i := 316) (by decide +kernel), List.mem_of_getElem? (i := 317) (by decide +kernel)⟩
theorem lw_p11 : lw_okq (⟨"SteppedList", "countFault", "(LSteppedList$Block;I)V"⟩, 5) := ⟨⟨by decide +kernel, by decide +kernel⟩, List.mem_of_getElem? (i := 14) (by decide +kernel), List.mem_of_getElem? (i := 320) (by decide +kernel), List.mem_of_getElem? (i := 321) (by decide +kernel)⟩
theorem lw_p12 : lw_okq (⟨"SteppedList$Block", "leadsTo", "(I)Z"⟩, 6) := ⟨⟨by decide +kernel, by decide +kernel⟩, List.mem_of_getElem? (i := 23) (by decide +kernel), List.mem_of_getElem? (i := 324) (by decide +kernel), List.mem_of_getElem? (i := 325) (by decide +kernel)⟩
theorem lw_p13 : lw_okq (⟨"SteppedList", "readHere", "(LSteppedList$Worker;)V"⟩, 5) := ⟨⟨by decide +kernel, by decide +kernel⟩, List.mem_of_getElem? (i := 14) (by decide +kernel), List.mem_of_getElem? (i := 328) (by decide +kernel), List.mem_of_getElem? (i := 329) (by decide +kernel)⟩
theorem lw_p14 : lw_okq (⟨"SteppedList", "lookAtHere", "(LSteppedList$Worker;)V"⟩, 5) := ⟨⟨by decide +kernel, by decide +kernel⟩, List.mem_of_getElem? (i := 14) (by decide +kernel), List.mem_of_getElem? (i := 332) (by decide +kernel), List.mem_of_getElem? (i := 333) (by decide +kernel)⟩
theorem lw_p15 : lw_okq (⟨"SteppedList", "cutHere", "(LSteppedList$Worker;)V"⟩, 5) := ⟨⟨by decide +kernel, by decide +kernel⟩, List.mem_of_getElem? (i := 14) (by decide +kernel), List.mem_of_getElem? (i := 336) (by decide +kernel), List.mem_of_getElem? (i := 337) (by decide +kernel)⟩
def lw_privs_1 : List (MethodName × Nat) := [(⟨"SteppedList", "workerOf", "(I)LSteppedList$Worker;"⟩, 5), (⟨"java/lang/Throwable", "fillInStackTrace", "(I)Ljava/lang/Throwable;"⟩, 6), (⟨"SteppedList$Worker", "forget", "()V"⟩, 16), (⟨"SteppedList", "busyWorkerOf", "(I)LSteppedList$Worker;"⟩, 5), (⟨"SteppedList", "perform", "(LSteppedList$Worker;)V"⟩, 5), (⟨"SteppedList", "startWork", "(LSteppedList$Worker;)V"⟩, 5), (⟨"SteppedList", "goToHead", "(LSteppedList$Worker;)V"⟩, 5), (⟨"SteppedList", "moveHereTo", "(LSteppedList$Worker;I)V"⟩, 5), (⟨"SteppedList", "nameHere", "(LSteppedList$Worker;)V"⟩, 5), (⟨"SteppedList", "checkBack", "(LSteppedList$Worker;)V"⟩, 5), (⟨"SteppedList", "lookAtBack", "(LSteppedList$Worker;)V"⟩, 5), (⟨"SteppedList", "countFault", "(LSteppedList$Block;I)V"⟩, 5), (⟨"SteppedList$Block", "leadsTo", "(I)Z"⟩, 6), (⟨"SteppedList", "readHere", "(LSteppedList$Worker;)V"⟩, 5), (⟨"SteppedList", "lookAtHere", "(LSteppedList$Worker;)V"⟩, 5), (⟨"SteppedList", "cutHere", "(LSteppedList$Worker;)V"⟩, 5)]
theorem lw_r1 : ∀ q ∈ lw_privs_1, lw_okq q := List.forall_mem_cons.mpr ⟨lw_p0, List.forall_mem_cons.mpr ⟨lw_p1, List.forall_mem_cons.mpr ⟨lw_p2, List.forall_mem_cons.mpr ⟨lw_p3, List.forall_mem_cons.mpr ⟨lw_p4, List.forall_mem_cons.mpr ⟨lw_p5, List.forall_mem_cons.mpr ⟨lw_p6, List.forall_mem_cons.mpr ⟨lw_p7, List.forall_mem_cons.mpr ⟨lw_p8, List.forall_mem_cons.mpr ⟨lw_p9, List.forall_mem_cons.mpr ⟨lw_p10, List.forall_mem_cons.mpr ⟨lw_p11, List.forall_mem_cons.mpr ⟨lw_p12, List.forall_mem_cons.mpr ⟨lw_p13, List.forall_mem_cons.mpr ⟨lw_p14, List.forall_mem_cons.mpr ⟨lw_p15, fun _ h => absurd h List.not_mem_nil⟩⟩⟩⟩⟩⟩⟩⟩⟩⟩⟩⟩⟩⟩⟩⟩
theorem lw_p16 : lw_okq (⟨"SteppedList", "takeOutHere", "(LSteppedList$Worker;)Z"⟩, 5) := ⟨⟨by decide +kernel, by decide +kernel⟩, List.mem_of_getElem? (i := 14) (by decide +kernel), List.mem_of_getElem? (i := 340) (by decide +kernel), List.mem_of_getElem? (i := 341) (by decide +kernel)⟩
theorem lw_p17 : lw_okq (⟨"SteppedList$Block", "lead", "(I)V"⟩, 6) := ⟨⟨by decide +kernel, by decide +kernel⟩, List.mem_of_getElem? (i := 23) (by decide +kernel), List.mem_of_getElem? (i := 344) (by decide +kernel), List.mem_of_getElem? (i := 345) (by decide +kernel)⟩
theorem lw_p18 : lw_okq (⟨"SteppedList", "retireHere", "(LSteppedList$Worker;)V"⟩, 5) := ⟨⟨by decide +kernel, by decide +kernel⟩, List.mem_of_getElem? (i := 14) (by decide +kernel), List.mem_of_getElem? (i := 348) (by decide +kernel), List.mem_of_getElem? (i := 349) (by decide +kernel)⟩
theorem lw_p19 : lw_okq (⟨"SteppedList$Block", "setFree", "()V"⟩, 6) := ⟨⟨by decide +kernel, by decide +kernel⟩, List.mem_of_getElem? (i := 23) (by decide +kernel), List.mem_of_getElem? (i := 352) (by decide +kernel), List.mem_of_getElem? (i := 353) (by decide +kernel)⟩
theorem lw_p20 : lw_okq (⟨"SteppedList$Block", "retireWith", "(I)V"⟩, 6) := ⟨⟨by decide +kernel, by decide +kernel⟩, List.mem_of_getElem? (i := 23) (by decide +kernel), List.mem_of_getElem? (i := 356) (by decide +kernel), List.mem_of_getElem? (i := 357) (by decide +kernel)⟩
theorem lw_p21 : lw_okq (⟨"SteppedList", "countRetiredBy", "(LSteppedList$Worker;)I"⟩, 5) := ⟨⟨by decide +kernel, by decide +kernel⟩, List.mem_of_getElem? (i := 14) (by decide +kernel), List.mem_of_getElem? (i := 360) (by decide +kernel), List.mem_of_getElem? (i := 361) (by decide +kernel)⟩
theorem lw_p22 : lw_okq (⟨"SteppedList", "isRetiredBy", "(LSteppedList$Worker;I)Z"⟩, 5) := ⟨⟨by decide +kernel, by decide +kernel⟩, List.mem_of_getElem? (i := 14) (by decide +kernel), List.mem_of_getElem? (i := 364) (by decide +kernel), List.mem_of_getElem? (i := 365) (by decide +kernel)⟩
theorem lw_p23 : lw_okq (⟨"SteppedList", "freeUnnamed", "(LSteppedList$Worker;)I"⟩, 5) := ⟨⟨by decide +kernel, by decide +kernel⟩, List.mem_of_getElem? (i := 14) (by decide +kernel), List.mem_of_getElem? (i := 368) (by decide +kernel), List.mem_of_getElem? (i := 369) (by decide +kernel)⟩
theorem lw_p24 : lw_okq (⟨"SteppedList", "isNamed", "(I)Z"⟩, 5) := ⟨⟨by decide +kernel, by decide +kernel⟩, List.mem_of_getElem? (i := 14) (by decide +kernel), List.mem_of_getElem? (i := 372) (by decide +kernel), List.mem_of_getElem? (i := 373) (by decide +kernel)⟩
theorem lw_p25 : lw_okq (⟨"SteppedList", "doOperation", "(LSteppedList$Worker;)V"⟩, 5) := ⟨⟨by decide +kernel, by decide +kernel⟩, List.mem_of_getElem? (i := 14) (by decide +kernel), List.mem_of_getElem? (i := 376) (by decide +kernel), List.mem_of_getElem? (i := 377) (by decide +kernel)⟩
theorem lw_p26 : lw_okq (⟨"SteppedList", "prepareInsert", "(LSteppedList$Worker;)V"⟩, 5) := ⟨⟨by decide +kernel, by decide +kernel⟩, List.mem_of_getElem? (i := 14) (by decide +kernel), List.mem_of_getElem? (i := 380) (by decide +kernel), List.mem_of_getElem? (i := 381) (by decide +kernel)⟩
theorem lw_p27 : lw_okq (⟨"SteppedList", "giveNewBlockBack", "(LSteppedList$Worker;)V"⟩, 5) := ⟨⟨by decide +kernel, by decide +kernel⟩, List.mem_of_getElem? (i := 14) (by decide +kernel), List.mem_of_getElem? (i := 384) (by decide +kernel), List.mem_of_getElem? (i := 385) (by decide +kernel)⟩
theorem lw_p28 : lw_okq (⟨"SteppedList", "conclude", "(LSteppedList$Worker;I)V"⟩, 5) := ⟨⟨by decide +kernel, by decide +kernel⟩, List.mem_of_getElem? (i := 14) (by decide +kernel), List.mem_of_getElem? (i := 388) (by decide +kernel), List.mem_of_getElem? (i := 389) (by decide +kernel)⟩
theorem lw_p29 : lw_okq (⟨"SteppedList", "takeFreeBlock", "()I"⟩, 5) := ⟨⟨by decide +kernel, by decide +kernel⟩, List.mem_of_getElem? (i := 14) (by decide +kernel), List.mem_of_getElem? (i := 392) (by decide +kernel), List.mem_of_getElem? (i := 393) (by decide +kernel)⟩
theorem lw_p30 : lw_okq (⟨"SteppedList", "markForRemoval", "(LSteppedList$Worker;)V"⟩, 5) := ⟨⟨by decide +kernel, by decide +kernel⟩, List.mem_of_getElem? (i := 14) (by decide +kernel), List.mem_of_getElem? (i := 396) (by decide +kernel), List.mem_of_getElem? (i := 397) (by decide +kernel)⟩
theorem lw_p31 : lw_okq (⟨"SteppedList", "hangNewBlock", "(LSteppedList$Worker;)V"⟩, 5) := ⟨⟨by decide +kernel, by decide +kernel⟩, List.mem_of_getElem? (i := 14) (by decide +kernel), List.mem_of_getElem? (i := 400) (by decide +kernel), List.mem_of_getElem? (i := 401) (by decide +kernel)⟩
def lw_privs_2 : List (MethodName × Nat) := [(⟨"SteppedList", "takeOutHere", "(LSteppedList$Worker;)Z"⟩, 5), (⟨"SteppedList$Block", "lead", "(I)V"⟩, 6), (⟨"SteppedList", "retireHere", "(LSteppedList$Worker;)V"⟩, 5), (⟨"SteppedList$Block", "setFree", "()V"⟩, 6), (⟨"SteppedList$Block", "retireWith", "(I)V"⟩, 6), (⟨"SteppedList", "countRetiredBy", "(LSteppedList$Worker;)I"⟩, 5), (⟨"SteppedList", "isRetiredBy", "(LSteppedList$Worker;I)Z"⟩, 5), (⟨"SteppedList", "freeUnnamed", "(LSteppedList$Worker;)I"⟩, 5), (⟨"SteppedList", "isNamed", "(I)Z"⟩, 5), (⟨"SteppedList", "doOperation", "(LSteppedList$Worker;)V"⟩, 5), (⟨"SteppedList", "prepareInsert", "(LSteppedList$Worker;)V"⟩, 5), (⟨"SteppedList", "giveNewBlockBack", "(LSteppedList$Worker;)V"⟩, 5), (⟨"SteppedList", "conclude", "(LSteppedList$Worker;I)V"⟩, 5), (⟨"SteppedList", "takeFreeBlock", "()I"⟩, 5), (⟨"SteppedList", "markForRemoval", "(LSteppedList$Worker;)V"⟩, 5), (⟨"SteppedList", "hangNewBlock", "(LSteppedList$Worker;)V"⟩, 5)]
theorem lw_r2 : ∀ q ∈ lw_privs_2, lw_okq q := List.forall_mem_cons.mpr ⟨lw_p16, List.forall_mem_cons.mpr ⟨lw_p17, List.forall_mem_cons.mpr ⟨lw_p18, List.forall_mem_cons.mpr ⟨lw_p19, List.forall_mem_cons.mpr ⟨lw_p20, List.forall_mem_cons.mpr ⟨lw_p21, List.forall_mem_cons.mpr ⟨lw_p22, List.forall_mem_cons.mpr ⟨lw_p23, List.forall_mem_cons.mpr ⟨lw_p24, List.forall_mem_cons.mpr ⟨lw_p25, List.forall_mem_cons.mpr ⟨lw_p26, List.forall_mem_cons.mpr ⟨lw_p27, List.forall_mem_cons.mpr ⟨lw_p28, List.forall_mem_cons.mpr ⟨lw_p29, List.forall_mem_cons.mpr ⟨lw_p30, List.forall_mem_cons.mpr ⟨lw_p31, fun _ h => absurd h List.not_mem_nil⟩⟩⟩⟩⟩⟩⟩⟩⟩⟩⟩⟩⟩⟩⟩⟩
theorem lw_p32 : lw_okq (⟨"SteppedList", "endWork", "(LSteppedList$Worker;)V"⟩, 5) := ⟨⟨by decide +kernel, by decide +kernel⟩, List.mem_of_getElem? (i := 14) (by decide +kernel), List.mem_of_getElem? (i := 404) (by decide +kernel), List.mem_of_getElem? (i := 405) (by decide +kernel)⟩
theorem lw_p33 : lw_okq (⟨"SteppedList", "unhangHere", "(LSteppedList$Worker;)V"⟩, 5) := ⟨⟨by decide +kernel, by decide +kernel⟩, List.mem_of_getElem? (i := 14) (by decide +kernel), List.mem_of_getElem? (i := 408) (by decide +kernel), List.mem_of_getElem? (i := 409) (by decide +kernel)⟩
theorem lw_p34 : lw_okq (⟨"SteppedList", "allAnnounceCurrentEpoch", "()Z"⟩, 5) := ⟨⟨by decide +kernel, by decide +kernel⟩, List.mem_of_getElem? (i := 14) (by decide +kernel), List.mem_of_getElem? (i := 490) (by decide +kernel), List.mem_of_getElem? (i := 491) (by decide +kernel)⟩
theorem lw_p35 : lw_okq (⟨"SteppedList", "freeOldEpochs", "()V"⟩, 5) := ⟨⟨by decide +kernel, by decide +kernel⟩, List.mem_of_getElem? (i := 14) (by decide +kernel), List.mem_of_getElem? (i := 494) (by decide +kernel), List.mem_of_getElem? (i := 495) (by decide +kernel)⟩
theorem lw_p36 : lw_okq (⟨"SteppedList$Block", "tell", "(I)I"⟩, 6) := ⟨⟨by decide +kernel, by decide +kernel⟩, List.mem_of_getElem? (i := 23) (by decide +kernel), List.mem_of_getElem? (i := 515) (by decide +kernel), List.mem_of_getElem? (i := 516) (by decide +kernel)⟩
theorem lw_p37 : lw_okq (⟨"SteppedListModel", "sweep", "(I)I"⟩, 24) := ⟨⟨by decide +kernel, by decide +kernel⟩, List.mem_of_getElem? (i := 519) (by decide +kernel), List.mem_of_getElem? (i := 619) (by decide +kernel), List.mem_of_getElem? (i := 620) (by decide +kernel)⟩
theorem lw_p38 : lw_okq (⟨"SteppedListModel", "isNamed", "(I)Z"⟩, 24) := ⟨⟨by decide +kernel, by decide +kernel⟩, List.mem_of_getElem? (i := 519) (by decide +kernel), List.mem_of_getElem? (i := 623) (by decide +kernel), List.mem_of_getElem? (i := 624) (by decide +kernel)⟩
theorem lw_p39 : lw_okq (⟨"SteppedListModel", "advanceThread", "(I)V"⟩, 24) := ⟨⟨by decide +kernel, by decide +kernel⟩, List.mem_of_getElem? (i := 519) (by decide +kernel), List.mem_of_getElem? (i := 631) (by decide +kernel), List.mem_of_getElem? (i := 632) (by decide +kernel)⟩
theorem lw_p40 : lw_okq (⟨"SteppedListModel", "head", "(I)I"⟩, 24) := ⟨⟨by decide +kernel, by decide +kernel⟩, List.mem_of_getElem? (i := 519) (by decide +kernel), List.mem_of_getElem? (i := 635) (by decide +kernel), List.mem_of_getElem? (i := 636) (by decide +kernel)⟩
theorem lw_p41 : lw_okq (⟨"SteppedListModel", "come", "(II)I"⟩, 24) := ⟨⟨by decide +kernel, by decide +kernel⟩, List.mem_of_getElem? (i := 519) (by decide +kernel), List.mem_of_getElem? (i := 639) (by decide +kernel), List.mem_of_getElem? (i := 640) (by decide +kernel)⟩
theorem lw_p42 : lw_okq (⟨"SteppedListModel", "name", "(I)I"⟩, 24) := ⟨⟨by decide +kernel, by decide +kernel⟩, List.mem_of_getElem? (i := 519) (by decide +kernel), List.mem_of_getElem? (i := 643) (by decide +kernel), List.mem_of_getElem? (i := 644) (by decide +kernel)⟩
theorem lw_p43 : lw_okq (⟨"SteppedListModel", "check", "(I)I"⟩, 24) := ⟨⟨by decide +kernel, by decide +kernel⟩, List.mem_of_getElem? (i := 519) (by decide +kernel), List.mem_of_getElem? (i := 647) (by decide +kernel), List.mem_of_getElem? (i := 648) (by decide +kernel)⟩
theorem lw_p44 : lw_okq (⟨"SteppedListModel", "lookBack", "(I)V"⟩, 24) := ⟨⟨by decide +kernel, by decide +kernel⟩, List.mem_of_getElem? (i := 519) (by decide +kernel), List.mem_of_getElem? (i := 651) (by decide +kernel), List.mem_of_getElem? (i := 652) (by decide +kernel)⟩
theorem lw_p45 : lw_okq (⟨"SteppedListModel", "look", "(II)V"⟩, 24) := ⟨⟨by decide +kernel, by decide +kernel⟩, List.mem_of_getElem? (i := 519) (by decide +kernel), List.mem_of_getElem? (i := 655) (by decide +kernel), List.mem_of_getElem? (i := 656) (by decide +kernel)⟩
theorem lw_p46 : lw_okq (⟨"SteppedListModel", "linked", "(I)Z"⟩, 24) := ⟨⟨by decide +kernel, by decide +kernel⟩, List.mem_of_getElem? (i := 519) (by decide +kernel), List.mem_of_getElem? (i := 659) (by decide +kernel), List.mem_of_getElem? (i := 660) (by decide +kernel)⟩
theorem lw_p47 : lw_okq (⟨"SteppedListModel", "read", "(I)I"⟩, 24) := ⟨⟨by decide +kernel, by decide +kernel⟩, List.mem_of_getElem? (i := 519) (by decide +kernel), List.mem_of_getElem? (i := 663) (by decide +kernel), List.mem_of_getElem? (i := 664) (by decide +kernel)⟩
def lw_privs_3 : List (MethodName × Nat) := [(⟨"SteppedList", "endWork", "(LSteppedList$Worker;)V"⟩, 5), (⟨"SteppedList", "unhangHere", "(LSteppedList$Worker;)V"⟩, 5), (⟨"SteppedList", "allAnnounceCurrentEpoch", "()Z"⟩, 5), (⟨"SteppedList", "freeOldEpochs", "()V"⟩, 5), (⟨"SteppedList$Block", "tell", "(I)I"⟩, 6), (⟨"SteppedListModel", "sweep", "(I)I"⟩, 24), (⟨"SteppedListModel", "isNamed", "(I)Z"⟩, 24), (⟨"SteppedListModel", "advanceThread", "(I)V"⟩, 24), (⟨"SteppedListModel", "head", "(I)I"⟩, 24), (⟨"SteppedListModel", "come", "(II)I"⟩, 24), (⟨"SteppedListModel", "name", "(I)I"⟩, 24), (⟨"SteppedListModel", "check", "(I)I"⟩, 24), (⟨"SteppedListModel", "lookBack", "(I)V"⟩, 24), (⟨"SteppedListModel", "look", "(II)V"⟩, 24), (⟨"SteppedListModel", "linked", "(I)Z"⟩, 24), (⟨"SteppedListModel", "read", "(I)I"⟩, 24)]
theorem lw_r3 : ∀ q ∈ lw_privs_3, lw_okq q := List.forall_mem_cons.mpr ⟨lw_p32, List.forall_mem_cons.mpr ⟨lw_p33, List.forall_mem_cons.mpr ⟨lw_p34, List.forall_mem_cons.mpr ⟨lw_p35, List.forall_mem_cons.mpr ⟨lw_p36, List.forall_mem_cons.mpr ⟨lw_p37, List.forall_mem_cons.mpr ⟨lw_p38, List.forall_mem_cons.mpr ⟨lw_p39, List.forall_mem_cons.mpr ⟨lw_p40, List.forall_mem_cons.mpr ⟨lw_p41, List.forall_mem_cons.mpr ⟨lw_p42, List.forall_mem_cons.mpr ⟨lw_p43, List.forall_mem_cons.mpr ⟨lw_p44, List.forall_mem_cons.mpr ⟨lw_p45, List.forall_mem_cons.mpr ⟨lw_p46, List.forall_mem_cons.mpr ⟨lw_p47, fun _ h => absurd h List.not_mem_nil⟩⟩⟩⟩⟩⟩⟩⟩⟩⟩⟩⟩⟩⟩⟩⟩
theorem lw_p48 : lw_okq (⟨"SteppedListModel", "cut", "(I)I"⟩, 24) := ⟨⟨by decide +kernel, by decide +kernel⟩, List.mem_of_getElem? (i := 519) (by decide +kernel), List.mem_of_getElem? (i := 667) (by decide +kernel), List.mem_of_getElem? (i := 668) (by decide +kernel)⟩
theorem lw_p49 : lw_okq (⟨"SteppedListModel", "link", "(IIZ)V"⟩, 24) := ⟨⟨by decide +kernel, by decide +kernel⟩, List.mem_of_getElem? (i := 519) (by decide +kernel), List.mem_of_getElem? (i := 671) (by decide +kernel), List.mem_of_getElem? (i := 672) (by decide +kernel)⟩
theorem lw_p50 : lw_okq (⟨"SteppedListModel", "retire", "(II)V"⟩, 24) := ⟨⟨by decide +kernel, by decide +kernel⟩, List.mem_of_getElem? (i := 519) (by decide +kernel), List.mem_of_getElem? (i := 675) (by decide +kernel), List.mem_of_getElem? (i := 676) (by decide +kernel)⟩
theorem lw_p51 : lw_okq (⟨"SteppedListModel", "act", "(I)I"⟩, 24) := ⟨⟨by decide +kernel, by decide +kernel⟩, List.mem_of_getElem? (i := 519) (by decide +kernel), List.mem_of_getElem? (i := 679) (by decide +kernel), List.mem_of_getElem? (i := 680) (by decide +kernel)⟩
theorem lw_p52 : lw_okq (⟨"SteppedListModel", "insert", "(I)I"⟩, 24) := ⟨⟨by decide +kernel, by decide +kernel⟩, List.mem_of_getElem? (i := 519) (by decide +kernel), List.mem_of_getElem? (i := 683) (by decide +kernel), List.mem_of_getElem? (i := 684) (by decide +kernel)⟩
theorem lw_p53 : lw_okq (⟨"SteppedListModel", "remove", "(I)I"⟩, 24) := ⟨⟨by decide +kernel, by decide +kernel⟩, List.mem_of_getElem? (i := 519) (by decide +kernel), List.mem_of_getElem? (i := 687) (by decide +kernel), List.mem_of_getElem? (i := 688) (by decide +kernel)⟩
theorem lw_p54 : lw_okq (⟨"SteppedListModel", "hang", "(I)I"⟩, 24) := ⟨⟨by decide +kernel, by decide +kernel⟩, List.mem_of_getElem? (i := 519) (by decide +kernel), List.mem_of_getElem? (i := 691) (by decide +kernel), List.mem_of_getElem? (i := 692) (by decide +kernel)⟩
theorem lw_p55 : lw_okq (⟨"SteppedListModel", "end", "(I)I"⟩, 24) := ⟨⟨by decide +kernel, by decide +kernel⟩, List.mem_of_getElem? (i := 519) (by decide +kernel), List.mem_of_getElem? (i := 695) (by decide +kernel), List.mem_of_getElem? (i := 696) (by decide +kernel)⟩
theorem lw_p56 : lw_okq (⟨"SteppedListModel", "unhang", "(I)I"⟩, 24) := ⟨⟨by decide +kernel, by decide +kernel⟩, List.mem_of_getElem? (i := 519) (by decide +kernel), List.mem_of_getElem? (i := 699) (by decide +kernel), List.mem_of_getElem? (i := 700) (by decide +kernel)⟩
theorem lw_p57 : lw_okq (⟨"SteppedListModel", "count", "(II)I"⟩, 24) := ⟨⟨by decide +kernel, by decide +kernel⟩, List.mem_of_getElem? (i := 519) (by decide +kernel), List.mem_of_getElem? (i := 731) (by decide +kernel), List.mem_of_getElem? (i := 732) (by decide +kernel)⟩
def lw_privs_4 : List (MethodName × Nat) := [(⟨"SteppedListModel", "cut", "(I)I"⟩, 24), (⟨"SteppedListModel", "link", "(IIZ)V"⟩, 24), (⟨"SteppedListModel", "retire", "(II)V"⟩, 24), (⟨"SteppedListModel", "act", "(I)I"⟩, 24), (⟨"SteppedListModel", "insert", "(I)I"⟩, 24), (⟨"SteppedListModel", "remove", "(I)I"⟩, 24), (⟨"SteppedListModel", "hang", "(I)I"⟩, 24), (⟨"SteppedListModel", "end", "(I)I"⟩, 24), (⟨"SteppedListModel", "unhang", "(I)I"⟩, 24), (⟨"SteppedListModel", "count", "(II)I"⟩, 24)]
theorem lw_r4 : ∀ q ∈ lw_privs_4, lw_okq q := List.forall_mem_cons.mpr ⟨lw_p48, List.forall_mem_cons.mpr ⟨lw_p49, List.forall_mem_cons.mpr ⟨lw_p50, List.forall_mem_cons.mpr ⟨lw_p51, List.forall_mem_cons.mpr ⟨lw_p52, List.forall_mem_cons.mpr ⟨lw_p53, List.forall_mem_cons.mpr ⟨lw_p54, List.forall_mem_cons.mpr ⟨lw_p55, List.forall_mem_cons.mpr ⟨lw_p56, List.forall_mem_cons.mpr ⟨lw_p57, fun _ h => absurd h List.not_mem_nil⟩⟩⟩⟩⟩⟩⟩⟩⟩⟩
def lw_privs : List (MethodName × Nat) := lw_privs_1 ++ (lw_privs_2 ++ (lw_privs_3 ++ (lw_privs_4)))
def lw_tbl : List Cond := k2_sels lw_privs ++ tables_1
theorem lw_privs_ok : ∀ q ∈ lw_privs, lw_okq q := by
  show ∀ q ∈ lw_privs_1 ++ (lw_privs_2 ++ (lw_privs_3 ++ (lw_privs_4))), lw_okq q
  exact List.forall_mem_append.mpr ⟨lw_r1, List.forall_mem_append.mpr ⟨lw_r2, List.forall_mem_append.mpr ⟨lw_r3, lw_r4⟩⟩⟩
end
section
/-! ===== BEGIN words of one list among another's, by their places ===== -/
theorem goodIn_r {big : List Cond} (ws : List Cond) (ps : List Nat) (hp : ws = ps.filterMap (fun i => big[i]?)) (h : ws.all goodWord = true) : GoodIn big ws := by
  intro w hw
  have h1 := List.all_eq_true.mp h w hw
  rw [hp] at hw
  obtain ⟨i, -, hi⟩ := List.mem_filterMap.mp hw
  have hm : w ∈ big := by first | exact List.mem_of_getElem? hi | exact List.getElem?_mem hi
  exact ⟨hm, good_of_word h1⟩
theorem goodIn_app {big a b : List Cond} (ha : GoodIn big a) (hb : GoodIn big b) : GoodIn big (a ++ b) := fun w h => (List.mem_append.mp h).elim (ha w) (hb w)
theorem goodIn_ca {big a b : List Cond} {c : Cond} (ha : GoodIn big (c :: a)) (hb : GoodIn big b) : GoodIn big (c :: (a ++ b)) := fun w h => (List.mem_cons.mp h).elim (fun e => ha w (List.mem_cons.mpr (Or.inl e))) (fun h => (List.mem_append.mp h).elim (fun h => ha w (List.mem_cons.mpr (Or.inr h))) (hb w))
theorem goodIn_sub {big ws : List Cond} (hm : ∀ w ∈ ws, w ∈ big) (h : ws.all goodWord = true) : GoodIn big ws := fun w hw => ⟨hm w hw, good_of_word (List.all_eq_true.mp h w hw)⟩
/-! ===== END ===== -/

/-! ===== BEGIN exceptions that leave a method, and their catching by the caller (launches without stack traces) ===== -/
section VXA
/-! The laws vx_back, vx_callV, vx_callS, vx_callSW, vx_throw0, vx_throwS follow proofs of the library, with one case more: JvmDerived/Free/Laws.lean (Back.of_free), Shelf42/LK1.lean (callV, callS), Shelf/KitTraced.lean (throwNew0V, throwNewS). -/
/-- where a method has thrown q: the class by its name, the cell, what was written, the world -/
def vx_T (XC : String → State → State → Prop) (st : State) (q : Addr) (t : State) (mc ms : Nat) (free : Addr → Prop) : Prop :=
  ∃ (E : String) (ce : Cell) (L : List Loc), XC E st t ∧ t.heap[q]? = some ce ∧ ce.vm = .none ∧ st.vm.findClass E = some ce.cls ∧ st.WarmedH t.vm ∧ st.sameButNew ({ t with vm := st.vm } : State) L mc ms ∧ ∀ z ∈ L, free z.base
def vx_Q (Qc : Array Value → State → Outcome → State → Prop) (XC : String → State → State → Prop) (mc ms : Nat) (free : Addr → Prop) : Array Value → State → Outcome → State → Prop := fun a st o t =>
  (Qc a st o t ∧ ∃ L, FrameEnd st o t L mc ms ∧ ∀ q ∈ L, free q.base) ∨ ∃ q, o = .threw q ∧ vx_T XC st q t mc ms free
/-- a callee that returns or throws -/
def vx_Met (l : Launch) (y : MethodName) (ws : List Cond) (rm : Room) (Pc : Array Value → State → Prop) (Qc : Array Value → State → Outcome → State → Prop) (XC : String → State → State → Prop) (mc ms : Nat) (free : Addr → Prop) : Prop :=
  MetFree l y (headSpec ws rm) Pc (fun _ _ _ _ _ => True) (vx_Q Qc XC mc ms free)
def vx_Post (XC : String → State → State → Prop) (mc ms : Nat) (free : Addr → Prop) : Pt → Array Value → Addr → Pt → Prop := fun A a q B =>
  ∃ (g : JFrame) (mk : MethodId) (t : State) (L : List Loc) (E : String) (ce : Cell), B.U.heap = t.heap ∧ B.U.vm = t.vm ∧ XC E (A.U.calling g mk a) t ∧ t.heap[q]? = some ce ∧ ce.vm = .none ∧ A.U.vm.findClass E = some ce.cls ∧ B.locs = A.locs ++ L ∧ (∀ z ∈ L, free z.base) ∧ B.cells = A.cells + mc ∧ B.slots = A.slots + ms
def vx_Back (l : Launch) (R : Room) (p : Program) (e : Env) (below : List Frame) (s : State) (sargs : Array Value) (y : MethodName) (len W9 : Nat)
    (Pre : Pt → Array Value → Prop) (Post : Pt → Array Value → Option Value → Pt → Prop) (PostX : Pt → Array Value → Addr → Pt → Prop) : Prop :=
  ∀ (m : MethodId) (meth : Method) (c : Code) (A : Pt) (g : JFrame) (ig : Instr) (mk : MethodId) (a : Array Value),
    Stand p l e R s m sargs below meth c A.U A.locs A.cells A.slots → g.method = m → g.locals.size = c.maxLocals → decode c.code g.pc = .ok (ig, len) →
    2 * g.monitorRoom + (g.stack.map fun v => v.category).sum ≤ W9 → A.U.methodNamed? y = some mk → Pre A a →
    (∃ (v : Option Value) (B : Pt), Stand p l e R s m sargs below meth c B.U B.locs B.cells B.slots ∧ Post A a v B ∧
      Steps p.tables e below (doInvoke e (A.U.setTop g) [] mk a).1 (B.U.setTop { g with pc := g.pc + len, stack := v.toList ++ g.stack })) ∨
    (∃ (q : Addr) (B : Pt), Stand p l e R s m sargs below meth c B.U B.locs B.cells B.slots ∧ PostX A a q B ∧
      Steps p.tables e below (doInvoke e (A.U.setTop g) [] mk a).1 ((B.U.setTop g).pushFrame (.throwing q)))
section Payer
variable {l : Launch} {R : Room} {p : Program} {e : Env} {below : List Frame} {s : State} {sargs : Array Value} {y : MethodName} {len W9 : Nat}
theorem vx_back {ws : List Cond} {rm : Room} {Pc : Array Value → State → Prop} {Qc : Array Value → State → Outcome → State → Prop} {XC : String → State → State → Prop} {mc ms : Nat} {free : Addr → Prop} {bytes : ByteArray} {maxL : Nat} {ret : Option FieldType}
    (hM : vx_Met l y ws rm Pc Qc XC mc ms free) (hblind : FrameBlind Pc) (hrc : rm.cells = mc) (hrs : rm.slots = ms)
    (hframes : rm.frames + 1 ≤ R.frames) (hlocals : W9 + (maxL + 11) + rm.locals ≤ R.locals)
    (hws : ∀ w ∈ ws, ∀ a' U, s.WarmedH U.vm → w.before a' U = true) (hcode : Cond.code y bytes maxL ret ∈ ws) (hinit : ∀ a' U, s.WarmedH U.vm → (Cond.initialized y.cls).before a' U = true) :
    vx_Back l R p e below s sargs y len W9 (PreOf R mc ms Pc) (PostOf Qc mc ms free) (vx_Post XC mc ms free) := by
  intro m meth c A g ig mk a X hg hsize hdg hW hn hp
  have h1 : (headSpec ws rm).pre.before a A.U = true := atoms_intro fun w hw => hws w hw _ _ X.warmed
  have h2 : (Cond.code y bytes maxL ret).before a A.U = true := hws _ hcode _ _ X.warmed
  have h3 : (Cond.initialized y.cls).before a A.U = true := hinit _ _ X.warmed
  have h4 : A.cells + (headSpec ws rm).room.cells ≤ R.cells := by rw [show (headSpec ws rm).room.cells = mc from hrc]; exact hp.1
  have h5 : A.slots + (headSpec ws rm).room.slots ≤ R.slots := by rw [show (headSpec ws rm).room.slots = ms from hrs]; exact hp.2.1
  have hPc : Pc a (A.U.calling g mk a) := hblind _ _ _ _ hp.2.2
  obtain ⟨U, Ls, c0, s0⟩ := A
  dsimp only [Pt.U, Pt.locs, Pt.cells, Pt.slots] at h1 h2 h3 h4 h5 X hn hPc ⊢
  obtain ⟨methY, cY, hmY, hcY, -, hlY, -, -, -, -⟩ := Cond.code_spec hn h2
  obtain ⟨kY, hkY, -⟩ := className_of_methodNamed hn
  have hinitY : kY.init = .initialized := Cond.initialized_spec (findClass_of_methodNamed hn) hkY h3
  have h : At U g.method c below := by rw [hg]; exact X.here
  have hlocals9 : W9 + (maxL + 11) + (headSpec ws rm).room.locals ≤ R.locals := hlocals
  have happ : (headSpec ws rm).appliesLoose y e.platform (U.calling g mk a) = true :=
    Spec.appliesLoose_calling (g := g) h hdg hn hkY hinitY
      (X.room_calling (g := g) (R' := (headSpec ws rm).room) hsize hmY hcY hframes (by rw [hlY]; omega) h4 h5) h1
  obtain ⟨mid, hmid⟩ := h.above
  have hfr : (U.setTop g).frames = (.java g :: mid) ++ below := by rw [State.frames_setTop' g h.top, hmid]; rfl
  obtain ⟨o, s₂, hsteps, -, hend, hq⟩ := Steps.callFree hM p X.admits X.cas X.clock (acts := []) hfr happ hPc trivial
  have hq' : vx_Q Qc XC mc ms free a (U.calling g mk a) o s₂ := hq
  rw [State.frames_setTop' g h.top] at hend
  obtain ⟨g₀, hg0⟩ := Option.isSome_iff_exists.mp h.top
  obtain ⟨r, hr⟩ := State.topJava?_eq_some.mp hg0
  have hr' : (({ U with heap := s₂.heap, slotsUsed := s₂.slotsUsed } : State).setVm s₂.vm).frames = .java g₀ :: r := hr
  rcases hq' with ⟨hqc, L, hfe, hL⟩ | ⟨q, rfl, E, ce, L, hx, hce, hcv, hcl, hW₂, hsm, hL⟩
  · obtain ⟨⟨v, rfl⟩, hW₂, e2, q2, q3, q4, q5, q6⟩ := id hfe
    have e3 : s₂ = ({ (U.calling g mk a).setFrames s₂.frames with heap := s₂.heap, slotsUsed := s₂.slotsUsed } : State).setVm s₂.vm := by
      have : s₂ = ({ s₂ with vm := (U.calling g mk a).vm } : State).setVm s₂.vm := rfl
      rw [e2] at this
      exact this
    obtain ⟨c₂, i₂, len₂, hc₂, hd₂, hf₂⟩ := hend
    have hW' : U.WarmedH s₂.vm := hW₂
    have hcc : c₂ = c := by
      have h1 : s₂.code? g.method = U.code? g.method := by
        rw [State.code?_eq, State.code?_eq, hW'.alike.method?]
      exact Option.some.inj (hc₂.symm.trans (h1.trans h.code))
    subst hcc
    have hlen : len₂ = len := by rw [hdg] at hd₂; cases hd₂; rfl
    subst hlen
    have hs₂ : s₂ = (({ U with heap := s₂.heap, slotsUsed := s₂.slotsUsed } : State).setVm s₂.vm).setTop { g with pc := g.pc + len₂, stack := v.toList ++ g.stack } := by
      refine e3.trans ?_
      rw [hf₂, State.calling_eq h.top, State.setFrames_setFrames, State.setTop_of_frames _ hr', hr]
      rfl
    have hsame : U.sameButNew ({ U with heap := s₂.heap, slotsUsed := s₂.slotsUsed } : State) L mc ms := by
      refine ⟨?_, q2, q3, q4, q5, q6⟩
      obtain ⟨t, ht, -⟩ := State.frames_cons hr
      show ({ U with heap := s₂.heap, slotsUsed := s₂.slotsUsed } : State) = { U.setFrames U.frames with heap := s₂.heap, slotsUsed := s₂.slotsUsed }
      rw [State.setFrames_self ht]
    subst hg
    refine Or.inl ⟨v, ⟨(({ U with heap := s₂.heap, slotsUsed := s₂.slotsUsed } : State).setVm s₂.vm), Ls ++ L, c0 + mc, s0 + ms⟩,
      ⟨X.admits, X.cas, X.clock, X.frames, X.room, X.hears, X.method, X.code, (X.here.setHeapUsed s₂.heap s₂.slotsUsed).setVm hW'.alike, X.tail, State.WarmedH.trans X.warmed hW', X.limits, X.bytes, X.same.trans (hsame.setVm s.vm)⟩,
      ⟨g, mk, s₂, L, rfl, rfl, hqc, rfl, hL, rfl, rfl⟩, ?_⟩
    show Steps p.tables e below _ ((({ U with heap := s₂.heap, slotsUsed := s₂.slotsUsed } : State).setVm s₂.vm).setTop { g with pc := g.pc + len₂, stack := v.toList ++ g.stack })
    rw [← hs₂]
    exact hsteps
  · obtain ⟨e2, q2, q3, q4, q5, q6⟩ := id hsm
    have e3 : s₂ = ({ (U.calling g mk a).setFrames s₂.frames with heap := s₂.heap, slotsUsed := s₂.slotsUsed } : State).setVm s₂.vm := by
      have : s₂ = ({ s₂ with vm := (U.calling g mk a).vm } : State).setVm s₂.vm := rfl
      rw [e2] at this
      exact this
    have hf₂ : s₂.frames = .throwing q :: .java g :: U.frames.tail := hend
    have hW' : U.WarmedH s₂.vm := hW₂
    have hs₂ : s₂ = ((({ U with heap := s₂.heap, slotsUsed := s₂.slotsUsed } : State).setVm s₂.vm).setTop g).pushFrame (.throwing q) := by
      refine e3.trans ?_
      rw [hf₂, State.calling_eq h.top, State.setFrames_setFrames, State.pushFrame, State.frames_setTop _ hr', State.setTop_of_frames _ hr', State.setFrames_setFrames, hr]
      rfl
    have hsame : U.sameButNew ({ U with heap := s₂.heap, slotsUsed := s₂.slotsUsed } : State) L mc ms := by
      refine ⟨?_, q2, q3, q4, q5, q6⟩
      obtain ⟨t, ht, -⟩ := State.frames_cons hr
      show ({ U with heap := s₂.heap, slotsUsed := s₂.slotsUsed } : State) = { U.setFrames U.frames with heap := s₂.heap, slotsUsed := s₂.slotsUsed }
      rw [State.setFrames_self ht]
    subst hg
    refine Or.inr ⟨q, ⟨(({ U with heap := s₂.heap, slotsUsed := s₂.slotsUsed } : State).setVm s₂.vm), Ls ++ L, c0 + mc, s0 + ms⟩,
      ⟨X.admits, X.cas, X.clock, X.frames, X.room, X.hears, X.method, X.code, (X.here.setHeapUsed s₂.heap s₂.slotsUsed).setVm hW'.alike, X.tail, State.WarmedH.trans X.warmed hW', X.limits, X.bytes, X.same.trans (hsame.setVm s.vm)⟩,
      ⟨g, mk, s₂, L, E, ce, rfl, rfl, hx, hce, hcv, hcl, rfl, hL, rfl, rfl⟩, ?_⟩
    show Steps p.tables e below _ (((({ U with heap := s₂.heap, slotsUsed := s₂.slotsUsed } : State).setVm s₂.vm).setTop g).pushFrame (.throwing q))
    rw [← hs₂]
    exact hsteps
end Payer
section Calls
variable {p : Program} {l : Launch} {e : Env} {R : Room} {s : State} {m : MethodId} {args : Array Value} {below : List Frame} {meth : Method} {c : Code} {T : State} {locs : List Loc} {cells slots : Nat}
theorem vx_callV (X : Stand p l e R s m args below meth c T locs cells slots) (hexec : p.tables.exec = Jvm.exec) {own C : String} {index : Nat} {y : MethodName} {bytes : ByteArray} {maxL : Nat} {ret : Option FieldType}
    (hown : s.vm.findClass own = some m.cls) (hlink : (Cond.methodLink own index y).before args s = true) (hinst : (Cond.instanceMethod y).before args s = true) (hsel : (Cond.selects C y y).before args s = true)
    (hcode : (Cond.code y bytes maxL ret).before args s = true) (hy : y.cls ≠ "java/lang/invoke/MethodHandle" ∧ y.cls ≠ "java/lang/invoke/VarHandle")
    {W9 : Nat} {Pre : Pt → Array Value → Prop} {Post : Pt → Array Value → Option Value → Pt → Prop} {PostX : Pt → Array Value → Addr → Pt → Prop} (hK : vx_Back l R p e below s args y 3 W9 Pre Post PostX)
    {b : Addr} {cellB : Cell} (hcell : T.heap[b]? = some cellB) (hobj : cellB.vm.isStatics = false) (hcls : s.vm.findClass C = some cellB.cls)
    {g : JFrame} (hg : g.method = m) (hsize : g.locals.size = c.maxLocals) {argsL rest : List Value} (hlen : ∀ sig, parseMethodDescriptor y.desc = some sig → argsL.length = sig.parameters.length)
    (hstack : g.stack = argsL.reverse ++ .ref b :: rest) (hW : 2 * g.monitorRoom + (rest.map fun v => v.category).sum ≤ W9) (hdg : decode c.code g.pc = .ok (.invokevirtual index, 3))
    (hpre : ∀ vm₁, s.WarmedH vm₁ → Pre ⟨T.setVm vm₁, locs, cells, slots⟩ (Value.ref b :: argsL).toArray) :
    (∃ (v : Option Value) (vm₁ : Vm) (B : Pt), s.WarmedH vm₁ ∧ Stand p l e R s m args below meth c B.U B.locs B.cells B.slots ∧ Post ⟨T.setVm vm₁, locs, cells, slots⟩ (Value.ref b :: argsL).toArray v B ∧
      ∀ target, Steps p.tables e below (B.U.setTop { g with pc := g.pc + 3, stack := v.toList ++ rest }) target → Steps p.tables e below (T.setTop g) target) ∨
    (∃ (q : Addr) (vm₁ : Vm) (B : Pt), s.WarmedH vm₁ ∧ Stand p l e R s m args below meth c B.U B.locs B.cells B.slots ∧ PostX ⟨T.setVm vm₁, locs, cells, slots⟩ (Value.ref b :: argsL).toArray q B ∧
      Steps p.tables e below (T.setTop g) ((B.U.setTop { g with stack := rest }).pushFrame (.throwing q))) := by
  obtain ⟨mk, methM, hnamed, hmethM, hstM, habM⟩ := Cond.instanceMethod_spec hinst
  obtain ⟨methM', cM, hmethM', -, -, -, -, -, -, hsigM⟩ := Cond.code_spec hnamed hcode
  cases hmethM.symm.trans hmethM'
  obtain ⟨c2, r2, m2, q1, q2, q3, q4, kP, hkP, hkPi⟩ := Cond.selects_spec hsel
  cases hcls.symm.trans q1
  cases (State.methodFound?_of_named hnamed hy).symm.trans q2
  cases hnamed.symm.trans q3
  have hselP : selectMethod e.platform s.vm cellB.cls mk = .method mk := by rw [Launch.admits_selectMethod X.admits]; exact q4
  obtain ⟨vm₁, X₁, hstep₁⟩ := X.invokevirtual hexec hown hlink hnamed hmethM hstM hkP hkPi hy (a := b) (cell := cellB) hcell
    (fun z h => by rw [h] at hobj; cases hobj) hselP hmethM habM hkP hkPi (g := g) hg (argsL := argsL) (rest := rest) (hlen _ hsigM) hstack hdg
  rcases hK m meth c ⟨T.setVm vm₁, locs, cells, slots⟩ { g with stack := rest } (.invokevirtual index) mk (Value.ref b :: argsL).toArray X₁ hg hsize hdg hW (X₁.named hnamed) (hpre vm₁ X₁.warmed) with ⟨v, B, X', hpost, hsteps⟩ | ⟨q, B, X', hpost, hsteps⟩
  · exact Or.inl ⟨v, vm₁, B, X₁.warmed, X', hpost, fun target h => hstep₁ _ fun acts => by rw [doInvoke_state]; exact hsteps.trans h⟩
  · exact Or.inr ⟨q, vm₁, B, X₁.warmed, X', hpost, hstep₁ _ fun acts => by rw [doInvoke_state]; exact hsteps⟩
theorem vx_callS (X : Stand p l e R s m args below meth c T locs cells slots) (hexec : p.tables.exec = Jvm.exec) {own : String} {index : Nat} {y : MethodName} {bytes : ByteArray} {maxL : Nat} {ret : Option FieldType}
    (hown : s.vm.findClass own = some m.cls) (hlink : (Cond.methodLink own index y).before args s = true) (hstat : (Cond.static y).before args s = true) (hinit : (Cond.initialized y.cls).before args s = true)
    (hcode : (Cond.code y bytes maxL ret).before args s = true) (hy : y.cls ≠ "java/lang/invoke/MethodHandle" ∧ y.cls ≠ "java/lang/invoke/VarHandle")
    {W9 : Nat} {Pre : Pt → Array Value → Prop} {Post : Pt → Array Value → Option Value → Pt → Prop} {PostX : Pt → Array Value → Addr → Pt → Prop} (hK : vx_Back l R p e below s args y 3 W9 Pre Post PostX)
    {g : JFrame} (hg : g.method = m) (hsize : g.locals.size = c.maxLocals) {argsL rest : List Value} (hlen : ∀ sig, parseMethodDescriptor y.desc = some sig → argsL.length = sig.parameters.length)
    (hstack : g.stack = argsL.reverse ++ rest) (hW : 2 * g.monitorRoom + (rest.map fun v => v.category).sum ≤ W9) (hdg : decode c.code g.pc = .ok (.invokestatic index, 3))
    (hpre : ∀ vm₁, s.WarmedH vm₁ → Pre ⟨T.setVm vm₁, locs, cells, slots⟩ argsL.toArray) :
    (∃ (v : Option Value) (vm₁ : Vm) (B : Pt), s.WarmedH vm₁ ∧ Stand p l e R s m args below meth c B.U B.locs B.cells B.slots ∧ Post ⟨T.setVm vm₁, locs, cells, slots⟩ argsL.toArray v B ∧
      ∀ target, Steps p.tables e below (B.U.setTop { g with pc := g.pc + 3, stack := v.toList ++ rest }) target → Steps p.tables e below (T.setTop g) target) ∨
    (∃ (q : Addr) (vm₁ : Vm) (B : Pt), s.WarmedH vm₁ ∧ Stand p l e R s m args below meth c B.U B.locs B.cells B.slots ∧ PostX ⟨T.setVm vm₁, locs, cells, slots⟩ argsL.toArray q B ∧
      Steps p.tables e below (T.setTop g) ((B.U.setTop { g with stack := rest }).pushFrame (.throwing q))) := by
  obtain ⟨mk, hnamed⟩ := Cond.code_named hcode
  obtain ⟨methM, cM, hmethM, -, -, -, -, -, -, hsigM⟩ := Cond.code_spec hnamed hcode
  have hstatic : methM.isStatic = true := Cond.static_spec hnamed hmethM hstat
  obtain ⟨kP, hkP, -⟩ := className_of_methodNamed hnamed
  have hinitP : kP.init = .initialized := Cond.initialized_spec (findClass_of_methodNamed hnamed) hkP hinit
  obtain ⟨vm₁, X₁, hstep₁⟩ := X.invokestatic hexec hown hlink hnamed hmethM hstatic hkP hinitP hy (g := g) hg (argsL := argsL) (rest := rest) (hlen _ hsigM) hstack hdg
  rcases hK m meth c ⟨T.setVm vm₁, locs, cells, slots⟩ { g with stack := rest } (.invokestatic index) mk argsL.toArray X₁ hg hsize hdg hW (X₁.named hnamed) (hpre vm₁ X₁.warmed) with ⟨v, B, X', hpost, hsteps⟩ | ⟨q, B, X', hpost, hsteps⟩
  · exact Or.inl ⟨v, vm₁, B, X₁.warmed, X', hpost, fun target h => hstep₁ _ fun acts => by rw [doInvoke_state]; exact hsteps.trans h⟩
  · exact Or.inr ⟨q, vm₁, B, X₁.warmed, X', hpost, hstep₁ _ fun acts => by rw [doInvoke_state]; exact hsteps⟩
end Calls
theorem vx_cls {s : State} {T : State} {vm₁ : Vm} {E : String} {k : ClassId} (hW : s.WarmedH vm₁) (h : (T.setVm vm₁).vm.findClass E = some k) : s.vm.findClass E = some k := by
  have h1 : vm₁.findClass E = some k := h
  rw [hW.alike.findClass] at h1
  exact h1
/-- the method's frame g, with q thrown over it -/
def vx_W (p : Program) (l : Launch) (e : Env) (R : Room) (s : State) (m : MethodId) (args : Array Value) (below : List Frame) (meth : Method) (c : Code) (H : Heap) (locs : List Loc) (cells slots : Nat) (Q : State → Prop) (g : JFrame) (q : Addr) : Prop :=
  ∀ T : State, T.heap = H → Stand p l e R s m args below meth c T locs cells slots → ∃ t, Steps p.tables e below ((T.setTop g).pushFrame (.throwing q)) t ∧ Q t
def vx_Run (p : Program) (l : Launch) (e : Env) (R : Room) (s : State) (m : MethodId) (args : Array Value) (below : List Frame) (meth : Method) (c : Code) (H : Heap) (locs : List Loc) (cells slots mc ms : Nat) (g : JFrame) (rest : List Value) (Qa : State → Outcome → State → Prop) (XC : String → State → State → Prop) (free : Addr → Prop) : Prop :=
  ∀ T : State, T.heap = H → Stand p l e R s m args below meth c T locs cells slots →
    (∃ (v : Option Value) (st₀ t T' : State) (L : List Loc), st₀.heap = H ∧ Stand p l e R s m args below meth c T' (locs ++ L) (cells + mc) (slots + ms) ∧ (∀ q ∈ L, free q.base) ∧ T'.heap = t.heap ∧ T'.vm = t.vm ∧ Qa st₀ (.returned v) t ∧
      Goes p e below T g T' { g with pc := g.pc + 3, stack := v.toList ++ rest }) ∨
    (∃ (q : Addr) (st₀ t T' : State) (L : List Loc) (E : String) (ce : Cell), st₀.heap = H ∧ Stand p l e R s m args below meth c T' (locs ++ L) (cells + mc) (slots + ms) ∧ (∀ z ∈ L, free z.base) ∧ T'.heap = t.heap ∧ T'.vm = t.vm ∧ XC E st₀ t ∧ t.heap[q]? = some ce ∧ ce.vm = .none ∧ s.vm.findClass E = some ce.cls ∧
      Steps p.tables e below (T.setTop g) ((T'.setTop { g with stack := rest }).pushFrame (.throwing q)))
def vx_X {S : Type} (px : S → Prop) (B : String → S → State → Prop) (A : Nat → Prop) : String → State → State → Prop := fun E st t => ∃ u : S, px u ∧ B E u t ∧ va_F A st t
section Runs
variable {p : Program} {l : Launch} {e : Env} {R : Room} {s : State} {m : MethodId} {args : Array Value} {below : List Frame} {meth : Method} {c : Code} {H : Heap} {locs : List Loc} {cells slots : Nat}
variable {y : MethodName} {bytes cc : ByteArray} {maxL nL mc ms n index : Nat} {ret : Option FieldType} {ws : List Cond} {rm : Room} {Pc : Array Value → State → Prop} {Qc : Array Value → State → Outcome → State → Prop} {XC : String → State → State → Prop} {free : Addr → Prop} {Ts : List Cond} {own C : String} {b : Addr} {As rest : List Value} {g : JFrame}
theorem vx_callBack (cb : CallB R s args own index y bytes maxL ret ws rm mc ms n) (hM : vx_Met l y ws rm Pc Qc XC mc ms free) (hbl : FrameBlind Pc) : vx_Back l R p e below s args y 3 8 (PreOf R mc ms Pc) (PostOf Qc mc ms free) (vx_Post XC mc ms free) := by
  obtain ⟨hrc, hrs, hfr, hlo, hws, hcw, -, hini, -⟩ := cb
  exact vx_back (bytes := bytes) (maxL := maxL) (ret := ret) hM hbl hrc hrs hfr hlo hws hcw (fun a' U hW => word_at hW (Or.inl (by first | rfl | simp [Cond.onTables, Cond.keeps, Cond.steady])) hini)
theorem vx_runV (S : CallFix p m c cc nL s args Ts own) (hM : vx_Met l y ws rm Pc Qc XC mc ms free) (cw : CallW R s args own C index y bytes maxL ret ws rm mc ms n) (hp : PreV s H C b Pc As)
    (hg : g.method = m) (hn : As.length = n) (hsize : g.locals.size = nL) (hstack : g.stack = As.reverse ++ .ref b :: rest) (hW : 2 * g.monitorRoom + (rest.map fun v => v.category).sum ≤ 8) (hdg : decode cc g.pc = .ok (.invokevirtual index, 3)) (hf : cells + mc ≤ R.cells ∧ slots + ms ≤ R.slots) :
    vx_Run p l e R s m args below meth c H locs cells slots mc ms g rest (Qc (Value.ref b :: As).toArray) XC free := by
  have hK : vx_Back l R p e below s args y 3 8 (PreOf R mc ms Pc) (PostOf Qc mc ms free) (vx_Post XC mc ms free) := vx_callBack cw.1 hM hp.1
  obtain ⟨⟨-, -, -, -, -, -, hcode, -, hy, hlen, hl⟩, hin, hse⟩ := cw
  obtain ⟨hx, hb, hml, ho, -⟩ := S
  obtain ⟨-, ⟨cellB, hcB, hoB, hclB⟩, hPc⟩ := hp
  intro T hT X
  rcases vx_callV X hx (C := C) (bytes := bytes) (maxL := maxL) (ret := ret) ho hl hin hse hcode hy hK (by rw [hT]; exact hcB) hoB hclB hg (hsize.trans hml.symm) (argsL := As) (rest := rest) (fun sig h => hn.trans (hlen sig h)) hstack hW (by rw [hb]; exact hdg)
    (fun vm₁ hW₁ => ⟨hf.1, hf.2, hPc (T.setVm vm₁) hT hW₁⟩) with ⟨v, vm₁, ⟨U', l2, c2, s2⟩, hW₁, X', ⟨g', mk, t, L, e1, e2, hq, h1, hL, h2, h3⟩, st⟩ | ⟨q, vm₁, ⟨U', l2, c2, s2⟩, hW₁, X', ⟨g', mk, t, L, E, ce, e1, e2, hq, hce, hcv, hcl, h1, hL, h2, h3⟩, st⟩
  · dsimp only [Pt.U, Pt.locs, Pt.cells, Pt.slots] at X' e1 e2 h1 h2 h3 st
    subst h1; subst h2; subst h3
    exact Or.inl ⟨v, (T.setVm vm₁).calling g' mk (Value.ref b :: As).toArray, t, U', L, hT, X', hL, e1, e2, hq, st⟩
  · dsimp only [Pt.U, Pt.locs, Pt.cells, Pt.slots] at X' e1 e2 h1 h2 h3 st hcl
    subst h1; subst h2; subst h3
    exact Or.inr ⟨q, (T.setVm vm₁).calling g' mk (Value.ref b :: As).toArray, t, U', L, E, ce, hT, X', hL, e1, e2, hq, hce, hcv, vx_cls hW₁ hcl, st⟩
theorem vx_runS (S : CallFix p m c cc nL s args Ts own) (hM : vx_Met l y ws rm Pc Qc XC mc ms free) (cw : CallB R s args own index y bytes maxL ret ws rm mc ms n ∧ (Cond.static y).before args s = true) (hp : PreS s H Pc As)
    (hg : g.method = m) (hn : As.length = n) (hsize : g.locals.size = nL) (hstack : g.stack = As.reverse ++ rest) (hW : 2 * g.monitorRoom + (rest.map fun v => v.category).sum ≤ 8) (hdg : decode cc g.pc = .ok (.invokestatic index, 3)) (hf : cells + mc ≤ R.cells ∧ slots + ms ≤ R.slots) :
    vx_Run p l e R s m args below meth c H locs cells slots mc ms g rest (Qc As.toArray) XC free := by
  have hK : vx_Back l R p e below s args y 3 8 (PreOf R mc ms Pc) (PostOf Qc mc ms free) (vx_Post XC mc ms free) := vx_callBack cw.1 hM hp.1
  obtain ⟨⟨-, -, -, -, -, -, hcode, hini, hy, hlen, hl⟩, hstt⟩ := cw
  obtain ⟨hx, hb, hml, ho, -⟩ := S
  intro T hT X
  rcases vx_callS X hx (bytes := bytes) (maxL := maxL) (ret := ret) ho hl hstt hini hcode hy hK hg (hsize.trans hml.symm) (argsL := As) (rest := rest) (fun sig h => hn.trans (hlen sig h)) hstack hW (by rw [hb]; exact hdg)
    (fun vm₁ hW₁ => ⟨hf.1, hf.2, hp.2 (T.setVm vm₁) hT hW₁⟩) with ⟨v, vm₁, ⟨U', l2, c2, s2⟩, hW₁, X', ⟨g', mk, t, L, e1, e2, hq, h1, hL, h2, h3⟩, st⟩ | ⟨q, vm₁, ⟨U', l2, c2, s2⟩, hW₁, X', ⟨g', mk, t, L, E, ce, e1, e2, hq, hce, hcv, hcl, h1, hL, h2, h3⟩, st⟩
  · dsimp only [Pt.U, Pt.locs, Pt.cells, Pt.slots] at X' e1 e2 h1 h2 h3 st
    subst h1; subst h2; subst h3
    exact Or.inl ⟨v, (T.setVm vm₁).calling g' mk As.toArray, t, U', L, hT, X', hL, e1, e2, hq, st⟩
  · dsimp only [Pt.U, Pt.locs, Pt.cells, Pt.slots] at X' e1 e2 h1 h2 h3 st hcl
    subst h1; subst h2; subst h3
    exact Or.inr ⟨q, (T.setVm vm₁).calling g' mk As.toArray, t, U', L, E, ce, hT, X', hL, e1, e2, hq, hce, hcv, vx_cls hW₁ hcl, st⟩
end Runs
section Rows
variable {p : Program} {l : Launch} {e : Env} {R : Room} {s : State} {m : MethodId} {args : Array Value} {below : List Frame} {meth : Method} {c : Code} {H : Heap} {locs : List Loc} {cells slots : Nat} {Q : State → Prop}
variable {mc ms : Nat} {free : Addr → Prop} {A0 A1 : Nat → Prop} {H0 : Heap} {a : Array Value} {pc : Nat} {ls : Array Slot} {st0 rest : List Value}
theorem vx_keep {st₀ t T' : State} {L : List Loc} (h0 : st₀.heap = H) (e1 : T'.heap = t.heap) (hS : va_S A0 H0 H locs) (hA : ∀ q, q < H.size → A1 q → A0 q) (hf : ∀ q, free q → A0 q) (hL : ∀ q ∈ L, free q.base) (hF : va_F A1 st₀ t) :
    H.size ≤ T'.heap.size ∧ (∀ q : Nat, q < H.size → ¬ A1 q → T'.heap[q]? = H[q]?) ∧ va_S A0 H0 T'.heap (locs ++ L) := by
  obtain ⟨hz, hk⟩ := hF
  rw [h0] at hz hk
  exact ⟨by rw [e1]; exact hz, fun q h1 h2 => by rw [e1]; exact hk q h1 h2,
    ⟨Nat.le_trans hS.1 (by rw [e1]; exact hz), fun q h1 h2 => by rw [e1, hk q (Nat.lt_of_lt_of_le h1 hS.1) (fun z => h2 (hA q (Nat.lt_of_lt_of_le h1 hS.1) z))]; exact hS.2.1 q h1 h2, fun q hq => by
      rcases List.mem_append.mp hq with h | h
      · exact hS.2.2 q h
      · exact hf _ (hL q h)⟩⟩
theorem vx_calli {S SX : Type} {post : Int32 → S → Prop} {px : SX → Prop} {B : S → State → Prop} {BX : String → SX → State → Prop} {AX : Nat → Prop} (hr : vx_Run p l e R s m args below meth c H locs cells slots mc ms (F0 m pc ls st0) rest (va_Qi post B A1 a) (vx_X px BX AX) free) (hS : va_S A0 H0 H locs) (hA : ∀ q, q < H.size → A1 q → A0 q) (hf : ∀ q, free q → A0 q) (hAX : ∀ q, q < H.size → AX q → A0 q)
    (kx : ∀ (E : String) (ce : Cell) (q9 : Addr) (u : SX) (t : State) (H1 : Heap) (locs1 : List Loc), t.heap = H1 → s.vm.Alike t.vm → px u → BX E u t → H.size ≤ H1.size → (∀ q : Nat, q < H.size → ¬ AX q → H1[q]? = H[q]?) → va_S A0 H0 H1 locs1 → H1[q9]? = some ce → ce.vm = .none → s.vm.findClass E = some ce.cls → vx_W p l e R s m args below meth c H1 locs1 (cells + mc) (slots + ms) Q (F0 m pc ls rest) q9)
    (kk : ∀ (r : Int32) (u : S) (t : State) (H1 : Heap) (locs1 : List Loc), t.heap = H1 → s.vm.Alike t.vm → post r u → B u t → H.size ≤ H1.size → (∀ q : Nat, q < H.size → ¬ A1 q → H1[q]? = H[q]?) → va_S A0 H0 H1 locs1 → W p l e R s m args below meth c H1 locs1 (cells + mc) (slots + ms) Q (F0 m (pc + 3) ls (.int r :: rest))) : W p l e R s m args below meth c H locs cells slots Q (F0 m pc ls st0) := by
  intro T hT X
  rcases hr T hT X with ⟨v, st₀, t, T', L, h0, X', hL, e1, e2, ⟨⟨r, u, hv, hp, hb⟩, hF⟩, st⟩ | ⟨q, st₀, t, T', L, E, ce, h0, X', hL, e1, e2, ⟨u, hp, hb, hF⟩, hce, hcv, hcl, st⟩
  · cases hv
    obtain ⟨k1, k2, k3⟩ := vx_keep h0 e1 hS hA hf hL hF
    obtain ⟨t2, a1, b1⟩ := kk r u t T'.heap (locs ++ L) e1.symm (by rw [← e2]; exact X'.warmed.alike) hp hb k1 k2 k3 T' rfl X'
    exact ⟨t2, st t2 a1, b1⟩
  · obtain ⟨k1, k2, k3⟩ := vx_keep h0 e1 hS hAX hf hL hF
    obtain ⟨t2, a1, b1⟩ := kx E ce q u t T'.heap (locs ++ L) e1.symm (by rw [← e2]; exact X'.warmed.alike) hp hb k1 k2 k3 (by rw [e1]; exact hce) hcv hcl T' rfl X'
    exact ⟨t2, st.trans a1, b1⟩
theorem vx_calll {S SX : Type} {post : Int64 → S → Prop} {px : SX → Prop} {B : S → State → Prop} {BX : String → SX → State → Prop} {AX : Nat → Prop} (hr : vx_Run p l e R s m args below meth c H locs cells slots mc ms (F0 m pc ls st0) rest (va_Ql post B A1 a) (vx_X px BX AX) free) (hS : va_S A0 H0 H locs) (hA : ∀ q, q < H.size → A1 q → A0 q) (hf : ∀ q, free q → A0 q) (hAX : ∀ q, q < H.size → AX q → A0 q)
    (kx : ∀ (E : String) (ce : Cell) (q9 : Addr) (u : SX) (t : State) (H1 : Heap) (locs1 : List Loc), t.heap = H1 → s.vm.Alike t.vm → px u → BX E u t → H.size ≤ H1.size → (∀ q : Nat, q < H.size → ¬ AX q → H1[q]? = H[q]?) → va_S A0 H0 H1 locs1 → H1[q9]? = some ce → ce.vm = .none → s.vm.findClass E = some ce.cls → vx_W p l e R s m args below meth c H1 locs1 (cells + mc) (slots + ms) Q (F0 m pc ls rest) q9)
    (kk : ∀ (r : Int64) (u : S) (t : State) (H1 : Heap) (locs1 : List Loc), t.heap = H1 → s.vm.Alike t.vm → post r u → B u t → H.size ≤ H1.size → (∀ q : Nat, q < H.size → ¬ A1 q → H1[q]? = H[q]?) → va_S A0 H0 H1 locs1 → W p l e R s m args below meth c H1 locs1 (cells + mc) (slots + ms) Q (F0 m (pc + 3) ls (.long r :: rest))) : W p l e R s m args below meth c H locs cells slots Q (F0 m pc ls st0) := by
  intro T hT X
  rcases hr T hT X with ⟨v, st₀, t, T', L, h0, X', hL, e1, e2, ⟨⟨r, u, hv, hp, hb⟩, hF⟩, st⟩ | ⟨q, st₀, t, T', L, E, ce, h0, X', hL, e1, e2, ⟨u, hp, hb, hF⟩, hce, hcv, hcl, st⟩
  · cases hv
    obtain ⟨k1, k2, k3⟩ := vx_keep h0 e1 hS hA hf hL hF
    obtain ⟨t2, a1, b1⟩ := kk r u t T'.heap (locs ++ L) e1.symm (by rw [← e2]; exact X'.warmed.alike) hp hb k1 k2 k3 T' rfl X'
    exact ⟨t2, st t2 a1, b1⟩
  · obtain ⟨k1, k2, k3⟩ := vx_keep h0 e1 hS hAX hf hL hF
    obtain ⟨t2, a1, b1⟩ := kx E ce q u t T'.heap (locs ++ L) e1.symm (by rw [← e2]; exact X'.warmed.alike) hp hb k1 k2 k3 (by rw [e1]; exact hce) hcv hcl T' rfl X'
    exact ⟨t2, st.trans a1, b1⟩
theorem vx_callf {S SX : Type} {post : UInt32 → S → Prop} {px : SX → Prop} {B : S → State → Prop} {BX : String → SX → State → Prop} {AX : Nat → Prop} (hr : vx_Run p l e R s m args below meth c H locs cells slots mc ms (F0 m pc ls st0) rest (va_Qf post B A1 a) (vx_X px BX AX) free) (hS : va_S A0 H0 H locs) (hA : ∀ q, q < H.size → A1 q → A0 q) (hf : ∀ q, free q → A0 q) (hAX : ∀ q, q < H.size → AX q → A0 q)
    (kx : ∀ (E : String) (ce : Cell) (q9 : Addr) (u : SX) (t : State) (H1 : Heap) (locs1 : List Loc), t.heap = H1 → s.vm.Alike t.vm → px u → BX E u t → H.size ≤ H1.size → (∀ q : Nat, q < H.size → ¬ AX q → H1[q]? = H[q]?) → va_S A0 H0 H1 locs1 → H1[q9]? = some ce → ce.vm = .none → s.vm.findClass E = some ce.cls → vx_W p l e R s m args below meth c H1 locs1 (cells + mc) (slots + ms) Q (F0 m pc ls rest) q9)
    (kk : ∀ (r : UInt32) (u : S) (t : State) (H1 : Heap) (locs1 : List Loc), t.heap = H1 → s.vm.Alike t.vm → post r u → B u t → H.size ≤ H1.size → (∀ q : Nat, q < H.size → ¬ A1 q → H1[q]? = H[q]?) → va_S A0 H0 H1 locs1 → W p l e R s m args below meth c H1 locs1 (cells + mc) (slots + ms) Q (F0 m (pc + 3) ls (.float r :: rest))) : W p l e R s m args below meth c H locs cells slots Q (F0 m pc ls st0) := by
  intro T hT X
  rcases hr T hT X with ⟨v, st₀, t, T', L, h0, X', hL, e1, e2, ⟨⟨r, u, hv, hp, hb⟩, hF⟩, st⟩ | ⟨q, st₀, t, T', L, E, ce, h0, X', hL, e1, e2, ⟨u, hp, hb, hF⟩, hce, hcv, hcl, st⟩
  · cases hv
    obtain ⟨k1, k2, k3⟩ := vx_keep h0 e1 hS hA hf hL hF
    obtain ⟨t2, a1, b1⟩ := kk r u t T'.heap (locs ++ L) e1.symm (by rw [← e2]; exact X'.warmed.alike) hp hb k1 k2 k3 T' rfl X'
    exact ⟨t2, st t2 a1, b1⟩
  · obtain ⟨k1, k2, k3⟩ := vx_keep h0 e1 hS hAX hf hL hF
    obtain ⟨t2, a1, b1⟩ := kx E ce q u t T'.heap (locs ++ L) e1.symm (by rw [← e2]; exact X'.warmed.alike) hp hb k1 k2 k3 (by rw [e1]; exact hce) hcv hcl T' rfl X'
    exact ⟨t2, st.trans a1, b1⟩
theorem vx_calld {S SX : Type} {post : UInt64 → S → Prop} {px : SX → Prop} {B : S → State → Prop} {BX : String → SX → State → Prop} {AX : Nat → Prop} (hr : vx_Run p l e R s m args below meth c H locs cells slots mc ms (F0 m pc ls st0) rest (va_Qd post B A1 a) (vx_X px BX AX) free) (hS : va_S A0 H0 H locs) (hA : ∀ q, q < H.size → A1 q → A0 q) (hf : ∀ q, free q → A0 q) (hAX : ∀ q, q < H.size → AX q → A0 q)
    (kx : ∀ (E : String) (ce : Cell) (q9 : Addr) (u : SX) (t : State) (H1 : Heap) (locs1 : List Loc), t.heap = H1 → s.vm.Alike t.vm → px u → BX E u t → H.size ≤ H1.size → (∀ q : Nat, q < H.size → ¬ AX q → H1[q]? = H[q]?) → va_S A0 H0 H1 locs1 → H1[q9]? = some ce → ce.vm = .none → s.vm.findClass E = some ce.cls → vx_W p l e R s m args below meth c H1 locs1 (cells + mc) (slots + ms) Q (F0 m pc ls rest) q9)
    (kk : ∀ (r : UInt64) (u : S) (t : State) (H1 : Heap) (locs1 : List Loc), t.heap = H1 → s.vm.Alike t.vm → post r u → B u t → H.size ≤ H1.size → (∀ q : Nat, q < H.size → ¬ A1 q → H1[q]? = H[q]?) → va_S A0 H0 H1 locs1 → W p l e R s m args below meth c H1 locs1 (cells + mc) (slots + ms) Q (F0 m (pc + 3) ls (.double r :: rest))) : W p l e R s m args below meth c H locs cells slots Q (F0 m pc ls st0) := by
  intro T hT X
  rcases hr T hT X with ⟨v, st₀, t, T', L, h0, X', hL, e1, e2, ⟨⟨r, u, hv, hp, hb⟩, hF⟩, st⟩ | ⟨q, st₀, t, T', L, E, ce, h0, X', hL, e1, e2, ⟨u, hp, hb, hF⟩, hce, hcv, hcl, st⟩
  · cases hv
    obtain ⟨k1, k2, k3⟩ := vx_keep h0 e1 hS hA hf hL hF
    obtain ⟨t2, a1, b1⟩ := kk r u t T'.heap (locs ++ L) e1.symm (by rw [← e2]; exact X'.warmed.alike) hp hb k1 k2 k3 T' rfl X'
    exact ⟨t2, st t2 a1, b1⟩
  · obtain ⟨k1, k2, k3⟩ := vx_keep h0 e1 hS hAX hf hL hF
    obtain ⟨t2, a1, b1⟩ := kx E ce q u t T'.heap (locs ++ L) e1.symm (by rw [← e2]; exact X'.warmed.alike) hp hb k1 k2 k3 (by rw [e1]; exact hce) hcv hcl T' rfl X'
    exact ⟨t2, st.trans a1, b1⟩
theorem vx_callv {S SX : Type} {post : S → Prop} {px : SX → Prop} {B : S → State → Prop} {BX : String → SX → State → Prop} {AX : Nat → Prop} (hr : vx_Run p l e R s m args below meth c H locs cells slots mc ms (F0 m pc ls st0) rest (va_Qv post B A1 a) (vx_X px BX AX) free) (hS : va_S A0 H0 H locs) (hA : ∀ q, q < H.size → A1 q → A0 q) (hf : ∀ q, free q → A0 q) (hAX : ∀ q, q < H.size → AX q → A0 q)
    (kx : ∀ (E : String) (ce : Cell) (q9 : Addr) (u : SX) (t : State) (H1 : Heap) (locs1 : List Loc), t.heap = H1 → s.vm.Alike t.vm → px u → BX E u t → H.size ≤ H1.size → (∀ q : Nat, q < H.size → ¬ AX q → H1[q]? = H[q]?) → va_S A0 H0 H1 locs1 → H1[q9]? = some ce → ce.vm = .none → s.vm.findClass E = some ce.cls → vx_W p l e R s m args below meth c H1 locs1 (cells + mc) (slots + ms) Q (F0 m pc ls rest) q9)
    (kk : ∀ (u : S) (t : State) (H1 : Heap) (locs1 : List Loc), t.heap = H1 → s.vm.Alike t.vm → post u → B u t → H.size ≤ H1.size → (∀ q : Nat, q < H.size → ¬ A1 q → H1[q]? = H[q]?) → va_S A0 H0 H1 locs1 → W p l e R s m args below meth c H1 locs1 (cells + mc) (slots + ms) Q (F0 m (pc + 3) ls (rest))) : W p l e R s m args below meth c H locs cells slots Q (F0 m pc ls st0) := by
  intro T hT X
  rcases hr T hT X with ⟨v, st₀, t, T', L, h0, X', hL, e1, e2, ⟨⟨u, hv, hp, hb⟩, hF⟩, st⟩ | ⟨q, st₀, t, T', L, E, ce, h0, X', hL, e1, e2, ⟨u, hp, hb, hF⟩, hce, hcv, hcl, st⟩
  · cases hv
    obtain ⟨k1, k2, k3⟩ := vx_keep h0 e1 hS hA hf hL hF
    obtain ⟨t2, a1, b1⟩ := kk u t T'.heap (locs ++ L) e1.symm (by rw [← e2]; exact X'.warmed.alike) hp hb k1 k2 k3 T' rfl X'
    exact ⟨t2, st t2 a1, b1⟩
  · obtain ⟨k1, k2, k3⟩ := vx_keep h0 e1 hS hAX hf hL hF
    obtain ⟨t2, a1, b1⟩ := kx E ce q u t T'.heap (locs ++ L) e1.symm (by rw [← e2]; exact X'.warmed.alike) hp hb k1 k2 k3 (by rw [e1]; exact hce) hcv hcl T' rfl X'
    exact ⟨t2, st.trans a1, b1⟩
/-- caught by the row x of this method's table; the rows ahead don't take it -/
theorem vx_catch {own name : String} {E : String} {ce : Cell} {q : Addr} (hown : s.vm.findClass own = some m.cls) (pre : List ExceptionTableEntry) (x : ExceptionTableEntry) (suf : List ExceptionTableEntry) (hsplit : c.exceptionTable.toList = pre ++ x :: suf)
    (hpass : ∀ z ∈ pre, covers z pc = false ∨ (z.catchType ≠ 0 ∧ ∃ nm : String, (Cond.classLink own z.catchType nm).before args s = true ∧ va_Nc E nm s)) (hx : covers x pc = true) (h0 : x.catchType ≠ 0)
    (hlink : (Cond.classLink own x.catchType name).before args s = true) (hcast : (Cond.castable E name).before args s = true) (hcell : H[q]? = some ce) (hv : ce.vm = .none) (hcl : s.vm.findClass E = some ce.cls)
    (kk : W p l e R s m args below meth c H locs cells slots Q (F0 m x.handlerPc ls [.ref q])) : vx_W p l e R s m args below meth c H locs cells slots Q (F0 m pc ls rest) q := by
  intro T hT X
  have hpl : e.platform.magicAccessors = ({} : Platform).magicAccessors := by rw [X.admits.platform]
  obtain ⟨c3, c4, hc3, hc4, hasg⟩ := Cond.castable_spec hcast
  cases Option.some.inj (hc3.symm.trans hcl)
  obtain ⟨c5, hc5, hcl5⟩ := Cond.classLink_spec hown hlink e.platform hpl
  cases Option.some.inj (hc4.symm.trans hc5)
  obtain ⟨vm', X', st⟩ := X.thenCaughtThrough q (g := F0 m pc ls rest) rfl (Steps.refl _) (by rw [hT]; exact hcell) (by rw [hv]; rfl) (by obtain ⟨k9, h9, -⟩ := Vm.findClass_spec hcl; exact ⟨k9, h9⟩) pre x suf hsplit
    (fun z hz => by
      rcases hpass z hz with h | ⟨hz0, nm, hl1, hn1⟩
      · exact Or.inl h
      · obtain ⟨c6, hc6, hcl6⟩ := Cond.classLink_spec hown hl1 e.platform hpl
        obtain ⟨a8, b8, h1, h2, h3⟩ := hn1
        cases Option.some.inj (h1.symm.trans hcl)
        cases Option.some.inj (h2.symm.trans hc6)
        exact Or.inr ⟨hz0, _, hcl6, h3⟩) hx (Or.inr ⟨h0, c4, hcl5, hasg⟩)
  obtain ⟨t, a1, b1⟩ := kk (T.setVm vm') hT X'
  exact ⟨t, st.trans a1, b1⟩
end Rows
section Ends
variable {p : Program} {l : Launch} {e : Env} {R : Room} {s : State} {m : MethodId} {args : Array Value} {below : List Frame} {meth : Method} {c : Code} {H : Heap} {locs : List Loc} {cells slots : Nat} {Q : State → Prop}
variable {mc ms : Nat} {free : Addr → Prop} {A0 A1 : Nat → Prop} {H0 : Heap} {a : Array Value} {ls : Array Slot} {st0 rest : List Value}
variable {Qc : Array Value → State → Outcome → State → Prop} {XC : String → State → State → Prop}
/-- what a body that may throw owes at its end -/
def vx_MQ (below : List Frame) (Qc : Array Value → State → Outcome → State → Prop) (XC : String → State → State → Prop) (a : Array Value) (s : State) (mc ms : Nat) (free : Addr → Prop) : State → Prop := fun t =>
  ∃ o, t.status = .running ∧ Ended t below o ∧ vx_Q Qc XC mc ms free a s o t
theorem vx_ret {g : JFrame} {mc ms : Nat} (k : W p l e R s m args below meth c H locs cells slots (MQ below Qc args s mc ms free) g) : W p l e R s m args below meth c H locs cells slots (vx_MQ below Qc XC args s mc ms free) g := by
  intro T hT X
  obtain ⟨t, a1, o, b1, b2, b3, b4⟩ := k T hT X
  exact ⟨t, a1, o, b1, b2, Or.inl ⟨b3, b4⟩⟩
/-- not caught here: it goes on to the caller -/
theorem vx_widen {g : JFrame} {q : Addr} {k n : Nat} (h1 : cells ≤ k) (h2 : slots ≤ n) (kk : vx_W p l e R s m args below meth c H locs k n Q g q) : vx_W p l e R s m args below meth c H locs cells slots Q g q := fun T hT X => kk T hT (stand_widen X h1 h2)
theorem vx_out {pc : Nat} {E : String} {ce : Cell} {q : Addr} {mc ms : Nat} (hout : ∀ x ∈ c.exceptionTable.toList, covers x pc = false) (hlocks : meth.locks = false) (hcell : H[q]? = some ce) (hv : ce.vm = .none) (hcl : s.vm.findClass E = some ce.cls)
    (hx : ∀ t : State, t.heap = H → s.vm.Alike t.vm → XC E s t) (hf : ∀ z ∈ locs, free z.base) (hc : cells ≤ mc) (hs : slots ≤ ms) :
    vx_W p l e R s m args below meth c H locs cells slots (vx_MQ below Qc XC args s mc ms free) (F0 m pc ls rest) q := by
  intro T hT X
  obtain ⟨st1, hrun, hend, hW, hsm⟩ := X.leaveThrown q (g := F0 m pc ls rest) rfl rfl rfl hout hlocks
  have hcell9 : (T.setFrames (.throwing q :: below)).heap[q]? = some ce := by
    show T.heap[q]? = some ce
    rw [hT]; exact hcell
  exact ⟨_, st1, .threw q, hrun, hend, Or.inr ⟨q, rfl, E, ce, locs, hx _ hT hW.alike, hcell9, hv, hcl, hW, hsm.mono hc hs, hf⟩⟩
theorem vx_frame {U : State} {k n : Nat} (h : s.sameButNew ({ U with vm := s.vm } : State) locs k n) : s.heap.size ≤ U.heap.size ∧ ∀ q : Nat, q < s.heap.size → (∀ z ∈ locs, z.base ≠ q) → U.heap[q]? = s.heap[q]? := by
  obtain ⟨-, h2, -, -, -, h6⟩ := h
  refine ⟨h2, fun q hq hz => ?_⟩
  obtain ⟨c9, e1, e2, e3, e4⟩ := h6 q _ (Array.getElem?_eq_getElem hq)
  have hs : c9.slots = (s.heap[q]).slots := Array.ext_getElem? fun i => e4 i fun hm => hz _ hm rfl
  have h9 : c9 = s.heap[q] := by
    rw [hs] at e2
    exact e2
  have e5 : U.heap[q]? = some c9 := e1
  rw [e5, h9, Array.getElem?_eq_getElem hq]
/-- the words of a throw but the four that speak of the heap -/
def vx_no (w : Cond) : Bool := decide (w ≠ .isRef (.static Bundle.tN "UNASSIGNED_STACK" Bundle.steD)) && decide (w ≠ .isRef (.static Bundle.tN "SUPPRESSED_SENTINEL" Bundle.listD)) && decide (w ≠ .laysStatic Bundle.tN "UNASSIGNED_STACK" Bundle.steD) && decide (w ≠ .laysStatic Bundle.tN "SUPPRESSED_SENTINEL" Bundle.listD)
def vx_at0 (own : String) (ic : Nat) (X : String) (names : List String) : List Cond := (Bundle.ownAtoms0 own ic X names).filter vx_no
def vx_atS (own : String) (ic : Nat) (X : String) (names : List String) : List Cond := (Bundle.ownAtoms own ic X names).filter vx_no
/-- a word that the tables alone decide, or a good one -/
def vx_ot (w : Cond) : Bool := w.onTables || goodWord w
theorem vx_ot_at {args a' : Array Value} {s U : State} {w : Cond} (hW : s.WarmedH U.vm) (hvm : s.vm = U.vm) (hg : vx_ot w = true) (h : w.before args s = true) : w.before a' U = true := by
  simp only [vx_ot, Bool.or_eq_true] at hg
  rcases hg with hg | hg
  · exact va_tabs hg hvm h
  · exact word_at hW (good_of_word hg) h
/-- a list's words: the good ones out of the method's own list, the others by premises of their own -/
theorem vx_hat {args : Array Value} {s : State} {L B : List Cond} (h1 : ∀ w ∈ L.filter goodWord, w.before args s = true) (h2 : ∀ w ∈ L.filter (fun w => !goodWord w), w ∈ B) (h3 : ∀ w ∈ B, w.before args s = true) : ∀ w ∈ L, w.before args s = true := by
  intro w hw
  by_cases g : goodWord w = true
  · exact h1 w (List.mem_filter.mpr ⟨hw, g⟩)
  · refine h3 w (h2 w (List.mem_filter.mpr ⟨hw, ?_⟩))
    show (!goodWord w) = true
    cases hgw : goodWord w
    · rfl
    · exact absurd hgw g
theorem vx_c {args : Array Value} {s : State} {w : Cond} {B : List Cond} (h : w.before args s = true) (t : ∀ w ∈ B, w.before args s = true) : ∀ w' ∈ w :: B, w'.before args s = true := fun w' h' => (List.mem_cons.mp h').elim (fun e => by rw [e]; exact h) (t w')
theorem vx_n {args : Array Value} {s : State} : ∀ w ∈ ([] : List Cond), w.before args s = true := fun _ h => nomatch h
theorem vx_own {args : Array Value} {s : State} {L : List Cond} (h1 : ∀ w ∈ L.filter vx_no, w.before args s = true)
    (hU : (Cond.isRef (.static Bundle.tN "UNASSIGNED_STACK" Bundle.steD)).before args s = true) (hN : (Cond.isRef (.static Bundle.tN "SUPPRESSED_SENTINEL" Bundle.listD)).before args s = true)
    (lU : (Cond.laysStatic Bundle.tN "UNASSIGNED_STACK" Bundle.steD).before args s = true) (lN : (Cond.laysStatic Bundle.tN "SUPPRESSED_SENTINEL" Bundle.listD).before args s = true) : ∀ w ∈ L, w.before args s = true := by
  intro w hw
  by_cases e1 : w = .isRef (.static Bundle.tN "UNASSIGNED_STACK" Bundle.steD)
  · rw [e1]; exact hU
  · by_cases e2 : w = .isRef (.static Bundle.tN "SUPPRESSED_SENTINEL" Bundle.listD)
    · rw [e2]; exact hN
    · by_cases e3 : w = .laysStatic Bundle.tN "UNASSIGNED_STACK" Bundle.steD
      · rw [e3]; exact lU
      · by_cases e4 : w = .laysStatic Bundle.tN "SUPPRESSED_SENTINEL" Bundle.listD
        · rw [e4]; exact lN
        · exact h1 w (List.mem_filter.mpr ⟨hw, by unfold vx_no; rw [decide_eq_true e1, decide_eq_true e2, decide_eq_true e3, decide_eq_true e4]; rfl⟩)
/-- where a static field lies, its class's statics cell in H -/
def vx_L (C n d : String) (A : Nat → Prop) (U : State) (H : Heap) : Prop := ∃ (c : ClassId) (k : Class) (i : Nat) (f : Field) (a : Nat) (cell : Cell), U.vm.findClass C = some c ∧ U.fieldFound? C n d = some (c, k, i, f) ∧ f.isStatic = true ∧ k.statics = some a ∧ H[a]? = some cell ∧ cell.vm.isStatics = true ∧ cell.cls = c ∧ f.slot < cell.slots.size ∧ k.staticTypes[f.slot]? = some f.type ∧ ¬ A a
theorem vx_L.moved {C n d : String} {A : Nat → Prop} {u U : State} {H : Heap} (hvm : u.vm.Alike U.vm) (h : vx_L C n d A u H) : vx_L C n d A U H := by
  obtain ⟨c, k, i, f, a, cell, h1, h2, h3, h4, h5, h6, h7, h8, h9, h10⟩ := h
  obtain ⟨k', hi', he⟩ := State.fieldFound?_setVm hvm h2
  exact ⟨c, k', i, f, a, cell, by rw [hvm.findClass]; exact h1, hi', h3, by rw [he]; exact h4, h5, h6, h7, h8, by rw [he]; exact h9, h10⟩
theorem vx_L.kept {C n d : String} {A : Nat → Prop} {U : State} {H H1 : Heap} (h : vx_L C n d A U H) (hq : ∀ a : Nat, a < H.size → ¬ A a → H1[a]? = H[a]?) : vx_L C n d A U H1 := by
  obtain ⟨c, k, i, f, a, cell, h1, h2, h3, h4, h5, h6, h7, h8, h9, h10⟩ := h
  exact ⟨c, k, i, f, a, cell, h1, h2, h3, h4, by rw [hq a (Array.getElem?_eq_some_iff.mp h5).1 h10]; exact h5, h6, h7, h8, h9, h10⟩
theorem vx_L.narrow {C n d : String} {A B : Nat → Prop} {U : State} {H : Heap} (h : vx_L C n d A U H) (hAB : ∀ q, B q → A q) : vx_L C n d B U H := by
  obtain ⟨c, k, i, f, a, cell, h1, h2, h3, h4, h5, h6, h7, h8, h9, h10⟩ := h
  exact ⟨c, k, i, f, a, cell, h1, h2, h3, h4, h5, h6, h7, h8, h9, fun z => h10 (hAB _ z)⟩
theorem vx_L.word {C n d : String} {A : Nat → Prop} {s : State} {args : Array Value} (h : vx_L C n d A s s.heap) : (Cond.laysStatic C n d).before args s = true := by
  obtain ⟨c, k, i, f, a, cell, h1, h2, h3, h4, h5, h6, h7, h8, h9, -⟩ := h
  show (Cond.laysStatic C n d).holds args s none s [] = true
  exact Cond.laysStatic_of h1 h2 h3 h4 h5 h6 h7 h8 h9
/-- .. and what it holds: null or some reference -/
def vx_Zq (C n d : String) (A : Nat → Prop) (U : State) (H : Heap) : Prop := va_Zq C n d A U H ∧ vx_L C n d A U H
theorem vx_Zq.moved {C n d : String} {A : Nat → Prop} {u U : State} {H : Heap} (hvm : u.vm.Alike U.vm) (h : vx_Zq C n d A u H) : vx_Zq C n d A U H := ⟨va_Zq.moved hvm h.1, vx_L.moved hvm h.2⟩
theorem vx_Zq.kept {C n d : String} {A : Nat → Prop} {U : State} {H H1 : Heap} (h : vx_Zq C n d A U H) (hq : ∀ a : Nat, a < H.size → ¬ A a → H1[a]? = H[a]?) : vx_Zq C n d A U H1 := ⟨va_Zq.kept h.1 hq, vx_L.kept h.2 hq⟩
theorem vx_Zq.narrow {C n d : String} {A B : Nat → Prop} {U : State} {H : Heap} (h : vx_Zq C n d A U H) (hAB : ∀ q, B q → A q) : vx_Zq C n d B U H := ⟨va_Zq.narrow h.1 hAB, vx_L.narrow h.2 hAB⟩
theorem vx_Zqof {args : Array Value} {s : State} {C n d : String} {A : Nat → Prop} (hl : (Cond.laysStatic C n d).before args s = true) (hini : (Cond.initialized C).before args s = true) (h : (Cond.isRef (.static C n d)).before args s = true) (hA : ∀ a : Nat, a < s.heap.size → ¬ A a) : vx_Zq C n d A s s.heap := by
  refine ⟨va_Zqof hl hini h hA, ?_⟩
  obtain ⟨c, k, i, f, a, cell, h1, h2, h3, h4, h5, h6, h7, h8, h9⟩ := Cond.laysStatic_spec hl
  exact ⟨c, k, i, f, a, cell, h1, h2, h3, h4, h5, h6, h7, h8, h9, hA a (Array.getElem?_eq_some_iff.mp h5).1⟩
theorem vx_isRef {C n d : String} {v : Value} {A : Nat → Prop} {s : State} {args : Array Value} (h : va_Z C n d v A s s.heap) (hv : v.isRef = true) : (Cond.isRef (.static C n d)).before args s = true := by
  obtain ⟨cf, kf, fi, f, a, cell, h1, h2, h3, h4, h5, h6, h7, -⟩ := h
  have he : (Term.static C n d).eval args s none [] s = some v := by
    simp [Term.eval, State.fieldNamed?, h1, h2, h4, h5, h6, h7]
  simp only [Cond.before, Cond.holds, Cond.value, he]
  cases v <;> simp_all [Value.isRef]
theorem vx_isRefq {C n d : String} {A : Nat → Prop} {s : State} {args : Array Value} (h : va_Zq C n d A s s.heap) : (Cond.isRef (.static C n d)).before args s = true := by
  rcases h with h | ⟨t, h⟩
  · exact vx_isRef h rfl
  · exact vx_isRef h rfl
/-- the same frame, seen from here: as if the method were called anew in this heap -/
theorem vx_rebase {T : State} (X : Stand p l e R s m args below meth c T locs cells slots) {R' : Room} (hf : R'.frames ≤ R.frames) (hl : R'.locals ≤ R.locals) (hc : cells + R'.cells ≤ R.cells) (hs : slots + R'.slots ≤ R.slots) :
    Stand p l e R' ((T.setVm s.vm).setFrames (.invoking m args :: below)) m args below meth c T [] 0 0 := by
  have htop : (T.setVm s.vm).topJava?.isSome := X.here.top
  have hF : ((T.setVm s.vm).setFrames (.invoking m args :: below)).frames = .invoking m args :: below := State.frames_setFrames _ (State.cur_lt_of_top htop)
  obtain ⟨g₀, hg0⟩ := Option.isSome_iff_exists.mp htop
  obtain ⟨r, hr⟩ := State.topJava?_eq_some.mp hg0
  have hl9 : e.platform.stackLimits (T.setVm s.vm).me = e.platform.stackLimits s.me := X.limits
  have hb9 : (T.setVm s.vm).me.stackBytes = s.me.stackBytes := X.bytes
  refine ⟨X.admits, X.cas, X.clock, hF, ?_, X.hears, X.method, X.code, X.here, X.tail, X.warmed, ?_, ?_, ?_⟩
  · have h := X.room
    have hU : ((T.setVm s.vm).setFrames (.invoking m args :: below)).localsInUse = s.localsInUse := by
      rw [State.localsInUse_invoking hF (meth := meth) (c := c) X.method X.code, State.localsInUse_invoking X.frames X.method X.code]
    simp only [State.hasRoom, Bool.and_eq_true, decide_eq_true_eq] at h ⊢
    obtain ⟨⟨⟨⟨h1, h2, h3, h4, h5, h6⟩, h7⟩, h8⟩, h9⟩ := h
    rw [X.frames, List.length_cons] at h2 h3
    have q1 := X.heapSize
    have q2 := X.used
    simp only [hF, hU, List.length_cons, State.stackLimits_setFrames, State.stackBytes_setFrames, hl9, hb9]
    refine ⟨⟨⟨⟨by omega, by omega, by omega, by omega, by omega, h6⟩, ?_⟩, ?_⟩, X.book⟩
    · show T.heap.size + R'.cells ≤ e.platform.maxCells
      omega
    · show T.slotsUsed + R'.slots ≤ e.platform.maxSlots
      omega
  · rw [State.stackLimits_setFrames]; rfl
  · rw [State.stackBytes_setFrames]; rfl
  · refine ⟨?_, Nat.le_refl _, Nat.le_refl _, ?_, ?_, fun a c9 h9 => ⟨c9, h9, rfl, rfl, fun _ _ => rfl⟩⟩
    · obtain ⟨t, ht, -⟩ := State.frames_cons hr
      show T.setVm s.vm = { ((T.setVm s.vm).setFrames (.invoking m args :: below)).setFrames (T.setVm s.vm).frames with heap := T.heap, slotsUsed := T.slotsUsed }
      rw [State.setFrames_setFrames, State.setFrames_self ht]
      rfl
    · show T.slotsUsed = T.slotsUsed + ((T.heap.toList.drop T.heap.size).map (·.slots.size)).sum
      rw [List.drop_eq_nil_of_le (Nat.le_of_eq Array.length_toList)]
      rfl
    · show ((T.heap.toList.drop T.heap.size).map (·.slots.size)).sum ≤ 0
      rw [List.drop_eq_nil_of_le (Nat.le_of_eq Array.length_toList)]
      exact Nat.le_refl _
/-- 'throw new E()': new; dup; invokespecial; athrow -/
theorem vx_throw0 {cc : ByteArray} {pc : Nat} (hexec : p.tables.exec = Jvm.exec) (hb : c.code = cc) (hl : l.stackTraces = false) {own cls : String} {names : List String} {ik ic mc ms : Nat} {A : Nat → Prop}
    (hown : s.vm.findClass own = some m.cls) (hcls : Bundle.fit cls = true) (hnames : ∀ n ∈ names, Bundle.fit n = true)
    (hk : (Cond.classLink own ik cls).before args s = true) (hini : (Cond.initialized cls).before args s = true) (hat : ∀ w ∈ vx_at0 own ic cls names, w.before args s = true)
    (hgood : ∀ w ∈ Cond.classLink own ik cls :: Cond.initialized cls :: vx_at0 own ic cls names, vx_ot w = true)
    (hU : vx_Zq Bundle.tN "UNASSIGNED_STACK" Bundle.steD A s s.heap) (hN : vx_Zq Bundle.tN "SUPPRESSED_SENTINEL" Bundle.listD A s s.heap) (hS : va_S A s.heap H locs) (hsize : ls.size = c.maxLocals)
    (d0 : decode cc pc = .ok (.new ik, 3)) (d3 : decode cc (pc + 3) = .ok (.dup, 1)) (d4 : decode cc (pc + 4) = .ok (.invokespecial ic, 3)) (d7 : decode cc (pc + 7) = .ok (.athrow, 1))
    (hout : ∀ x ∈ c.exceptionTable.toList, covers x (pc + 7) = false)
    (hRframes : names.length + 3 < R.frames) (hRlocals : (rest.map fun v => v.category).sum + (13 * (names.length + 1) + 42) ≤ R.locals) (hRcells : cells + 1 ≤ R.cells) (hRslots : slots + 6 ≤ R.slots) (hlocks : meth.locks = false)
    (hx : ∀ t : State, s.vm.Alike t.vm → H.size ≤ t.heap.size → (∀ q : Nat, q < H.size → t.heap[q]? = H[q]?) → XC cls s t)
    (hf : ∀ z ∈ locs, free z.base) (hc : cells + 1 ≤ mc) (hs : slots + 6 ≤ ms) :
    W p l e R s m args below meth c H locs cells slots (vx_MQ below Qc XC args s mc ms free) (F0 m pc ls rest) := by
  intro T hT X
  have htr : e.platform.stackTraces = false := (show e.platform.stackTraces = l.stackTraces by rw [X.admits.platform]).trans hl
  have Y := vx_rebase X (R' := { frames := R.frames, locals := R.locals, cells := 1, slots := 6 }) (Nat.le_refl _) (Nat.le_refl _) hRcells hRslots
  obtain ⟨s', hA⟩ : ∃ z, z = (T.setVm s.vm).setFrames (.invoking m args :: below) := ⟨_, rfl⟩
  rw [← hA] at Y
  have hvm : s'.vm = s.vm := by rw [hA]; rfl
  have hhp : s'.heap = H := by rw [hA]; exact hT
  have hW0 : s.WarmedH s'.vm := by rw [hvm]; exact State.WarmedH.refl s
  have hat' : ∀ w ∈ vx_at0 own ic cls names, w.before args s' = true := fun w hw => vx_ot_at hW0 hvm.symm (hgood w (List.mem_cons_of_mem _ (List.mem_cons_of_mem _ hw))) (hat w hw)
  have hk' : (Cond.classLink own ik cls).before args s' = true := vx_ot_at hW0 hvm.symm (hgood _ List.mem_cons_self) hk
  have hini' : (Cond.initialized cls).before args s' = true := vx_ot_at hW0 hvm.symm (hgood _ (List.mem_cons_of_mem _ List.mem_cons_self)) hini
  have hU' : vx_Zq Bundle.tN "UNASSIGNED_STACK" Bundle.steD A s' s'.heap := by rw [hhp]; exact vx_Zq.moved hW0.alike (hU.kept hS.2.1)
  have hN' : vx_Zq Bundle.tN "SUPPRESSED_SENTINEL" Bundle.listD A s' s'.heap := by rw [hhp]; exact vx_Zq.moved hW0.alike (hN.kept hS.2.1)
  have h : ∀ w ∈ Bundle.ownAtoms0 own ic cls names, w.before args s' = true := vx_own hat' (vx_isRefq hU'.1) (vx_isRefq hN'.1) hU'.2.word hN'.2.word
  have hown' : s'.vm.findClass own = some m.cls := by rw [hvm]; exact hown
  have hins : (Cond.instantiable cls 6).before args s' = true := h _ (by simp [Bundle.ownAtoms0])
  obtain ⟨vm₁, cX, kX, hfX, hkX, -, -, X₁, st1⟩ := Y.newCold hexec (own := own) (C := cls) (index := ik) (n := 6) hown' hk' hins hini'
    (g := F0 m pc ls rest) rfl (by rw [hb]; exact d0) (Nat.le_refl _) (Nat.le_refl _)
  generalize hT1 : (T.setVm vm₁).pushCell { cls := cX, slots := kX.instanceTypes.map defaultValue, vm := .none } = T1 at X₁ st1
  have hcat : (Value.ref T.heap.size).category = 1 := rfl
  have hcellA : T1.heap[T.heap.size]? = some (freshCell cX kX) := by rw [← hT1]; exact State.heap_pushCell_size _ _
  have d3' : decode c.code (pc + 3) = .ok (.dup, 1) := by rw [hb]; exact d3
  obtain ⟨U, hsteps, hrun, hend, hW, hsame, ce, hce, hO⟩ := X₁.ctorThrow0 hexec htr (own := own) (cls := cls) (names := names) (ic := ic) hown' hcls hnames h (fun x hx => nomatch hx) hfX hkX hcellA (by rw [hhp, hT]; exact Nat.le_refl _)
    (g := { method := m, pc := pc + 4, locals := ls, stack := .ref T.heap.size :: .ref T.heap.size :: rest, locked := none }) rfl hsize rfl rfl (rest := rest) rfl
    (by rw [hb]; exact d4) (by rw [hb]; exact d7) hout hRframes (by simp only [List.map_cons, List.sum_cons, hcat]; omega) hlocks
  obtain ⟨f1, f2⟩ := vx_frame hsame
  rw [hhp] at f1 f2
  have hWs : s.WarmedH U.vm := State.WarmedH.trans hW0 hW
  have hcl : s.vm.findClass cls = some ce.cls := by
    have h9 := hO.cls
    rw [hvm] at h9
    exact h9
  have hall : s.sameButNew ({ U with vm := s.vm } : State) locs mc ms := by
    subst hA
    obtain ⟨e1, e2⟩ := hsame
    rw [State.setFrames_setFrames] at e1
    have h2 : (T.setVm s.vm).sameButNew ({ U with vm := s.vm } : State) [] (0 + 1) (0 + 6) := ⟨e1, e2⟩
    have h3 := X.same.trans h2
    rw [List.append_nil] at h3
    exact h3.mono hc hs
  refine ⟨U, ?_, .threw T.heap.size, hrun, hend, Or.inr ⟨T.heap.size, rfl, cls, ce, locs, hx U hWs.alike f1 (fun q hq => f2 q hq (fun z hz => nomatch hz)), hce, hO.vm, hcl, hWs, hall, hf⟩⟩
  refine st1 _ ?_
  show Steps p.tables e below (T1.setTop { method := m, pc := pc + 3, locals := ls, stack := .ref T.heap.size :: rest, locked := none }) _
  jvm_step X₁.here [X₁.here.top, hexec, d3', Value.category]
  exact hsteps
/-- 'throw new E("text")': new; dup; ldc; invokespecial; athrow -/
theorem vx_throwS {cc : ByteArray} {pc : Nat} (hexec : p.tables.exec = Jvm.exec) (hb : c.code = cc) (hl : l.stackTraces = false) {own cls text : String} {names : List String} {ik is ic mc ms sa : Nat} {A : Nat → Prop}
    (hown : s.vm.findClass own = some m.cls) (hcls : Bundle.fit cls = true) (hnames : ∀ n ∈ names, Bundle.fit n = true)
    (hk : (Cond.classLink own ik cls).before args s = true) (hini : (Cond.initialized cls).before args s = true) (hstr : vk_R own is text sa s) (hat : ∀ w ∈ vx_atS own ic cls names, w.before args s = true)
    (hgood : ∀ w ∈ Cond.classLink own ik cls :: Cond.initialized cls :: vx_atS own ic cls names, vx_ot w = true)
    (hU : vx_Zq Bundle.tN "UNASSIGNED_STACK" Bundle.steD A s s.heap) (hN : vx_Zq Bundle.tN "SUPPRESSED_SENTINEL" Bundle.listD A s s.heap) (hS : va_S A s.heap H locs) (hsize : ls.size = c.maxLocals)
    (d0 : decode cc pc = .ok (.new ik, 3)) (d3 : decode cc (pc + 3) = .ok (.dup, 1)) (d4 : decode cc (pc + 4) = .ok (.ldc is, 2)) (d6 : decode cc (pc + 6) = .ok (.invokespecial ic, 3)) (d9 : decode cc (pc + 9) = .ok (.athrow, 1))
    (hout : ∀ x ∈ c.exceptionTable.toList, covers x (pc + 9) = false)
    (hRframes : names.length + 3 < R.frames) (hRlocals : (rest.map fun v => v.category).sum + (13 * (names.length + 1) + 43) ≤ R.locals) (hRcells : cells + 1 ≤ R.cells) (hRslots : slots + 6 ≤ R.slots) (hlocks : meth.locks = false)
    (hx : ∀ t : State, s.vm.Alike t.vm → H.size ≤ t.heap.size → (∀ q : Nat, q < H.size → t.heap[q]? = H[q]?) → XC cls s t)
    (hf : ∀ z ∈ locs, free z.base) (hc : cells + 1 ≤ mc) (hs : slots + 6 ≤ ms) :
    W p l e R s m args below meth c H locs cells slots (vx_MQ below Qc XC args s mc ms free) (F0 m pc ls rest) := by
  intro T hT X
  have htr : e.platform.stackTraces = false := (show e.platform.stackTraces = l.stackTraces by rw [X.admits.platform]).trans hl
  have Y := vx_rebase X (R' := { frames := R.frames, locals := R.locals, cells := 1, slots := 6 }) (Nat.le_refl _) (Nat.le_refl _) hRcells hRslots
  obtain ⟨s', hA⟩ : ∃ z, z = (T.setVm s.vm).setFrames (.invoking m args :: below) := ⟨_, rfl⟩
  rw [← hA] at Y
  have hvm : s'.vm = s.vm := by rw [hA]; rfl
  have hhp : s'.heap = H := by rw [hA]; exact hT
  have hW0 : s.WarmedH s'.vm := by rw [hvm]; exact State.WarmedH.refl s
  have hat' : ∀ w ∈ vx_atS own ic cls names, w.before args s' = true := fun w hw => vx_ot_at hW0 hvm.symm (hgood w (List.mem_cons_of_mem _ (List.mem_cons_of_mem _ hw))) (hat w hw)
  have hk' : (Cond.classLink own ik cls).before args s' = true := vx_ot_at hW0 hvm.symm (hgood _ List.mem_cons_self) hk
  have hini' : (Cond.initialized cls).before args s' = true := vx_ot_at hW0 hvm.symm (hgood _ (List.mem_cons_of_mem _ List.mem_cons_self)) hini
  have hU' : vx_Zq Bundle.tN "UNASSIGNED_STACK" Bundle.steD A s' s'.heap := by rw [hhp]; exact vx_Zq.moved hW0.alike (hU.kept hS.2.1)
  have hN' : vx_Zq Bundle.tN "SUPPRESSED_SENTINEL" Bundle.listD A s' s'.heap := by rw [hhp]; exact vx_Zq.moved hW0.alike (hN.kept hS.2.1)
  have h : ∀ w ∈ Bundle.ownAtoms own ic cls names, w.before args s' = true := vx_own hat' (vx_isRefq hU'.1) (vx_isRefq hN'.1) hU'.2.word hN'.2.word
  have hown' : s'.vm.findClass own = some m.cls := by rw [hvm]; exact hown
  have hins : (Cond.instantiable cls 6).before args s' = true := h _ (by simp [Bundle.ownAtoms])
  obtain ⟨vm₁, cX, kX, hfX, hkX, -, -, X₁, st1⟩ := Y.newCold hexec (own := own) (C := cls) (index := ik) (n := 6) hown' hk' hins hini'
    (g := F0 m pc ls rest) rfl (by rw [hb]; exact d0) (Nat.le_refl _) (Nat.le_refl _)
  generalize hT1 : (T.setVm vm₁).pushCell { cls := cX, slots := kX.instanceTypes.map defaultValue, vm := .none } = T1 at X₁ st1
  have hcat : (Value.ref T.heap.size).category = 1 := rfl
  have hcellA : T1.heap[T.heap.size]? = some (freshCell cX kX) := by rw [← hT1]; exact State.heap_pushCell_size _ _
  have d3' : decode c.code (pc + 3) = .ok (.dup, 1) := by rw [hb]; exact d3
  have d4' : decode c.code (pc + 4) = .ok (.ldc is, 2) := by rw [hb]; exact d4
  have hstr' : vk_R own is text sa s' := vk_R.warm hW0 hstr
  obtain ⟨U, hsteps, hrun, hend, hW, hsame, ce, hce, hO⟩ := X₁.ctorThrowS hexec htr (own := own) (cls := cls) (names := names) (ic := ic) hown' hcls hnames h (fun x hx => nomatch hx) hfX hkX hcellA (by rw [hhp, hT]; exact Nat.le_refl _) (msg := .ref sa) rfl
    (g := { method := m, pc := pc + 6, locals := ls, stack := .ref sa :: .ref T.heap.size :: .ref T.heap.size :: rest, locked := none }) rfl hsize rfl rfl (rest := rest) rfl
    (by rw [hb]; exact d6) (by rw [hb]; exact d9) hout hRframes (by simp only [List.map_cons, List.sum_cons, hcat]; omega) hlocks
  obtain ⟨f1, f2⟩ := vx_frame hsame
  rw [hhp] at f1 f2
  have hWs : s.WarmedH U.vm := State.WarmedH.trans hW0 hW
  have hcl : s.vm.findClass cls = some ce.cls := by
    have h9 := hO.cls
    rw [hvm] at h9
    exact h9
  have hall : s.sameButNew ({ U with vm := s.vm } : State) locs mc ms := by
    subst hA
    obtain ⟨e1, e2⟩ := hsame
    rw [State.setFrames_setFrames] at e1
    have h2 : (T.setVm s.vm).sameButNew ({ U with vm := s.vm } : State) [] (0 + 1) (0 + 6) := ⟨e1, e2⟩
    have h3 := X.same.trans h2
    rw [List.append_nil] at h3
    exact h3.mono hc hs
  refine ⟨U, ?_, .threw T.heap.size, hrun, hend, Or.inr ⟨T.heap.size, rfl, cls, ce, locs, hx U hWs.alike f1 (fun q hq => f2 q hq (fun z hz => nomatch hz)), hce, hO.vm, hcl, hWs, hall, hf⟩⟩
  refine st1 _ ?_
  show Steps p.tables e below (T1.setTop { method := m, pc := pc + 3, locals := ls, stack := .ref T.heap.size :: rest, locked := none }) _
  jvm_step X₁.here [X₁.here.top, hexec, d3', Value.category]
  exact X₁.ldcString hexec (own := own) (text := text) (index := is) (a := sa) hown' hstr'.1 hstr'.2
    (g := { method := m, pc := pc + 4, locals := ls, stack := .ref T.heap.size :: .ref T.heap.size :: rest, locked := none }) rfl d4' _ hsteps
/-- 'throw new E("text")', the text by a wide index -/
theorem vx_throwSW {cc : ByteArray} {pc : Nat} (hexec : p.tables.exec = Jvm.exec) (hb : c.code = cc) (hl : l.stackTraces = false) {own cls text : String} {names : List String} {ik is ic mc ms sa : Nat} {A : Nat → Prop}
    (hown : s.vm.findClass own = some m.cls) (hcls : Bundle.fit cls = true) (hnames : ∀ n ∈ names, Bundle.fit n = true)
    (hk : (Cond.classLink own ik cls).before args s = true) (hini : (Cond.initialized cls).before args s = true) (hstr : vk_R own is text sa s) (hat : ∀ w ∈ vx_atS own ic cls names, w.before args s = true)
    (hgood : ∀ w ∈ Cond.classLink own ik cls :: Cond.initialized cls :: vx_atS own ic cls names, vx_ot w = true)
    (hU : vx_Zq Bundle.tN "UNASSIGNED_STACK" Bundle.steD A s s.heap) (hN : vx_Zq Bundle.tN "SUPPRESSED_SENTINEL" Bundle.listD A s s.heap) (hS : va_S A s.heap H locs) (hsize : ls.size = c.maxLocals)
    (d0 : decode cc pc = .ok (.new ik, 3)) (d3 : decode cc (pc + 3) = .ok (.dup, 1)) (d4 : decode cc (pc + 4) = .ok (.ldc_w is, 3)) (d7 : decode cc (pc + 7) = .ok (.invokespecial ic, 3)) (d10 : decode cc (pc + 10) = .ok (.athrow, 1))
    (hout : ∀ x ∈ c.exceptionTable.toList, covers x (pc + 10) = false)
    (hRframes : names.length + 3 < R.frames) (hRlocals : (rest.map fun v => v.category).sum + (13 * (names.length + 1) + 43) ≤ R.locals) (hRcells : cells + 1 ≤ R.cells) (hRslots : slots + 6 ≤ R.slots) (hlocks : meth.locks = false)
    (hx : ∀ t : State, s.vm.Alike t.vm → H.size ≤ t.heap.size → (∀ q : Nat, q < H.size → t.heap[q]? = H[q]?) → XC cls s t)
    (hf : ∀ z ∈ locs, free z.base) (hc : cells + 1 ≤ mc) (hs : slots + 6 ≤ ms) :
    W p l e R s m args below meth c H locs cells slots (vx_MQ below Qc XC args s mc ms free) (F0 m pc ls rest) := by
  intro T hT X
  have htr : e.platform.stackTraces = false := (show e.platform.stackTraces = l.stackTraces by rw [X.admits.platform]).trans hl
  have Y := vx_rebase X (R' := { frames := R.frames, locals := R.locals, cells := 1, slots := 6 }) (Nat.le_refl _) (Nat.le_refl _) hRcells hRslots
  obtain ⟨s', hA⟩ : ∃ z, z = (T.setVm s.vm).setFrames (.invoking m args :: below) := ⟨_, rfl⟩
  rw [← hA] at Y
  have hvm : s'.vm = s.vm := by rw [hA]; rfl
  have hhp : s'.heap = H := by rw [hA]; exact hT
  have hW0 : s.WarmedH s'.vm := by rw [hvm]; exact State.WarmedH.refl s
  have hat' : ∀ w ∈ vx_atS own ic cls names, w.before args s' = true := fun w hw => vx_ot_at hW0 hvm.symm (hgood w (List.mem_cons_of_mem _ (List.mem_cons_of_mem _ hw))) (hat w hw)
  have hk' : (Cond.classLink own ik cls).before args s' = true := vx_ot_at hW0 hvm.symm (hgood _ List.mem_cons_self) hk
  have hini' : (Cond.initialized cls).before args s' = true := vx_ot_at hW0 hvm.symm (hgood _ (List.mem_cons_of_mem _ List.mem_cons_self)) hini
  have hU' : vx_Zq Bundle.tN "UNASSIGNED_STACK" Bundle.steD A s' s'.heap := by rw [hhp]; exact vx_Zq.moved hW0.alike (hU.kept hS.2.1)
  have hN' : vx_Zq Bundle.tN "SUPPRESSED_SENTINEL" Bundle.listD A s' s'.heap := by rw [hhp]; exact vx_Zq.moved hW0.alike (hN.kept hS.2.1)
  have h : ∀ w ∈ Bundle.ownAtoms own ic cls names, w.before args s' = true := vx_own hat' (vx_isRefq hU'.1) (vx_isRefq hN'.1) hU'.2.word hN'.2.word
  have hown' : s'.vm.findClass own = some m.cls := by rw [hvm]; exact hown
  have hins : (Cond.instantiable cls 6).before args s' = true := h _ (by simp [Bundle.ownAtoms])
  obtain ⟨vm₁, cX, kX, hfX, hkX, -, -, X₁, st1⟩ := Y.newCold hexec (own := own) (C := cls) (index := ik) (n := 6) hown' hk' hins hini'
    (g := F0 m pc ls rest) rfl (by rw [hb]; exact d0) (Nat.le_refl _) (Nat.le_refl _)
  generalize hT1 : (T.setVm vm₁).pushCell { cls := cX, slots := kX.instanceTypes.map defaultValue, vm := .none } = T1 at X₁ st1
  have hcat : (Value.ref T.heap.size).category = 1 := rfl
  have hcellA : T1.heap[T.heap.size]? = some (freshCell cX kX) := by rw [← hT1]; exact State.heap_pushCell_size _ _
  have d3' : decode c.code (pc + 3) = .ok (.dup, 1) := by rw [hb]; exact d3
  have d4' : decode c.code (pc + 4) = .ok (.ldc_w is, 3) := by rw [hb]; exact d4
  have hstr' : vk_R own is text sa s' := vk_R.warm hW0 hstr
  obtain ⟨U, hsteps, hrun, hend, hW, hsame, ce, hce, hO⟩ := X₁.ctorThrowS hexec htr (own := own) (cls := cls) (names := names) (ic := ic) hown' hcls hnames h (fun x hx => nomatch hx) hfX hkX hcellA (by rw [hhp, hT]; exact Nat.le_refl _) (msg := .ref sa) rfl
    (g := { method := m, pc := pc + 7, locals := ls, stack := .ref sa :: .ref T.heap.size :: .ref T.heap.size :: rest, locked := none }) rfl hsize rfl rfl (rest := rest) rfl
    (by rw [hb]; exact d7) (by rw [hb]; exact d10) hout hRframes (by simp only [List.map_cons, List.sum_cons, hcat]; omega) hlocks
  obtain ⟨f1, f2⟩ := vx_frame hsame
  rw [hhp] at f1 f2
  have hWs : s.WarmedH U.vm := State.WarmedH.trans hW0 hW
  have hcl : s.vm.findClass cls = some ce.cls := by
    have h9 := hO.cls
    rw [hvm] at h9
    exact h9
  have hall : s.sameButNew ({ U with vm := s.vm } : State) locs mc ms := by
    subst hA
    obtain ⟨e1, e2⟩ := hsame
    rw [State.setFrames_setFrames] at e1
    have h2 : (T.setVm s.vm).sameButNew ({ U with vm := s.vm } : State) [] (0 + 1) (0 + 6) := ⟨e1, e2⟩
    have h3 := X.same.trans h2
    rw [List.append_nil] at h3
    exact h3.mono hc hs
  refine ⟨U, ?_, .threw T.heap.size, hrun, hend, Or.inr ⟨T.heap.size, rfl, cls, ce, locs, hx U hWs.alike f1 (fun q hq => f2 q hq (fun z hz => nomatch hz)), hce, hO.vm, hcl, hWs, hall, hf⟩⟩
  refine st1 _ ?_
  show Steps p.tables e below (T1.setTop { method := m, pc := pc + 3, locals := ls, stack := .ref T.heap.size :: rest, locked := none }) _
  jvm_step X₁.here [X₁.here.top, hexec, d3', Value.category]
  exact X₁.ldcStringW hexec (own := own) (text := text) (index := is) (a := sa) hown' hstr'.1 hstr'.2
    (g := { method := m, pc := pc + 4, locals := ls, stack := .ref T.heap.size :: .ref T.heap.size :: rest, locked := none }) rfl d4' _ hsteps
end Ends
section Bodies
variable {l : Launch}
theorem vx_ofW {y : MethodName} {ws ws' : List Cond} {rm : Room} {Pc : Array Value → State → Prop} {Qc : Array Value → State → Outcome → State → Prop} {XC : String → State → State → Prop} {mc ms : Nat} {free : Addr → Prop} {cc : ByteArray} {maxL : Nat} {ret : Option FieldType}
    (hy : plainName y.cls = true) (hw : ws = Cond.code y cc maxL ret :: ws')
    (body : ∀ p e s m args below meth c s₁, BodyLoose p l y (headSpec ws rm) cc maxL ret e s m args below meth c s₁ → c.maxLocals = maxL → (∀ x ∈ c.exceptionTable.toList, False) → Pc args s →
      W p l e (headSpec ws rm).room s m args below meth c s.heap [] 0 0 (vx_MQ below Qc XC args s mc ms free) (entryFrame m args maxL)) : vx_Met l y ws rm Pc Qc XC mc ms free := by
  refine MetFree.of_bodyS (code := cc) (maxLocals := maxL) (ret := ret) hy ?_ ?_
  · intro args s m h hn
    obtain ⟨meth, c, h1, h2, h3, h4, h5, h6, -, -⟩ := Cond.code_spec hn (atoms_spec (ws := ws) h _ (by rw [hw]; exact List.mem_cons_self))
    exact ⟨meth, c, h1, h2, h3, h4, h5, h6⟩
  · intro p e s m args below meth c s₁ B hml hP _
    have hh0 : s₁.heap = s.heap := by rw [B.state]; rfl
    have ht : ∀ x ∈ c.exceptionTable.toList, False := by
      obtain ⟨meth9, c9, h1, h2, -, -, -, -, h7, -⟩ := Cond.code_spec B.named (atoms_spec (ws := ws) B.pre _ (by rw [hw]; exact List.mem_cons_self))
      cases Option.some.inj (h1.symm.trans B.method)
      cases Option.some.inj (h2.symm.trans (Stand.of_body B).code)
      intro x hx
      rw [Array.isEmpty_iff.mp h7] at hx
      cases hx
    obtain ⟨t, a1, o, b1, b2, b3⟩ := body p e s m args below meth c s₁ B hml ht hP s₁ hh0 (Stand.of_body B)
    exact ⟨t, o, a1, b1, b2, b3⟩
/-- the table of a body with handlers -/
theorem vx_table {p : Program} {x y : MethodName} {S : Spec} {cc bytes : ByteArray} {maxL maxL' : Nat} {ret ret' : Option FieldType} {e : Env} {s s₁ : State} {m : MethodId} {args : Array Value} {below : List Frame} {meth : Method} {c : Code} {hh : List (Nat × Nat × Nat × Nat)}
    (B : BodyLoose p l y S cc maxL ret e s m args below meth c s₁) (h : (Cond.codeWith y bytes maxL' ret' hh).before args s = true) : c.exceptionTable.toList = tableOf hh := by
  obtain ⟨m9, meth9, c9, hn9, h1, h2, -, -, h6, -⟩ := Cond.codeWith_spec h
  cases Option.some.inj (hn9.symm.trans B.named)
  cases Option.some.inj (h1.symm.trans B.method)
  cases Option.some.inj (h2.symm.trans (Stand.of_body B).code)
  rw [← h6, table_eq]
end Bodies
end VXA
/-! ===== END ===== -/
/-! ===== BEGIN a static call of a method with an exception table ===== -/
section VXS
variable {p : Program} {l : Launch} {e : Env} {R : Room} {s : State} {m : MethodId} {args : Array Value} {below : List Frame} {meth : Method} {c : Code} {T : State} {H : Heap} {locs : List Loc} {cells slots : Nat}
abbrev vx_CSW (R : Room) (s : State) (args : Array Value) (own : String) (index : Nat) (y : MethodName) (bytes : ByteArray) (maxL : Nat) (ret : Option FieldType) (hh : List (Nat × Nat × Nat × Nat)) (ws : List Cond) (rm : Room) (mc ms n : Nat) : Prop :=
  (rm.cells = mc ∧ rm.slots = ms ∧ rm.frames + 1 ≤ R.frames ∧ 8 + (maxL + 11) + rm.locals ≤ R.locals ∧ (∀ w ∈ ws, ∀ (a' : Array Value) (U : State), s.WarmedH U.vm → w.before a' U = true) ∧ Cond.codeWith y bytes maxL ret hh ∈ ws) ∧
  (Cond.codeWith y bytes maxL ret hh).before args s = true ∧ (Cond.initialized y.cls).before args s = true ∧ (y.cls ≠ "java/lang/invoke/MethodHandle" ∧ y.cls ≠ "java/lang/invoke/VarHandle") ∧
  (∀ sig, parseMethodDescriptor y.desc = some sig → n = sig.parameters.length) ∧ (Cond.methodLink own index y).before args s = true ∧ (Cond.static y).before args s = true
theorem vx_cwSW {own : String} {index maxL mc ms : Nat} {y : MethodName} {bytes : ByteArray} {ret : Option FieldType} {hh : List (Nat × Nat × Nat × Nat)} {Ts ws ws' : List Cond} {rm : Room} (n : Nat) (ht : ∀ w ∈ Ts, w.before args s = true) (hT : GoodIn Ts (va_wsS own index y ws)) (hw : ws = Cond.codeWith y bytes maxL ret hh :: ws') (hrc : rm.cells = mc) (hrs : rm.slots = ms)
    (hd : y.cls ≠ "java/lang/invoke/MethodHandle" ∧ y.cls ≠ "java/lang/invoke/VarHandle" ∧ (parseMethodDescriptor y.desc).map (fun d => d.parameters.length) = some n) (hR : rm.frames + 1 ≤ R.frames ∧ 8 + (maxL + 11) + rm.locals ≤ R.locals) :
    vx_CSW R s args own index y bytes maxL ret hh ws rm mc ms n := by
  have ok : ∀ w ∈ va_wsS own index y ws, w.before args s = true := fun w h => ht w (hT w h).1
  have hG : GoodIn Ts ws := fun w h => hT w (by unfold va_wsS; exact List.mem_append_right _ h)
  have hc : Cond.codeWith y bytes maxL ret hh ∈ ws := by rw [hw]; exact List.mem_cons_self
  refine ⟨⟨hrc, hrs, hR.1, hR.2, pay_in ht hG, hc⟩, ht _ (hG _ hc).1, ok _ (by simp [va_wsS]), ⟨hd.1, hd.2.1⟩, fun sig h => ?_, ok _ (by simp [va_wsS]), ok _ (by simp [va_wsS])⟩
  have h2 := hd.2.2
  rw [h] at h2
  exact (Option.some.inj h2).symm
theorem vx_callSW (X : Stand p l e R s m args below meth c T locs cells slots) (hexec : p.tables.exec = Jvm.exec) {own : String} {index : Nat} {y : MethodName} {bytes : ByteArray} {maxL : Nat} {ret : Option FieldType} {hh : List (Nat × Nat × Nat × Nat)}
    (hown : s.vm.findClass own = some m.cls) (hlink : (Cond.methodLink own index y).before args s = true) (hstat : (Cond.static y).before args s = true) (hinit : (Cond.initialized y.cls).before args s = true)
    (hcode : (Cond.codeWith y bytes maxL ret hh).before args s = true) (hy : y.cls ≠ "java/lang/invoke/MethodHandle" ∧ y.cls ≠ "java/lang/invoke/VarHandle")
    {W9 : Nat} {Pre : Pt → Array Value → Prop} {Post : Pt → Array Value → Option Value → Pt → Prop} (hK : Back l R p e below s args y 3 W9 Pre Post)
    {g : JFrame} (hg : g.method = m) (hsize : g.locals.size = c.maxLocals) {argsL rest : List Value} (hlen : ∀ sig, parseMethodDescriptor y.desc = some sig → argsL.length = sig.parameters.length)
    (hstack : g.stack = argsL.reverse ++ rest) (hW : 2 * g.monitorRoom + (rest.map fun v => v.category).sum ≤ W9) (hdg : decode c.code g.pc = .ok (.invokestatic index, 3))
    (hpre : ∀ vm₁, s.WarmedH vm₁ → Pre ⟨T.setVm vm₁, locs, cells, slots⟩ argsL.toArray) :
    ∃ (v : Option Value) (vm₁ : Vm) (B : Pt), s.WarmedH vm₁ ∧ Stand p l e R s m args below meth c B.U B.locs B.cells B.slots ∧ Post ⟨T.setVm vm₁, locs, cells, slots⟩ argsL.toArray v B ∧
      ∀ target, Steps p.tables e below (B.U.setTop { g with pc := g.pc + 3, stack := v.toList ++ rest }) target → Steps p.tables e below (T.setTop g) target := by
  obtain ⟨mk, methM, cM, hnamed, hmethM, -, -, -, -, -, -, hsigM⟩ := Cond.codeWith_spec hcode
  have hstatic : methM.isStatic = true := Cond.static_spec hnamed hmethM hstat
  obtain ⟨kP, hkP, -⟩ := className_of_methodNamed hnamed
  have hinitP : kP.init = .initialized := Cond.initialized_spec (findClass_of_methodNamed hnamed) hkP hinit
  obtain ⟨vm₁, X₁, hstep₁⟩ := X.invokestatic hexec hown hlink hnamed hmethM hstatic hkP hinitP hy (g := g) hg (argsL := argsL) (rest := rest) (hlen _ hsigM) hstack hdg
  obtain ⟨v, B, X', hpost, hsteps⟩ := hK m meth c ⟨T.setVm vm₁, locs, cells, slots⟩ { g with stack := rest } (.invokestatic index) mk argsL.toArray X₁ hg hsize hdg hW (X₁.named hnamed) (hpre vm₁ X₁.warmed)
  exact ⟨v, vm₁, B, X₁.warmed, X', hpost, fun target h => hstep₁ _ fun acts => by rw [doInvoke_state]; exact hsteps.trans h⟩
theorem vx_runSW {y : MethodName} {bytes cc : ByteArray} {maxL nL mc ms n index : Nat} {ret : Option FieldType} {hh : List (Nat × Nat × Nat × Nat)} {ws : List Cond} {rm : Room} {Pc : Array Value → State → Prop} {Qc : Array Value → State → Outcome → State → Prop} {free : Addr → Prop} {Ts : List Cond} {own : String} {As rest : List Value} {g : JFrame}
    (S : CallFix p m c cc nL s args Ts own) (hM : Met l y ws rm Pc Qc mc ms free) (cw : vx_CSW R s args own index y bytes maxL ret hh ws rm mc ms n) (hp : PreS s H Pc As)
    (hg : g.method = m) (hn : As.length = n) (hsize : g.locals.size = nL) (hstack : g.stack = As.reverse ++ rest) (hW : 2 * g.monitorRoom + (rest.map fun v => v.category).sum ≤ 8) (hdg : decode cc g.pc = .ok (.invokestatic index, 3)) (hf : cells + mc ≤ R.cells ∧ slots + ms ≤ R.slots) :
    va_Run p l e R s m args below meth c H locs cells slots mc ms g rest (Qc As.toArray) (free) := by
  obtain ⟨⟨hrc, hrs, hfr, hlo, hws, hcw⟩, hcode, hini, hy, hlen, hl, hstt⟩ := cw
  have hK : Back l R p e below s args y 3 8 (PreOf R mc ms Pc) (PostOf Qc mc ms free) := va_backW (hh := hh) (bytes := bytes) (maxL := maxL) (ret := ret) hM hp.1 hrc hrs hfr hlo hws hcw (fun a' U hW => word_at hW (Or.inl (by first | rfl | simp [Cond.onTables, Cond.keeps, Cond.steady])) hini)
  obtain ⟨hx, hb, hml, ho, -⟩ := S
  intro T hT X
  obtain ⟨v, vm₁, ⟨U', l2, c2, s2⟩, hW₁, X', ⟨g', mk, t, L, e1, e2, hq, h1, hL, h2, h3⟩, st⟩ := vx_callSW X hx (hh := hh) (bytes := bytes) (maxL := maxL) (ret := ret) ho hl hstt hini hcode hy hK hg (hsize.trans hml.symm) (argsL := As) (rest := rest) (fun sig h => hn.trans (hlen sig h)) hstack hW (by rw [hb]; exact hdg)
    (fun vm₁ hW₁ => ⟨hf.1, hf.2, hp.2 (T.setVm vm₁) hT hW₁⟩)
  dsimp only [Pt.U, Pt.locs, Pt.cells, Pt.slots] at X' e1 e2 h1 h2 h3 st
  subst h1; subst h2; subst h3
  exact ⟨v, (T.setVm vm₁).calling g' mk As.toArray, t, U', L, hT, X', hL, e1, e2, hq, st⟩
/-- not caught here, past rows that name other classes: it goes on to the caller -/
theorem vx_outP {p : Program} {l : Launch} {e : Env} {R : Room} {s : State} {m : MethodId} {args : Array Value} {below : List Frame} {meth : Method} {c : Code} {H : Heap} {locs : List Loc} {cells slots : Nat} {free : Addr → Prop} {ls : Array Slot} {rest : List Value} {Qc : Array Value → State → Outcome → State → Prop} {XC : String → State → State → Prop}
    {pc : Nat} {own E : String} {ce : Cell} {q : Addr} {mc ms : Nat} (hown : s.vm.findClass own = some m.cls) (hlocks : meth.locks = false)
    (hpass : ∀ z ∈ c.exceptionTable.toList, covers z pc = false ∨ (z.catchType ≠ 0 ∧ ∃ nm : String, (Cond.classLink own z.catchType nm).before args s = true ∧ va_Nc E nm s)) (hcell : H[q]? = some ce) (hv : ce.vm = .none) (hcl : s.vm.findClass E = some ce.cls)
    (hx : ∀ t : State, t.heap = H → s.vm.Alike t.vm → XC E s t) (hf : ∀ z ∈ locs, free z.base) (hc : cells ≤ mc) (hs : slots ≤ ms) :
    vx_W p l e R s m args below meth c H locs cells slots (vx_MQ below Qc XC args s mc ms free) (F0 m pc ls rest) q := by
  intro T hT X
  have hpl : e.platform.magicAccessors = ({} : Platform).magicAccessors := by rw [X.admits.platform]
  obtain ⟨vm', hW', X', st⟩ := X.outThrough hlocks q (g := F0 m pc ls rest) rfl rfl rfl (cell := ce) (by rw [hT]; exact hcell) (by rw [hv]; rfl)
    (by obtain ⟨k9, h9, -⟩ := Vm.findClass_spec hcl; exact ⟨k9, h9⟩) (fun z hz => by
      rcases hpass z hz with h | ⟨hz0, nm, hl1, hn1⟩
      · exact Or.inl h
      · obtain ⟨c6, hc6, hcl6⟩ := Cond.classLink_spec hown hl1 e.platform hpl
        obtain ⟨a8, b8, h1, h2, h3⟩ := hn1
        cases Option.some.inj (h1.symm.trans hcl)
        cases Option.some.inj (h2.symm.trans hc6)
        exact Or.inr ⟨hz0, _, hcl6, h3⟩)
  obtain ⟨g₀, hfr⟩ := X'.frames_eq
  have hcell9 : ((T.setVm vm').setFrames (.throwing q :: below)).heap[q]? = some ce := by
    show T.heap[q]? = some ce
    rw [hT]; exact hcell
  have hend : Ended ((T.setVm vm').setFrames (.throwing q :: below)) below (.threw q) := State.frames_setFrames _ (State.cur_lt_of_frames hfr)
  refine ⟨(T.setVm vm').setFrames (.throwing q :: below), ?_, .threw q, X'.here.running, hend, Or.inr ⟨q, rfl, E, ce, locs, hx _ hT (X'.ends _).1.alike, hcell9, hv, hcl, (X'.ends _).1, (X'.ends _).2.mono hc hs, hf⟩⟩
  rw [X.pushThrowing_eq]
  exact st
/-- a thing of a world lies in the heap -/
theorem vx_lt {D : va_G} {cl : List vw_C} {ws : va_W} {H1 : Heap} (h : va_P D cl ws H1) {k : Nat} {q : Nat × va_E} (hk : ws[k]? = some q) : q.1 < H1.size := (h k q hk).lt
end VXS
/-! ===== END ===== -/
/-! ===== BEGIN methods with a table of their own: called by a name, returning or throwing ===== -/
section VXH
/-! vx_backW, vx_callVX, vx_callSX, vx_callVW, vx_runVW, vx_runVX, vx_runSX, vx_ofWH follow the same proofs as their sisters above (Free/Laws.lean, Shelf42/LK1.lean); vx_outP calls Shelf42/NT130.lean (outThrough). -/
section
variable {l : Launch} {R : Room} {p : Program} {e : Env} {below : List Frame} {s : State} {sargs : Array Value} {y : MethodName} {len W9 : Nat}
theorem vx_backW {ws : List Cond} {rm : Room} {Pc : Array Value → State → Prop} {Qc : Array Value → State → Outcome → State → Prop} {XC : String → State → State → Prop} {mc ms : Nat} {free : Addr → Prop} {bytes : ByteArray} {maxL : Nat} {ret : Option FieldType} {hh : List (Nat × Nat × Nat × Nat)}
    (hM : vx_Met l y ws rm Pc Qc XC mc ms free) (hblind : FrameBlind Pc) (hrc : rm.cells = mc) (hrs : rm.slots = ms)
    (hframes : rm.frames + 1 ≤ R.frames) (hlocals : W9 + (maxL + 11) + rm.locals ≤ R.locals)
    (hws : ∀ w ∈ ws, ∀ a' U, s.WarmedH U.vm → w.before a' U = true) (hcode : Cond.codeWith y bytes maxL ret hh ∈ ws) (hinit : ∀ a' U, s.WarmedH U.vm → (Cond.initialized y.cls).before a' U = true) :
    vx_Back l R p e below s sargs y len W9 (PreOf R mc ms Pc) (PostOf Qc mc ms free) (vx_Post XC mc ms free) := by
  intro m meth c A g ig mk a X hg hsize hdg hW hn hp
  have h1 : (headSpec ws rm).pre.before a A.U = true := atoms_intro fun w hw => hws w hw _ _ X.warmed
  have h2 : (Cond.codeWith y bytes maxL ret hh).before a A.U = true := hws _ hcode _ _ X.warmed
  have h3 : (Cond.initialized y.cls).before a A.U = true := hinit _ _ X.warmed
  have h4 : A.cells + (headSpec ws rm).room.cells ≤ R.cells := by rw [show (headSpec ws rm).room.cells = mc from hrc]; exact hp.1
  have h5 : A.slots + (headSpec ws rm).room.slots ≤ R.slots := by rw [show (headSpec ws rm).room.slots = ms from hrs]; exact hp.2.1
  have hPc : Pc a (A.U.calling g mk a) := hblind _ _ _ _ hp.2.2
  obtain ⟨U, Ls, c0, s0⟩ := A
  dsimp only [Pt.U, Pt.locs, Pt.cells, Pt.slots] at h1 h2 h3 h4 h5 X hn hPc ⊢
  obtain ⟨m9, methY, cY, hn9, hmY, hcY, -, hlY, -⟩ := Cond.codeWith_spec h2
  cases Option.some.inj (hn9.symm.trans hn)
  obtain ⟨kY, hkY, -⟩ := className_of_methodNamed hn
  have hinitY : kY.init = .initialized := Cond.initialized_spec (findClass_of_methodNamed hn) hkY h3
  have h : At U g.method c below := by rw [hg]; exact X.here
  have hlocals9 : W9 + (maxL + 11) + (headSpec ws rm).room.locals ≤ R.locals := hlocals
  have happ : (headSpec ws rm).appliesLoose y e.platform (U.calling g mk a) = true :=
    Spec.appliesLoose_calling (g := g) h hdg hn hkY hinitY
      (X.room_calling (g := g) (R' := (headSpec ws rm).room) hsize hmY hcY hframes (by rw [hlY]; omega) h4 h5) h1
  obtain ⟨mid, hmid⟩ := h.above
  have hfr : (U.setTop g).frames = (.java g :: mid) ++ below := by rw [State.frames_setTop' g h.top, hmid]; rfl
  obtain ⟨o, s₂, hsteps, -, hend, hq⟩ := Steps.callFree hM p X.admits X.cas X.clock (acts := []) hfr happ hPc trivial
  have hq' : vx_Q Qc XC mc ms free a (U.calling g mk a) o s₂ := hq
  rw [State.frames_setTop' g h.top] at hend
  obtain ⟨g₀, hg0⟩ := Option.isSome_iff_exists.mp h.top
  obtain ⟨r, hr⟩ := State.topJava?_eq_some.mp hg0
  have hr' : (({ U with heap := s₂.heap, slotsUsed := s₂.slotsUsed } : State).setVm s₂.vm).frames = .java g₀ :: r := hr
  rcases hq' with ⟨hqc, L, hfe, hL⟩ | ⟨q, rfl, E, ce, L, hx, hce, hcv, hcl, hW₂, hsm, hL⟩
  · obtain ⟨⟨v, rfl⟩, hW₂, e2, q2, q3, q4, q5, q6⟩ := id hfe
    have e3 : s₂ = ({ (U.calling g mk a).setFrames s₂.frames with heap := s₂.heap, slotsUsed := s₂.slotsUsed } : State).setVm s₂.vm := by
      have : s₂ = ({ s₂ with vm := (U.calling g mk a).vm } : State).setVm s₂.vm := rfl
      rw [e2] at this
      exact this
    obtain ⟨c₂, i₂, len₂, hc₂, hd₂, hf₂⟩ := hend
    have hW' : U.WarmedH s₂.vm := hW₂
    have hcc : c₂ = c := by
      have h1 : s₂.code? g.method = U.code? g.method := by
        rw [State.code?_eq, State.code?_eq, hW'.alike.method?]
      exact Option.some.inj (hc₂.symm.trans (h1.trans h.code))
    subst hcc
    have hlen : len₂ = len := by rw [hdg] at hd₂; cases hd₂; rfl
    subst hlen
    have hs₂ : s₂ = (({ U with heap := s₂.heap, slotsUsed := s₂.slotsUsed } : State).setVm s₂.vm).setTop { g with pc := g.pc + len₂, stack := v.toList ++ g.stack } := by
      refine e3.trans ?_
      rw [hf₂, State.calling_eq h.top, State.setFrames_setFrames, State.setTop_of_frames _ hr', hr]
      rfl
    have hsame : U.sameButNew ({ U with heap := s₂.heap, slotsUsed := s₂.slotsUsed } : State) L mc ms := by
      refine ⟨?_, q2, q3, q4, q5, q6⟩
      obtain ⟨t, ht, -⟩ := State.frames_cons hr
      show ({ U with heap := s₂.heap, slotsUsed := s₂.slotsUsed } : State) = { U.setFrames U.frames with heap := s₂.heap, slotsUsed := s₂.slotsUsed }
      rw [State.setFrames_self ht]
    subst hg
    refine Or.inl ⟨v, ⟨(({ U with heap := s₂.heap, slotsUsed := s₂.slotsUsed } : State).setVm s₂.vm), Ls ++ L, c0 + mc, s0 + ms⟩,
      ⟨X.admits, X.cas, X.clock, X.frames, X.room, X.hears, X.method, X.code, (X.here.setHeapUsed s₂.heap s₂.slotsUsed).setVm hW'.alike, X.tail, State.WarmedH.trans X.warmed hW', X.limits, X.bytes, X.same.trans (hsame.setVm s.vm)⟩,
      ⟨g, mk, s₂, L, rfl, rfl, hqc, rfl, hL, rfl, rfl⟩, ?_⟩
    show Steps p.tables e below _ ((({ U with heap := s₂.heap, slotsUsed := s₂.slotsUsed } : State).setVm s₂.vm).setTop { g with pc := g.pc + len₂, stack := v.toList ++ g.stack })
    rw [← hs₂]
    exact hsteps
  · obtain ⟨e2, q2, q3, q4, q5, q6⟩ := id hsm
    have e3 : s₂ = ({ (U.calling g mk a).setFrames s₂.frames with heap := s₂.heap, slotsUsed := s₂.slotsUsed } : State).setVm s₂.vm := by
      have : s₂ = ({ s₂ with vm := (U.calling g mk a).vm } : State).setVm s₂.vm := rfl
      rw [e2] at this
      exact this
    have hf₂ : s₂.frames = .throwing q :: .java g :: U.frames.tail := hend
    have hW' : U.WarmedH s₂.vm := hW₂
    have hs₂ : s₂ = ((({ U with heap := s₂.heap, slotsUsed := s₂.slotsUsed } : State).setVm s₂.vm).setTop g).pushFrame (.throwing q) := by
      refine e3.trans ?_
      rw [hf₂, State.calling_eq h.top, State.setFrames_setFrames, State.pushFrame, State.frames_setTop _ hr', State.setTop_of_frames _ hr', State.setFrames_setFrames, hr]
      rfl
    have hsame : U.sameButNew ({ U with heap := s₂.heap, slotsUsed := s₂.slotsUsed } : State) L mc ms := by
      refine ⟨?_, q2, q3, q4, q5, q6⟩
      obtain ⟨t, ht, -⟩ := State.frames_cons hr
      show ({ U with heap := s₂.heap, slotsUsed := s₂.slotsUsed } : State) = { U.setFrames U.frames with heap := s₂.heap, slotsUsed := s₂.slotsUsed }
      rw [State.setFrames_self ht]
    subst hg
    refine Or.inr ⟨q, ⟨(({ U with heap := s₂.heap, slotsUsed := s₂.slotsUsed } : State).setVm s₂.vm), Ls ++ L, c0 + mc, s0 + ms⟩,
      ⟨X.admits, X.cas, X.clock, X.frames, X.room, X.hears, X.method, X.code, (X.here.setHeapUsed s₂.heap s₂.slotsUsed).setVm hW'.alike, X.tail, State.WarmedH.trans X.warmed hW', X.limits, X.bytes, X.same.trans (hsame.setVm s.vm)⟩,
      ⟨g, mk, s₂, L, E, ce, rfl, rfl, hx, hce, hcv, hcl, rfl, hL, rfl, rfl⟩, ?_⟩
    show Steps p.tables e below _ (((({ U with heap := s₂.heap, slotsUsed := s₂.slotsUsed } : State).setVm s₂.vm).setTop g).pushFrame (.throwing q))
    rw [← hs₂]
    exact hsteps
end
variable {p : Program} {l : Launch} {e : Env} {R : Room} {s : State} {m : MethodId} {args : Array Value} {below : List Frame} {meth : Method} {c : Code} {T : State} {H : Heap} {locs : List Loc} {cells slots : Nat}
theorem vx_callVX (X : Stand p l e R s m args below meth c T locs cells slots) (hexec : p.tables.exec = Jvm.exec) {own C : String} {index : Nat} {y : MethodName} {bytes : ByteArray} {maxL : Nat} {ret : Option FieldType} {hh : List (Nat × Nat × Nat × Nat)}
    (hown : s.vm.findClass own = some m.cls) (hlink : (Cond.methodLink own index y).before args s = true) (hinst : (Cond.instanceMethod y).before args s = true) (hsel : (Cond.selects C y y).before args s = true)
    (hcode : (Cond.codeWith y bytes maxL ret hh).before args s = true) (hy : y.cls ≠ "java/lang/invoke/MethodHandle" ∧ y.cls ≠ "java/lang/invoke/VarHandle")
    {W9 : Nat} {Pre : Pt → Array Value → Prop} {Post : Pt → Array Value → Option Value → Pt → Prop} {PostX : Pt → Array Value → Addr → Pt → Prop} (hK : vx_Back l R p e below s args y 3 W9 Pre Post PostX)
    {b : Addr} {cellB : Cell} (hcell : T.heap[b]? = some cellB) (hobj : cellB.vm.isStatics = false) (hcls : s.vm.findClass C = some cellB.cls)
    {g : JFrame} (hg : g.method = m) (hsize : g.locals.size = c.maxLocals) {argsL rest : List Value} (hlen : ∀ sig, parseMethodDescriptor y.desc = some sig → argsL.length = sig.parameters.length)
    (hstack : g.stack = argsL.reverse ++ .ref b :: rest) (hW : 2 * g.monitorRoom + (rest.map fun v => v.category).sum ≤ W9) (hdg : decode c.code g.pc = .ok (.invokevirtual index, 3))
    (hpre : ∀ vm₁, s.WarmedH vm₁ → Pre ⟨T.setVm vm₁, locs, cells, slots⟩ (Value.ref b :: argsL).toArray) :
    (∃ (v : Option Value) (vm₁ : Vm) (B : Pt), s.WarmedH vm₁ ∧ Stand p l e R s m args below meth c B.U B.locs B.cells B.slots ∧ Post ⟨T.setVm vm₁, locs, cells, slots⟩ (Value.ref b :: argsL).toArray v B ∧
      ∀ target, Steps p.tables e below (B.U.setTop { g with pc := g.pc + 3, stack := v.toList ++ rest }) target → Steps p.tables e below (T.setTop g) target) ∨
    (∃ (q : Addr) (vm₁ : Vm) (B : Pt), s.WarmedH vm₁ ∧ Stand p l e R s m args below meth c B.U B.locs B.cells B.slots ∧ PostX ⟨T.setVm vm₁, locs, cells, slots⟩ (Value.ref b :: argsL).toArray q B ∧
      Steps p.tables e below (T.setTop g) ((B.U.setTop { g with stack := rest }).pushFrame (.throwing q))) := by
  obtain ⟨mk, methM, hnamed, hmethM, hstM, habM⟩ := Cond.instanceMethod_spec hinst
  obtain ⟨m8, methM', cM, hn8, hmethM', -, -, -, -, -, -, hsigM⟩ := Cond.codeWith_spec hcode
  cases Option.some.inj (hn8.symm.trans hnamed)
  cases hmethM.symm.trans hmethM'
  obtain ⟨c2, r2, m2, q1, q2, q3, q4, kP, hkP, hkPi⟩ := Cond.selects_spec hsel
  cases hcls.symm.trans q1
  cases (State.methodFound?_of_named hnamed hy).symm.trans q2
  cases hnamed.symm.trans q3
  have hselP : selectMethod e.platform s.vm cellB.cls mk = .method mk := by rw [Launch.admits_selectMethod X.admits]; exact q4
  obtain ⟨vm₁, X₁, hstep₁⟩ := X.invokevirtual hexec hown hlink hnamed hmethM hstM hkP hkPi hy (a := b) (cell := cellB) hcell
    (fun z h => by rw [h] at hobj; cases hobj) hselP hmethM habM hkP hkPi (g := g) hg (argsL := argsL) (rest := rest) (hlen _ hsigM) hstack hdg
  rcases hK m meth c ⟨T.setVm vm₁, locs, cells, slots⟩ { g with stack := rest } (.invokevirtual index) mk (Value.ref b :: argsL).toArray X₁ hg hsize hdg hW (X₁.named hnamed) (hpre vm₁ X₁.warmed) with ⟨v, B, X', hpost, hsteps⟩ | ⟨q, B, X', hpost, hsteps⟩
  · exact Or.inl ⟨v, vm₁, B, X₁.warmed, X', hpost, fun target h => hstep₁ _ fun acts => by rw [doInvoke_state]; exact hsteps.trans h⟩
  · exact Or.inr ⟨q, vm₁, B, X₁.warmed, X', hpost, hstep₁ _ fun acts => by rw [doInvoke_state]; exact hsteps⟩
theorem vx_callSX (X : Stand p l e R s m args below meth c T locs cells slots) (hexec : p.tables.exec = Jvm.exec) {own : String} {index : Nat} {y : MethodName} {bytes : ByteArray} {maxL : Nat} {ret : Option FieldType} {hh : List (Nat × Nat × Nat × Nat)}
    (hown : s.vm.findClass own = some m.cls) (hlink : (Cond.methodLink own index y).before args s = true) (hstat : (Cond.static y).before args s = true) (hinit : (Cond.initialized y.cls).before args s = true)
    (hcode : (Cond.codeWith y bytes maxL ret hh).before args s = true) (hy : y.cls ≠ "java/lang/invoke/MethodHandle" ∧ y.cls ≠ "java/lang/invoke/VarHandle")
    {W9 : Nat} {Pre : Pt → Array Value → Prop} {Post : Pt → Array Value → Option Value → Pt → Prop} {PostX : Pt → Array Value → Addr → Pt → Prop} (hK : vx_Back l R p e below s args y 3 W9 Pre Post PostX)
    {g : JFrame} (hg : g.method = m) (hsize : g.locals.size = c.maxLocals) {argsL rest : List Value} (hlen : ∀ sig, parseMethodDescriptor y.desc = some sig → argsL.length = sig.parameters.length)
    (hstack : g.stack = argsL.reverse ++ rest) (hW : 2 * g.monitorRoom + (rest.map fun v => v.category).sum ≤ W9) (hdg : decode c.code g.pc = .ok (.invokestatic index, 3))
    (hpre : ∀ vm₁, s.WarmedH vm₁ → Pre ⟨T.setVm vm₁, locs, cells, slots⟩ argsL.toArray) :
    (∃ (v : Option Value) (vm₁ : Vm) (B : Pt), s.WarmedH vm₁ ∧ Stand p l e R s m args below meth c B.U B.locs B.cells B.slots ∧ Post ⟨T.setVm vm₁, locs, cells, slots⟩ argsL.toArray v B ∧
      ∀ target, Steps p.tables e below (B.U.setTop { g with pc := g.pc + 3, stack := v.toList ++ rest }) target → Steps p.tables e below (T.setTop g) target) ∨
    (∃ (q : Addr) (vm₁ : Vm) (B : Pt), s.WarmedH vm₁ ∧ Stand p l e R s m args below meth c B.U B.locs B.cells B.slots ∧ PostX ⟨T.setVm vm₁, locs, cells, slots⟩ argsL.toArray q B ∧
      Steps p.tables e below (T.setTop g) ((B.U.setTop { g with stack := rest }).pushFrame (.throwing q))) := by
  obtain ⟨mk, methM, cM, hnamed, hmethM, -, -, -, -, -, -, hsigM⟩ := Cond.codeWith_spec hcode
  have hstatic : methM.isStatic = true := Cond.static_spec hnamed hmethM hstat
  obtain ⟨kP, hkP, -⟩ := className_of_methodNamed hnamed
  have hinitP : kP.init = .initialized := Cond.initialized_spec (findClass_of_methodNamed hnamed) hkP hinit
  obtain ⟨vm₁, X₁, hstep₁⟩ := X.invokestatic hexec hown hlink hnamed hmethM hstatic hkP hinitP hy (g := g) hg (argsL := argsL) (rest := rest) (hlen _ hsigM) hstack hdg
  rcases hK m meth c ⟨T.setVm vm₁, locs, cells, slots⟩ { g with stack := rest } (.invokestatic index) mk argsL.toArray X₁ hg hsize hdg hW (X₁.named hnamed) (hpre vm₁ X₁.warmed) with ⟨v, B, X', hpost, hsteps⟩ | ⟨q, B, X', hpost, hsteps⟩
  · exact Or.inl ⟨v, vm₁, B, X₁.warmed, X', hpost, fun target h => hstep₁ _ fun acts => by rw [doInvoke_state]; exact hsteps.trans h⟩
  · exact Or.inr ⟨q, vm₁, B, X₁.warmed, X', hpost, hstep₁ _ fun acts => by rw [doInvoke_state]; exact hsteps⟩
theorem vx_callVW (X : Stand p l e R s m args below meth c T locs cells slots) (hexec : p.tables.exec = Jvm.exec) {own C : String} {index : Nat} {y : MethodName} {bytes : ByteArray} {maxL : Nat} {ret : Option FieldType} {hh : List (Nat × Nat × Nat × Nat)}
    (hown : s.vm.findClass own = some m.cls) (hlink : (Cond.methodLink own index y).before args s = true) (hinst : (Cond.instanceMethod y).before args s = true) (hsel : (Cond.selects C y y).before args s = true)
    (hcode : (Cond.codeWith y bytes maxL ret hh).before args s = true) (hy : y.cls ≠ "java/lang/invoke/MethodHandle" ∧ y.cls ≠ "java/lang/invoke/VarHandle")
    {W9 : Nat} {Pre : Pt → Array Value → Prop} {Post : Pt → Array Value → Option Value → Pt → Prop} (hK : Back l R p e below s args y 3 W9 Pre Post)
    {b : Addr} {cellB : Cell} (hcell : T.heap[b]? = some cellB) (hobj : cellB.vm.isStatics = false) (hcls : s.vm.findClass C = some cellB.cls)
    {g : JFrame} (hg : g.method = m) (hsize : g.locals.size = c.maxLocals) {argsL rest : List Value} (hlen : ∀ sig, parseMethodDescriptor y.desc = some sig → argsL.length = sig.parameters.length)
    (hstack : g.stack = argsL.reverse ++ .ref b :: rest) (hW : 2 * g.monitorRoom + (rest.map fun v => v.category).sum ≤ W9) (hdg : decode c.code g.pc = .ok (.invokevirtual index, 3))
    (hpre : ∀ vm₁, s.WarmedH vm₁ → Pre ⟨T.setVm vm₁, locs, cells, slots⟩ (Value.ref b :: argsL).toArray) :
    ∃ (v : Option Value) (vm₁ : Vm) (B : Pt), s.WarmedH vm₁ ∧ Stand p l e R s m args below meth c B.U B.locs B.cells B.slots ∧ Post ⟨T.setVm vm₁, locs, cells, slots⟩ (Value.ref b :: argsL).toArray v B ∧
      ∀ target, Steps p.tables e below (B.U.setTop { g with pc := g.pc + 3, stack := v.toList ++ rest }) target → Steps p.tables e below (T.setTop g) target := by
  obtain ⟨mk, methM, hnamed, hmethM, hstM, habM⟩ := Cond.instanceMethod_spec hinst
  obtain ⟨m8, methM', cM, hn8, hmethM', -, -, -, -, -, -, hsigM⟩ := Cond.codeWith_spec hcode
  cases Option.some.inj (hn8.symm.trans hnamed)
  cases hmethM.symm.trans hmethM'
  obtain ⟨c2, r2, m2, q1, q2, q3, q4, kP, hkP, hkPi⟩ := Cond.selects_spec hsel
  cases hcls.symm.trans q1
  cases (State.methodFound?_of_named hnamed hy).symm.trans q2
  cases hnamed.symm.trans q3
  have hselP : selectMethod e.platform s.vm cellB.cls mk = .method mk := by rw [Launch.admits_selectMethod X.admits]; exact q4
  obtain ⟨vm₁, X₁, hstep₁⟩ := X.invokevirtual hexec hown hlink hnamed hmethM hstM hkP hkPi hy (a := b) (cell := cellB) hcell
    (fun z h => by rw [h] at hobj; cases hobj) hselP hmethM habM hkP hkPi (g := g) hg (argsL := argsL) (rest := rest) (hlen _ hsigM) hstack hdg
  obtain ⟨v, B, X', hpost, hsteps⟩ := hK m meth c ⟨T.setVm vm₁, locs, cells, slots⟩ { g with stack := rest } (.invokevirtual index) mk (Value.ref b :: argsL).toArray X₁ hg hsize hdg hW (X₁.named hnamed) (hpre vm₁ X₁.warmed)
  exact ⟨v, vm₁, B, X₁.warmed, X', hpost, fun target h => hstep₁ _ fun acts => by rw [doInvoke_state]; exact hsteps.trans h⟩
abbrev vx_CVW (R : Room) (s : State) (args : Array Value) (own C : String) (index : Nat) (y : MethodName) (bytes : ByteArray) (maxL : Nat) (ret : Option FieldType) (hh : List (Nat × Nat × Nat × Nat)) (ws : List Cond) (rm : Room) (mc ms n : Nat) : Prop :=
  (rm.cells = mc ∧ rm.slots = ms ∧ rm.frames + 1 ≤ R.frames ∧ 8 + (maxL + 11) + rm.locals ≤ R.locals ∧ (∀ w ∈ ws, ∀ (a' : Array Value) (U : State), s.WarmedH U.vm → w.before a' U = true) ∧ Cond.codeWith y bytes maxL ret hh ∈ ws) ∧
  (Cond.codeWith y bytes maxL ret hh).before args s = true ∧ (Cond.initialized y.cls).before args s = true ∧ (y.cls ≠ "java/lang/invoke/MethodHandle" ∧ y.cls ≠ "java/lang/invoke/VarHandle") ∧
  (∀ sig, parseMethodDescriptor y.desc = some sig → n = sig.parameters.length) ∧ (Cond.methodLink own index y).before args s = true ∧ (Cond.instanceMethod y).before args s = true ∧ (Cond.selects C y y).before args s = true
theorem vx_cwVW {own C : String} {index maxL mc ms : Nat} {y : MethodName} {bytes : ByteArray} {ret : Option FieldType} {hh : List (Nat × Nat × Nat × Nat)} {Ts ws ws' : List Cond} {rm : Room} (n : Nat) (ht : ∀ w ∈ Ts, w.before args s = true) (hT : GoodIn Ts (wsV own index C y ws)) (hw : ws = Cond.codeWith y bytes maxL ret hh :: ws') (hrc : rm.cells = mc) (hrs : rm.slots = ms)
    (hd : y.cls = C ∧ y.cls ≠ "java/lang/invoke/MethodHandle" ∧ y.cls ≠ "java/lang/invoke/VarHandle" ∧ (parseMethodDescriptor y.desc).map (fun d => d.parameters.length) = some n) (hR : rm.frames + 1 ≤ R.frames ∧ 8 + (maxL + 11) + rm.locals ≤ R.locals) :
    vx_CVW R s args own C index y bytes maxL ret hh ws rm mc ms n := by
  obtain ⟨hC, hd⟩ := hd
  subst hC
  have ok : ∀ w ∈ wsV own index y.cls y ws, w.before args s = true := fun w h => ht w (hT w h).1
  have hG : GoodIn Ts ws := fun w h => hT w (by unfold wsV; exact List.mem_append_right _ h)
  have hc : Cond.codeWith y bytes maxL ret hh ∈ ws := by rw [hw]; exact List.mem_cons_self
  refine ⟨⟨hrc, hrs, hR.1, hR.2, pay_in ht hG, hc⟩, ht _ (hG _ hc).1, ok _ (by simp [wsV]), ⟨hd.1, hd.2.1⟩, fun sig h => ?_, ok _ (by simp [wsV]), ok _ (by simp [wsV]), ok _ (by simp [wsV])⟩
  have h2 := hd.2.2
  rw [h] at h2
  exact (Option.some.inj h2).symm
theorem vx_runVW {y : MethodName} {bytes cc : ByteArray} {maxL nL mc ms n index : Nat} {ret : Option FieldType} {hh : List (Nat × Nat × Nat × Nat)} {ws : List Cond} {rm : Room} {Pc : Array Value → State → Prop} {Qc : Array Value → State → Outcome → State → Prop} {free : Addr → Prop} {Ts : List Cond} {own C : String} {b : Addr} {As rest : List Value} {g : JFrame}
    (S : CallFix p m c cc nL s args Ts own) (hM : Met l y ws rm Pc Qc mc ms free) (cw : vx_CVW R s args own C index y bytes maxL ret hh ws rm mc ms n) (hp : PreV s H C b Pc As)
    (hg : g.method = m) (hn : As.length = n) (hsize : g.locals.size = nL) (hstack : g.stack = As.reverse ++ .ref b :: rest) (hW : 2 * g.monitorRoom + (rest.map fun v => v.category).sum ≤ 8) (hdg : decode cc g.pc = .ok (.invokevirtual index, 3)) (hf : cells + mc ≤ R.cells ∧ slots + ms ≤ R.slots) :
    va_Run p l e R s m args below meth c H locs cells slots mc ms g rest (Qc (Value.ref b :: As).toArray) free := by
  obtain ⟨⟨hrc, hrs, hfr, hlo, hws, hcw⟩, hcode, hini, hy, hlen, hl, hin, hse⟩ := cw
  have hK : Back l R p e below s args y 3 8 (PreOf R mc ms Pc) (PostOf Qc mc ms free) := va_backW (hh := hh) (bytes := bytes) (maxL := maxL) (ret := ret) hM hp.1 hrc hrs hfr hlo hws hcw (fun a' U hW => word_at hW (Or.inl (by first | rfl | simp [Cond.onTables, Cond.keeps, Cond.steady])) hini)
  obtain ⟨hx, hb, hml, ho, -⟩ := S
  obtain ⟨-, ⟨cellB, hcB, hoB, hclB⟩, hPc⟩ := hp
  intro T hT X
  obtain ⟨v, vm₁, ⟨U', l2, c2, s2⟩, hW₁, X', ⟨g', mk, t, L, e1, e2, hq, h1, hL, h2, h3⟩, st⟩ := vx_callVW X hx (C := C) (hh := hh) (bytes := bytes) (maxL := maxL) (ret := ret) ho hl hin hse hcode hy hK (by rw [hT]; exact hcB) hoB hclB hg (hsize.trans hml.symm) (argsL := As) (rest := rest) (fun sig h => hn.trans (hlen sig h)) hstack hW (by rw [hb]; exact hdg)
    (fun vm₁ hW₁ => ⟨hf.1, hf.2, hPc (T.setVm vm₁) hT hW₁⟩)
  dsimp only [Pt.U, Pt.locs, Pt.cells, Pt.slots] at X' e1 e2 h1 h2 h3 st
  subst h1; subst h2; subst h3
  exact ⟨v, (T.setVm vm₁).calling g' mk (Value.ref b :: As).toArray, t, U', L, hT, X', hL, e1, e2, hq, st⟩
section
variable {y : MethodName} {bytes cc : ByteArray} {maxL nL mc ms n index : Nat} {ret : Option FieldType} {ws : List Cond} {rm : Room} {Pc : Array Value → State → Prop} {Qc : Array Value → State → Outcome → State → Prop} {XC : String → State → State → Prop} {free : Addr → Prop} {Ts : List Cond} {own C : String} {b : Addr} {As rest : List Value} {g : JFrame}
theorem vx_runVX {hh : List (Nat × Nat × Nat × Nat)} (S : CallFix p m c cc nL s args Ts own) (hM : vx_Met l y ws rm Pc Qc XC mc ms free) (cw : vx_CVW R s args own C index y bytes maxL ret hh ws rm mc ms n) (hp : PreV s H C b Pc As)
    (hg : g.method = m) (hn : As.length = n) (hsize : g.locals.size = nL) (hstack : g.stack = As.reverse ++ .ref b :: rest) (hW : 2 * g.monitorRoom + (rest.map fun v => v.category).sum ≤ 8) (hdg : decode cc g.pc = .ok (.invokevirtual index, 3)) (hf : cells + mc ≤ R.cells ∧ slots + ms ≤ R.slots) :
    vx_Run p l e R s m args below meth c H locs cells slots mc ms g rest (Qc (Value.ref b :: As).toArray) XC free := by
  obtain ⟨⟨hrc, hrs, hfr, hlo, hws, hcw⟩, hcode, hini, hy, hlen, hl, hin, hse⟩ := cw
  have hK : vx_Back l R p e below s args y 3 8 (PreOf R mc ms Pc) (PostOf Qc mc ms free) (vx_Post XC mc ms free) := vx_backW (hh := hh) (bytes := bytes) (maxL := maxL) (ret := ret) hM hp.1 hrc hrs hfr hlo hws hcw (fun a' U hW => word_at hW (Or.inl (by first | rfl | simp [Cond.onTables, Cond.keeps, Cond.steady])) hini)
  obtain ⟨hx, hb, hml, ho, -⟩ := S
  obtain ⟨-, ⟨cellB, hcB, hoB, hclB⟩, hPc⟩ := hp
  intro T hT X
  rcases vx_callVX X hx (C := C) (hh := hh) (bytes := bytes) (maxL := maxL) (ret := ret) ho hl hin hse hcode hy hK (by rw [hT]; exact hcB) hoB hclB hg (hsize.trans hml.symm) (argsL := As) (rest := rest) (fun sig h => hn.trans (hlen sig h)) hstack hW (by rw [hb]; exact hdg)
    (fun vm₁ hW₁ => ⟨hf.1, hf.2, hPc (T.setVm vm₁) hT hW₁⟩) with ⟨v, vm₁, ⟨U', l2, c2, s2⟩, hW₁, X', ⟨g', mk, t, L, e1, e2, hq, h1, hL, h2, h3⟩, st⟩ | ⟨q, vm₁, ⟨U', l2, c2, s2⟩, hW₁, X', ⟨g', mk, t, L, E, ce, e1, e2, hq, hce, hcv, hcl, h1, hL, h2, h3⟩, st⟩
  · dsimp only [Pt.U, Pt.locs, Pt.cells, Pt.slots] at X' e1 e2 h1 h2 h3 st
    subst h1; subst h2; subst h3
    exact Or.inl ⟨v, (T.setVm vm₁).calling g' mk (Value.ref b :: As).toArray, t, U', L, hT, X', hL, e1, e2, hq, st⟩
  · dsimp only [Pt.U, Pt.locs, Pt.cells, Pt.slots] at X' e1 e2 h1 h2 h3 st hcl
    subst h1; subst h2; subst h3
    exact Or.inr ⟨q, (T.setVm vm₁).calling g' mk (Value.ref b :: As).toArray, t, U', L, E, ce, hT, X', hL, e1, e2, hq, hce, hcv, vx_cls hW₁ hcl, st⟩
theorem vx_runSX {hh : List (Nat × Nat × Nat × Nat)} (S : CallFix p m c cc nL s args Ts own) (hM : vx_Met l y ws rm Pc Qc XC mc ms free) (cw : vx_CSW R s args own index y bytes maxL ret hh ws rm mc ms n) (hp : PreS s H Pc As)
    (hg : g.method = m) (hn : As.length = n) (hsize : g.locals.size = nL) (hstack : g.stack = As.reverse ++ rest) (hW : 2 * g.monitorRoom + (rest.map fun v => v.category).sum ≤ 8) (hdg : decode cc g.pc = .ok (.invokestatic index, 3)) (hf : cells + mc ≤ R.cells ∧ slots + ms ≤ R.slots) :
    vx_Run p l e R s m args below meth c H locs cells slots mc ms g rest (Qc As.toArray) XC free := by
  obtain ⟨⟨hrc, hrs, hfr, hlo, hws, hcw⟩, hcode, hini, hy, hlen, hl, hstt⟩ := cw
  have hK : vx_Back l R p e below s args y 3 8 (PreOf R mc ms Pc) (PostOf Qc mc ms free) (vx_Post XC mc ms free) := vx_backW (hh := hh) (bytes := bytes) (maxL := maxL) (ret := ret) hM hp.1 hrc hrs hfr hlo hws hcw (fun a' U hW => word_at hW (Or.inl (by first | rfl | simp [Cond.onTables, Cond.keeps, Cond.steady])) hini)
  obtain ⟨hx, hb, hml, ho, -⟩ := S
  intro T hT X
  rcases vx_callSX X hx (hh := hh) (bytes := bytes) (maxL := maxL) (ret := ret) ho hl hstt hini hcode hy hK hg (hsize.trans hml.symm) (argsL := As) (rest := rest) (fun sig h => hn.trans (hlen sig h)) hstack hW (by rw [hb]; exact hdg)
    (fun vm₁ hW₁ => ⟨hf.1, hf.2, hp.2 (T.setVm vm₁) hT hW₁⟩) with ⟨v, vm₁, ⟨U', l2, c2, s2⟩, hW₁, X', ⟨g', mk, t, L, e1, e2, hq, h1, hL, h2, h3⟩, st⟩ | ⟨q, vm₁, ⟨U', l2, c2, s2⟩, hW₁, X', ⟨g', mk, t, L, E, ce, e1, e2, hq, hce, hcv, hcl, h1, hL, h2, h3⟩, st⟩
  · dsimp only [Pt.U, Pt.locs, Pt.cells, Pt.slots] at X' e1 e2 h1 h2 h3 st
    subst h1; subst h2; subst h3
    exact Or.inl ⟨v, (T.setVm vm₁).calling g' mk As.toArray, t, U', L, hT, X', hL, e1, e2, hq, st⟩
  · dsimp only [Pt.U, Pt.locs, Pt.cells, Pt.slots] at X' e1 e2 h1 h2 h3 st hcl
    subst h1; subst h2; subst h3
    exact Or.inr ⟨q, (T.setVm vm₁).calling g' mk As.toArray, t, U', L, E, ce, hT, X', hL, e1, e2, hq, hce, hcv, vx_cls hW₁ hcl, st⟩
end
end VXH
theorem vx_ofWH {l : Launch} {y : MethodName} {ws ws' : List Cond} {rm : Room} {Pc : Array Value → State → Prop} {Qc : Array Value → State → Outcome → State → Prop} {XC : String → State → State → Prop} {mc ms : Nat} {free : Addr → Prop} {cc : ByteArray} {maxL : Nat} {ret : Option FieldType} {hh : List (Nat × Nat × Nat × Nat)}
    (hy : plainName y.cls = true) (hw : ws = Cond.codeWith y cc maxL ret hh :: ws')
    (body : ∀ p e s m args below meth c s₁, BodyLoose p l y (headSpec ws rm) cc maxL ret e s m args below meth c s₁ → c.maxLocals = maxL → Pc args s →
      W p l e (headSpec ws rm).room s m args below meth c s.heap [] 0 0 (vx_MQ below Qc XC args s mc ms free) (entryFrame m args maxL)) : vx_Met l y ws rm Pc Qc XC mc ms free := by
  refine MetFree.of_bodyS (code := cc) (maxLocals := maxL) (ret := ret) hy ?_ ?_
  · intro args s m h hn
    obtain ⟨m9, meth, c, hn9, h1, h2, h3, h4, -, h5, h6, -⟩ := Cond.codeWith_spec (atoms_spec (ws := ws) h _ (by rw [hw]; exact List.mem_cons_self))
    cases hn.symm.trans hn9
    exact ⟨meth, c, h1, h2, h3, h4, h5, h6⟩
  · intro p e s m args below meth c s₁ B hml hP _
    have hh0 : s₁.heap = s.heap := by rw [B.state]; rfl
    obtain ⟨t, a1, o, b1, b2, b3⟩ := body p e s m args below meth c s₁ B hml hP s₁ hh0 (Stand.of_body B)
    exact ⟨t, o, a1, b1, b2, b3⟩
/-! ===== END ===== -/
end
section
def RS : String := "SteppedList"
def TS : u_T := fun k => match k with
  | 0 => ("SteppedList", "scheme", "I", true)
  | 1 => ("SteppedList", "blocks", "[LSteppedList$Block;", true)
  | 2 => ("SteppedList", "workers", "[LSteppedList$Worker;", true)
  | 3 => ("SteppedList", "currentEpoch", "I", false)
  | _ => ("SteppedList", "faultCount", "I", false)
def tyTS : Nat → FieldType := fun k => match k with
  | 0 => .int
  | 1 => .array (.object "SteppedList$Block")
  | 2 => .array (.object "SteppedList$Worker")
  | 3 => .int
  | _ => .int
theorem nmTS : ∀ a, a < 5 → ∀ b, b < 5 → a ≠ b → (TS a).2.1 ≠ (TS b).2.1 := by decide +kernel
theorem tyTS_ok : ∀ k, k < 5 → parseFieldDescriptor (TS k).2.2.1 = some (tyTS k) := by decide +kernel
theorem owTS : ∀ k, k < 5 → (TS k).1 = RS := by decide +kernel
def RB : String := "SteppedList$Block"
def TB : u_T := fun k => match k with
  | 0 => ("SteppedList$Block", "state", "I", false)
  | 1 => ("SteppedList$Block", "key", "I", false)
  | 2 => ("SteppedList$Block", "link", "I", false)
  | 3 => ("SteppedList$Block", "marked", "Z", false)
  | 4 => ("SteppedList$Block", "life", "I", false)
  | _ => ("SteppedList$Block", "retiredWith", "I", false)
def tyTB : Nat → FieldType := fun k => match k with
  | 0 => .int
  | 1 => .int
  | 2 => .int
  | 3 => .boolean
  | 4 => .int
  | _ => .int
theorem nmTB : ∀ a, a < 6 → ∀ b, b < 6 → a ≠ b → (TB a).2.1 ≠ (TB b).2.1 := by decide +kernel
theorem tyTB_ok : ∀ k, k < 6 → parseFieldDescriptor (TB k).2.2.1 = some (tyTB k) := by decide +kernel
theorem owTB : ∀ k, k < 6 → (TB k).1 = RB := by decide +kernel
theorem fiTB : ∀ k, k < 6 → (TB k).2.2.2 = false := by decide +kernel
def RK : String := "SteppedList$Worker"
def TK : u_T := fun k => match k with
  | 0 => ("SteppedList$Worker", "number", "I", true)
  | 1 => ("SteppedList$Worker", "before", "I", false)
  | 2 => ("SteppedList$Worker", "operation", "I", false)
  | 3 => ("SteppedList$Worker", "key", "I", false)
  | 4 => ("SteppedList$Worker", "back", "I", false)
  | 5 => ("SteppedList$Worker", "backLife", "I", false)
  | 6 => ("SteppedList$Worker", "here", "I", false)
  | 7 => ("SteppedList$Worker", "hereLife", "I", false)
  | 8 => ("SteppedList$Worker", "next", "I", false)
  | 9 => ("SteppedList$Worker", "found", "Z", false)
  | 10 => ("SteppedList$Worker", "newBlock", "I", false)
  | 11 => ("SteppedList$Worker", "comingResult", "I", false)
  | 12 => ("SteppedList$Worker", "endedResult", "I", false)
  | 13 => ("SteppedList$Worker", "slot0", "I", false)
  | 14 => ("SteppedList$Worker", "slot1", "I", false)
  | _ => ("SteppedList$Worker", "announced", "I", false)
def tyTK : Nat → FieldType := fun k => match k with
  | 0 => .int
  | 1 => .int
  | 2 => .int
  | 3 => .int
  | 4 => .int
  | 5 => .int
  | 6 => .int
  | 7 => .int
  | 8 => .int
  | 9 => .boolean
  | 10 => .int
  | 11 => .int
  | 12 => .int
  | 13 => .int
  | 14 => .int
  | _ => .int
theorem nmTK : ∀ a, a < 16 → ∀ b, b < 16 → a ≠ b → (TK a).2.1 ≠ (TK b).2.1 := by decide +kernel
theorem tyTK_ok : ∀ k, k < 16 → parseFieldDescriptor (TK k).2.2.1 = some (tyTK k) := by decide +kernel
theorem owTK : ∀ k, k < 16 → (TK k).1 = RK := by decide +kernel
theorem fiTK : ∀ k, k < 16 → 0 < k → (TK k).2.2.2 = false := by decide +kernel
def RM : String := "SteppedListModel"
def TM : u_T := fun k => match k with
  | 0 => ("SteppedListModel", "thrown", "I", false)
  | 1 => ("SteppedListModel", "scheme", "I", false)
  | 2 => ("SteppedListModel", "epoch", "I", false)
  | 3 => ("SteppedListModel", "faults", "I", false)
  | 4 => ("SteppedListModel", "state", "[I", false)
  | 5 => ("SteppedListModel", "keys", "[I", false)
  | 6 => ("SteppedListModel", "links", "[I", false)
  | 7 => ("SteppedListModel", "marks", "[Z", false)
  | 8 => ("SteppedListModel", "lives", "[I", false)
  | 9 => ("SteppedListModel", "with", "[I", false)
  | 10 => ("SteppedListModel", "step", "[I", false)
  | 11 => ("SteppedListModel", "operation", "[I", false)
  | 12 => ("SteppedListModel", "wanted", "[I", false)
  | 13 => ("SteppedListModel", "back", "[I", false)
  | 14 => ("SteppedListModel", "backLife", "[I", false)
  | 15 => ("SteppedListModel", "here", "[I", false)
  | 16 => ("SteppedListModel", "hereLife", "[I", false)
  | 17 => ("SteppedListModel", "next", "[I", false)
  | 18 => ("SteppedListModel", "found", "[Z", false)
  | 19 => ("SteppedListModel", "fresh", "[I", false)
  | 20 => ("SteppedListModel", "coming", "[I", false)
  | 21 => ("SteppedListModel", "results", "[I", false)
  | 22 => ("SteppedListModel", "announced", "[I", false)
  | _ => ("SteppedListModel", "slots", "[I", false)
def tyTM : Nat → FieldType := fun k => match k with
  | 0 => .int
  | 1 => .int
  | 2 => .int
  | 3 => .int
  | 4 => .array .int
  | 5 => .array .int
  | 6 => .array .int
  | 7 => .array .boolean
  | 8 => .array .int
  | 9 => .array .int
  | 10 => .array .int
  | 11 => .array .int
  | 12 => .array .int
  | 13 => .array .int
  | 14 => .array .int
  | 15 => .array .int
  | 16 => .array .int
  | 17 => .array .int
  | 18 => .array .boolean
  | 19 => .array .int
  | 20 => .array .int
  | 21 => .array .int
  | 22 => .array .int
  | _ => .array .int
theorem nmTM : ∀ a, a < 24 → ∀ b, b < 24 → a ≠ b → (TM a).2.1 ≠ (TM b).2.1 := by decide +kernel
theorem tyTM_ok : ∀ k, k < 24 → parseFieldDescriptor (TM k).2.2.1 = some (tyTM k) := by decide +kernel
theorem owTM : ∀ k, k < 24 → (TM k).1 = RM := by decide +kernel
theorem fiTM : ∀ k, k < 4 → (TM k).2.2.2 = false := by decide +kernel
theorem tiTM : ∀ k, k < 4 → tyTM k = .int := by decide +kernel
def RL : String := "SteppedListLaw"
abbrev cS_init : ByteArray := prog_1_method_1_code
def yS_init : MethodName := ⟨RS, "<init>", "(I)V"⟩
abbrev cB_init : ByteArray := prog_2_method_1_code
def yB_init : MethodName := ⟨RB, "<init>", "()V"⟩
abbrev cK_init : ByteArray := prog_3_method_1_code
def yK_init : MethodName := ⟨RK, "<init>", "(I)V"⟩
abbrev cS_size : ByteArray := prog_1_method_12_code
def yS_size : MethodName := ⟨RS, "size", "()I"⟩
abbrev cS_has : ByteArray := prog_1_method_13_code
def yS_has : MethodName := ⟨RS, "has", "(I)Z"⟩
abbrev cS_faults : ByteArray := prog_1_method_14_code
def yS_faults : MethodName := ⟨RS, "faults", "()I"⟩
abbrev cS_epoch : ByteArray := prog_1_method_15_code
def yS_epoch : MethodName := ⟨RS, "epoch", "()I"⟩
abbrev cL_cell : ByteArray := method_2_code
def yL_cell : MethodName := ⟨RL, "cell", "([II)I"⟩
abbrev cL_begin : ByteArray := method_3_code
def yL_begin : MethodName := ⟨RL, "begin", "(LSteppedList;III)I"⟩
abbrev cS_begin : ByteArray := prog_1_method_2_code
def yS_begin : MethodName := ⟨RS, "begin", "(III)V"⟩
abbrev cS_workerOf : ByteArray := prog_1_method_16_code
def yS_workerOf : MethodName := ⟨RS, "workerOf", "(I)LSteppedList$Worker;"⟩
abbrev cK_forget : ByteArray := prog_3_method_2_code
def yK_forget : MethodName := ⟨RK, "forget", "()V"⟩
abbrev cL_step : ByteArray := method_4_code
def yL_step : MethodName := ⟨RL, "step", "(LSteppedList;I[J)I"⟩
abbrev cS_step : ByteArray := prog_1_method_3_code
def yS_step : MethodName := ⟨RS, "step", "(I)I"⟩
abbrev cS_busyWorkerOf : ByteArray := prog_1_method_17_code
def yS_busyWorkerOf : MethodName := ⟨RS, "busyWorkerOf", "(I)LSteppedList$Worker;"⟩
abbrev cS_perform : ByteArray := prog_1_method_18_code
def yS_perform : MethodName := ⟨RS, "perform", "(LSteppedList$Worker;)V"⟩
abbrev cS_startWork : ByteArray := prog_1_method_19_code
def yS_startWork : MethodName := ⟨RS, "startWork", "(LSteppedList$Worker;)V"⟩
abbrev cS_goToHead : ByteArray := prog_1_method_20_code
def yS_goToHead : MethodName := ⟨RS, "goToHead", "(LSteppedList$Worker;)V"⟩
abbrev cS_moveHereTo : ByteArray := prog_1_method_32_code
def yS_moveHereTo : MethodName := ⟨RS, "moveHereTo", "(LSteppedList$Worker;I)V"⟩
abbrev cS_nameHere : ByteArray := prog_1_method_21_code
def yS_nameHere : MethodName := ⟨RS, "nameHere", "(LSteppedList$Worker;)V"⟩
abbrev cS_checkBack : ByteArray := prog_1_method_22_code
def yS_checkBack : MethodName := ⟨RS, "checkBack", "(LSteppedList$Worker;)V"⟩
abbrev cS_lookAtBack : ByteArray := prog_1_method_34_code
def yS_lookAtBack : MethodName := ⟨RS, "lookAtBack", "(LSteppedList$Worker;)V"⟩
abbrev cS_countFault : ByteArray := prog_1_method_36_code
def yS_countFault : MethodName := ⟨RS, "countFault", "(LSteppedList$Block;I)V"⟩
abbrev cB_leadsTo : ByteArray := prog_2_method_2_code
def yB_leadsTo : MethodName := ⟨RB, "leadsTo", "(I)Z"⟩
abbrev cS_readHere : ByteArray := prog_1_method_23_code
def yS_readHere : MethodName := ⟨RS, "readHere", "(LSteppedList$Worker;)V"⟩
abbrev cS_lookAtHere : ByteArray := prog_1_method_35_code
def yS_lookAtHere : MethodName := ⟨RS, "lookAtHere", "(LSteppedList$Worker;)V"⟩
abbrev cS_cutHere : ByteArray := prog_1_method_24_code
def yS_cutHere : MethodName := ⟨RS, "cutHere", "(LSteppedList$Worker;)V"⟩
abbrev cS_takeOutHere : ByteArray := prog_1_method_33_code
def yS_takeOutHere : MethodName := ⟨RS, "takeOutHere", "(LSteppedList$Worker;)Z"⟩
abbrev cB_lead : ByteArray := prog_2_method_3_code
def yB_lead : MethodName := ⟨RB, "lead", "(I)V"⟩
abbrev cS_retireHere : ByteArray := prog_1_method_39_code
def yS_retireHere : MethodName := ⟨RS, "retireHere", "(LSteppedList$Worker;)V"⟩
abbrev cB_setFree : ByteArray := prog_2_method_5_code
def yB_setFree : MethodName := ⟨RB, "setFree", "()V"⟩
abbrev cB_retireWith : ByteArray := prog_2_method_4_code
def yB_retireWith : MethodName := ⟨RB, "retireWith", "(I)V"⟩
abbrev cS_countRetiredBy : ByteArray := prog_1_method_42_code
def yS_countRetiredBy : MethodName := ⟨RS, "countRetiredBy", "(LSteppedList$Worker;)I"⟩
abbrev cS_isRetiredBy : ByteArray := prog_1_method_44_code
def yS_isRetiredBy : MethodName := ⟨RS, "isRetiredBy", "(LSteppedList$Worker;I)Z"⟩
abbrev cS_freeUnnamed : ByteArray := prog_1_method_43_code
def yS_freeUnnamed : MethodName := ⟨RS, "freeUnnamed", "(LSteppedList$Worker;)I"⟩
abbrev cS_isNamed : ByteArray := prog_1_method_45_code
def yS_isNamed : MethodName := ⟨RS, "isNamed", "(I)Z"⟩
abbrev cS_doOperation : ByteArray := prog_1_method_25_code
def yS_doOperation : MethodName := ⟨RS, "doOperation", "(LSteppedList$Worker;)V"⟩
abbrev cS_prepareInsert : ByteArray := prog_1_method_26_code
def yS_prepareInsert : MethodName := ⟨RS, "prepareInsert", "(LSteppedList$Worker;)V"⟩
abbrev cS_giveNewBlockBack : ByteArray := prog_1_method_38_code
def yS_giveNewBlockBack : MethodName := ⟨RS, "giveNewBlockBack", "(LSteppedList$Worker;)V"⟩
abbrev cS_conclude : ByteArray := prog_1_method_31_code
def yS_conclude : MethodName := ⟨RS, "conclude", "(LSteppedList$Worker;I)V"⟩
abbrev cS_takeFreeBlock : ByteArray := prog_1_method_37_code
def yS_takeFreeBlock : MethodName := ⟨RS, "takeFreeBlock", "()I"⟩
abbrev cS_markForRemoval : ByteArray := prog_1_method_27_code
def yS_markForRemoval : MethodName := ⟨RS, "markForRemoval", "(LSteppedList$Worker;)V"⟩
abbrev cS_hangNewBlock : ByteArray := prog_1_method_28_code
def yS_hangNewBlock : MethodName := ⟨RS, "hangNewBlock", "(LSteppedList$Worker;)V"⟩
abbrev cS_endWork : ByteArray := prog_1_method_30_code
def yS_endWork : MethodName := ⟨RS, "endWork", "(LSteppedList$Worker;)V"⟩
abbrev cS_unhangHere : ByteArray := prog_1_method_29_code
def yS_unhangHere : MethodName := ⟨RS, "unhangHere", "(LSteppedList$Worker;)V"⟩
abbrev cL_finish : ByteArray := method_5_code
def yL_finish : MethodName := ⟨RL, "finish", "(LSteppedList;I[J)I"⟩
abbrev cS_finish : ByteArray := prog_1_method_4_code
def yS_finish : MethodName := ⟨RS, "finish", "(I)I"⟩
abbrev cL_result : ByteArray := method_6_code
def yL_result : MethodName := ⟨RL, "result", "(LSteppedList;I[J)I"⟩
abbrev cS_result : ByteArray := prog_1_method_5_code
def yS_result : MethodName := ⟨RS, "result", "(I)I"⟩
abbrev cL_at : ByteArray := method_7_code
def yL_at : MethodName := ⟨RL, "at", "(LSteppedList;I[J)I"⟩
abbrev cS_at : ByteArray := prog_1_method_6_code
def yS_at : MethodName := ⟨RS, "at", "(I)I"⟩
abbrev cL_known : ByteArray := method_8_code
def yL_known : MethodName := ⟨RL, "known", "(LSteppedList;II[J)I"⟩
abbrev cS_known : ByteArray := prog_1_method_7_code
def yS_known : MethodName := ⟨RS, "known", "(II)I"⟩
abbrev cL_says : ByteArray := method_9_code
def yL_says : MethodName := ⟨RL, "says", "(LSteppedList;II[J)I"⟩
abbrev cS_says : ByteArray := prog_1_method_8_code
def yS_says : MethodName := ⟨RS, "says", "(II)I"⟩
abbrev cL_advance : ByteArray := method_10_code
def yL_advance : MethodName := ⟨RL, "advance", "(LSteppedList;[J)I"⟩
abbrev cS_advance : ByteArray := prog_1_method_9_code
def yS_advance : MethodName := ⟨RS, "advance", "()Z"⟩
abbrev cS_allAnnounceCurrentEpoch : ByteArray := prog_1_method_40_code
def yS_allAnnounceCurrentEpoch : MethodName := ⟨RS, "allAnnounceCurrentEpoch", "()Z"⟩
abbrev cS_freeOldEpochs : ByteArray := prog_1_method_41_code
def yS_freeOldEpochs : MethodName := ⟨RS, "freeOldEpochs", "()V"⟩
abbrev cL_scan : ByteArray := method_11_code
def yL_scan : MethodName := ⟨RL, "scan", "(LSteppedList;I[J)I"⟩
abbrev cS_scan : ByteArray := prog_1_method_10_code
def yS_scan : MethodName := ⟨RS, "scan", "(I)I"⟩
abbrev cL_block : ByteArray := method_12_code
def yL_block : MethodName := ⟨RL, "block", "(LSteppedList;II[J)I"⟩
abbrev cS_block : ByteArray := prog_1_method_11_code
def yS_block : MethodName := ⟨RS, "block", "(II)I"⟩
abbrev cB_tell : ByteArray := prog_2_method_6_code
def yB_tell : MethodName := ⟨RB, "tell", "(I)I"⟩
abbrev cM_init : ByteArray := prog_5_method_1_code
def yM_init : MethodName := ⟨RM, "<init>", "(I)V"⟩
abbrev cM_thrown : ByteArray := prog_5_method_2_code
def yM_thrown : MethodName := ⟨RM, "thrown", "()I"⟩
abbrev cM_begin : ByteArray := prog_5_method_4_code
def yM_begin : MethodName := ⟨RM, "begin", "(III)V"⟩
abbrev cM_isThread : ByteArray := prog_5_method_3_code
def yM_isThread : MethodName := ⟨RM, "isThread", "(I)Z"⟩
abbrev cM_advance : ByteArray := prog_5_method_8_code
def yM_advance : MethodName := ⟨RM, "advance", "()Z"⟩
abbrev cM_scan : ByteArray := prog_5_method_9_code
def yM_scan : MethodName := ⟨RM, "scan", "(I)I"⟩
abbrev cM_sweep : ByteArray := prog_5_method_6_code
def yM_sweep : MethodName := ⟨RM, "sweep", "(I)I"⟩
abbrev cM_isNamed : ByteArray := prog_5_method_5_code
def yM_isNamed : MethodName := ⟨RM, "isNamed", "(I)Z"⟩
abbrev cM_step : ByteArray := prog_5_method_27_code
def yM_step : MethodName := ⟨RM, "step", "(I)I"⟩
abbrev cM_advanceThread : ByteArray := prog_5_method_26_code
def yM_advanceThread : MethodName := ⟨RM, "advanceThread", "(I)V"⟩
abbrev cM_head : ByteArray := prog_5_method_15_code
def yM_head : MethodName := ⟨RM, "head", "(I)I"⟩
abbrev cM_come : ByteArray := prog_5_method_14_code
def yM_come : MethodName := ⟨RM, "come", "(II)I"⟩
abbrev cM_name : ByteArray := prog_5_method_16_code
def yM_name : MethodName := ⟨RM, "name", "(I)I"⟩
abbrev cM_check : ByteArray := prog_5_method_17_code
def yM_check : MethodName := ⟨RM, "check", "(I)I"⟩
abbrev cM_lookBack : ByteArray := prog_5_method_11_code
def yM_lookBack : MethodName := ⟨RM, "lookBack", "(I)V"⟩
abbrev cM_look : ByteArray := prog_5_method_10_code
def yM_look : MethodName := ⟨RM, "look", "(II)V"⟩
abbrev cM_linked : ByteArray := prog_5_method_12_code
def yM_linked : MethodName := ⟨RM, "linked", "(I)Z"⟩
abbrev cM_read : ByteArray := prog_5_method_18_code
def yM_read : MethodName := ⟨RM, "read", "(I)I"⟩
abbrev cM_cut : ByteArray := prog_5_method_19_code
def yM_cut : MethodName := ⟨RM, "cut", "(I)I"⟩
abbrev cM_link : ByteArray := prog_5_method_13_code
def yM_link : MethodName := ⟨RM, "link", "(IIZ)V"⟩
abbrev cM_retire : ByteArray := prog_5_method_7_code
def yM_retire : MethodName := ⟨RM, "retire", "(II)V"⟩
abbrev cM_act : ByteArray := prog_5_method_22_code
def yM_act : MethodName := ⟨RM, "act", "(I)I"⟩
abbrev cM_insert : ByteArray := prog_5_method_20_code
def yM_insert : MethodName := ⟨RM, "insert", "(I)I"⟩
abbrev cM_remove : ByteArray := prog_5_method_21_code
def yM_remove : MethodName := ⟨RM, "remove", "(I)I"⟩
abbrev cM_hang : ByteArray := prog_5_method_23_code
def yM_hang : MethodName := ⟨RM, "hang", "(I)I"⟩
abbrev cM_end : ByteArray := prog_5_method_24_code
def yM_end : MethodName := ⟨RM, "end", "(I)I"⟩
abbrev cM_unhang : ByteArray := prog_5_method_25_code
def yM_unhang : MethodName := ⟨RM, "unhang", "(I)I"⟩
abbrev cM_finish : ByteArray := prog_5_method_28_code
def yM_finish : MethodName := ⟨RM, "finish", "(I)I"⟩
abbrev cM_result : ByteArray := prog_5_method_29_code
def yM_result : MethodName := ⟨RM, "result", "(I)I"⟩
abbrev cM_at : ByteArray := prog_5_method_30_code
def yM_at : MethodName := ⟨RM, "at", "(I)I"⟩
abbrev cM_known : ByteArray := prog_5_method_31_code
def yM_known : MethodName := ⟨RM, "known", "(II)I"⟩
abbrev cM_says : ByteArray := prog_5_method_32_code
def yM_says : MethodName := ⟨RM, "says", "(II)I"⟩
abbrev cM_block : ByteArray := prog_5_method_33_code
def yM_block : MethodName := ⟨RM, "block", "(II)I"⟩
abbrev cM_size : ByteArray := prog_5_method_35_code
def yM_size : MethodName := ⟨RM, "size", "()I"⟩
abbrev cM_count : ByteArray := prog_5_method_34_code
def yM_count : MethodName := ⟨RM, "count", "(II)I"⟩
abbrev cM_has : ByteArray := prog_5_method_36_code
def yM_has : MethodName := ⟨RM, "has", "(I)Z"⟩
abbrev cM_faults : ByteArray := prog_5_method_37_code
def yM_faults : MethodName := ⟨RM, "faults", "()I"⟩
abbrev cM_epoch : ByteArray := prog_5_method_38_code
def yM_epoch : MethodName := ⟨RM, "epoch", "()I"⟩
end
section
-- ===== states as families of numbers =====
abbrev CS : Type := Nat → Nat → Int32
def up2 (c : CS) (f i : Nat) (v : Int32) : CS := fun a b => if a = f ∧ b = i then v else c a b
theorem up2_eq (c : CS) (f i : Nat) (v : Int32) : up2 c f i v f i = v := by simp [up2]
theorem up2_f (c : CS) {f a : Nat} (i b : Nat) (v : Int32) (h : a ≠ f) : up2 c f i v a b = c a b := by simp [up2, h]
theorem up2_i (c : CS) (f a : Nat) {i b : Nat} (v : Int32) (h : b ≠ i) : up2 c f i v a b = c a b := by simp [up2, h]
theorem up2_row (c : CS) (f i : Nat) (v : Int32) : up2 c f i v f = upd (c f) i v := by
  funext b
  simp [up2, upd]
theorem up2_rowf (c : CS) {f a : Nat} (i : Nat) (v : Int32) (h : a ≠ f) : up2 c f i v a = c a := by
  funext b
  simp [up2, h]
-- ===== worlds of n cells at the addresses X =====
def gW (n : Nat) (X : Nat → Nat) (E : Nat → va_E) : va_W := (List.range n).map (fun i => (X i, E i))
theorem gW_len (n : Nat) (X : Nat → Nat) (E : Nat → va_E) : (gW n X E).length = n := by simp [gW]
theorem gW_get {n : Nat} {X : Nat → Nat} {E : Nat → va_E} {i : Nat} (h : i < n) : (gW n X E)[i]? = some (X i, E i) := by
  simp [gW, h]
theorem gW_none {n : Nat} {X : Nat → Nat} {E : Nat → va_E} {i : Nat} (h : n ≤ i) : (gW n X E)[i]? = none := by
  rw [List.getElem?_eq_none_iff, gW_len]; exact h
theorem gW_ext {n : Nat} {X : Nat → Nat} {E : Nat → va_E} {l : va_W} (hl : l.length = n) (h : ∀ i, i < n → l[i]? = some (X i, E i)) : l = gW n X E := by
  apply List.ext_getElem?
  intro j
  by_cases hj : j < n
  · rw [h j hj, gW_get hj]
  · rw [gW_none (Nat.le_of_not_lt hj), List.getElem?_eq_none_iff, hl]; omega
theorem gW_set {n : Nat} {X : Nat → Nat} {E E' : Nat → va_E} {i : Nat} {e : va_E} (h : i < n) (he : E' i = e) (ho : ∀ j, j < n → j ≠ i → E' j = E j) : (gW n X E).set i (X i, e) = gW n X E' := by
  refine gW_ext (by rw [List.length_set, gW_len]) (fun j hj => ?_)
  by_cases hji : j = i
  · subst hji
    rw [List.getElem?_set_self (by rw [gW_len]; exact h), he]
  · rw [List.getElem?_set_ne (Ne.symm hji), gW_get hj, ho j hj hji]
theorem gW_congr {n : Nat} {X X' : Nat → Nat} {E E' : Nat → va_E} (hx : ∀ i, i < n → X i = X' i) (h : ∀ i, i < n → E i = E' i) : gW n X E = gW n X' E' :=
  gW_ext (by rw [gW_len]) (fun i hi => by rw [gW_get hi, hx i hi, h i hi])
theorem gW_push {n : Nat} {X : Nat → Nat} {E : Nat → va_E} {q : Nat} {e : va_E} : gW n X E ++ [(q, e)] = gW (n + 1) (va_up X n q) (va_up E n e) := by
  refine gW_ext (by rw [List.length_append, gW_len]; rfl) (fun j hj => ?_)
  by_cases hjn : j = n
  · subst hjn
    rw [List.getElem?_append_right (Nat.le_of_eq (gW_len ..)), gW_len, Nat.sub_self, va_up_self, va_up_self]
    rfl
  · rw [List.getElem?_append_left (by rw [gW_len]; omega), gW_get (by omega), va_up_ne _ _ hjn, va_up_ne _ _ hjn]
-- ===== the class's world: x, the array of blocks, 21 blocks, the array of workers, 4 workers =====
def bF (c : CS) (k : Nat) : List Value := [.int (c 0 k), .int (c 1 k), .int (c 2 k), .int (c 3 k), .int (c 4 k), .int (c 5 k)]
def wF (c : CS) (t : Nat) : List Value := [.int (c 6 t), .int (c 7 t), .int (c 8 t), .int (c 9 t), .int (c 10 t), .int (c 11 t), .int (c 12 t), .int (c 13 t), .int (c 14 t), .int (c 15 t), .int (c 16 t), .int (c 17 t), .int (c 18 t), .int (c 19 t), .int (c 20 t), .int (c 21 t)]
def xF (X : Nat → Nat) (c : CS) : List Value := [.int (c 22 0), .ref (X 1), .ref (X 23), .int (c 22 1), .int (c 22 2)]
def cE (X : Nat → Nat) (K : Nat → ClassId) (c : CS) (i : Nat) : va_E :=
  if i = 0 then .inr (0, xF X c)
  else if i = 1 then .inl (K 0, 21, .inr (.inr (.inr (.inr (fun k => some (X (2 + k)))))))
  else if i < 23 then .inr (1, bF c (i - 2))
  else if i = 23 then .inl (K 1, 4, .inr (.inr (.inr (.inr (fun t => some (X (24 + t)))))))
  else .inr (2, wF c (i - 24))
def cW (X : Nat → Nat) (K : Nat → ClassId) (c : CS) : va_W := gW 28 X (cE X K c)
theorem cW_x {X : Nat → Nat} {K : Nat → ClassId} {c : CS} : (cW X K c)[0]? = some (X 0, .inr (0, xF X c)) := gW_get (by omega)
theorem cW_ab {X : Nat → Nat} {K : Nat → ClassId} {c : CS} : (cW X K c)[1]? = some (X 1, .inl (K 0, 21, .inr (.inr (.inr (.inr (fun k => some (X (2 + k)))))))) := gW_get (by omega)
theorem cW_aw {X : Nat → Nat} {K : Nat → ClassId} {c : CS} : (cW X K c)[23]? = some (X 23, .inl (K 1, 4, .inr (.inr (.inr (.inr (fun t => some (X (24 + t)))))))) := gW_get (by omega)
theorem cE_b {X : Nat → Nat} {K : Nat → ClassId} {c : CS} {k : Nat} (h : k < 21) : cE X K c (2 + k) = .inr (1, bF c k) := by
  unfold cE
  rw [if_neg (by omega), if_neg (by omega), if_pos (by omega), show 2 + k - 2 = k by omega]
theorem cE_t {X : Nat → Nat} {K : Nat → ClassId} {c : CS} {t : Nat} : cE X K c (24 + t) = .inr (2, wF c t) := by
  unfold cE
  rw [if_neg (by omega), if_neg (by omega), if_neg (by omega), if_neg (by omega), show 24 + t - 24 = t by omega]
theorem cW_b {X : Nat → Nat} {K : Nat → ClassId} {c : CS} {k : Nat} (h : k < 21) : (cW X K c)[2 + k]? = some (X (2 + k), .inr (1, bF c k)) := by
  rw [show (cW X K c)[2 + k]? = some (X (2 + k), cE X K c (2 + k)) from gW_get (by omega), cE_b h]
theorem cW_t {X : Nat → Nat} {K : Nat → ClassId} {c : CS} {t : Nat} (h : t < 4) : (cW X K c)[24 + t]? = some (X (24 + t), .inr (2, wF c t)) := by
  rw [show (cW X K c)[24 + t]? = some (X (24 + t), cE X K c (24 + t)) from gW_get (by omega), cE_t]
/-- which cell a family lies in, and nowhere else -/
theorem cE_other {X : Nat → Nat} {K : Nat → ClassId} {c : CS} {f i j : Nat} {v : Int32} (h : (f < 6 ∧ j ≠ 2 + i) ∨ (6 ≤ f ∧ f < 22 ∧ j ≠ 24 + i) ∨ (f = 22 ∧ j ≠ 0)) : cE X K (up2 c f i v) j = cE X K c j := by
  unfold cE
  by_cases h0 : j = 0
  · rw [if_pos h0, if_pos h0]
    have hf : (22 : Nat) ≠ f := by omega
    simp only [xF, up2_f c _ _ v hf]
  · rw [if_neg h0, if_neg h0]
    by_cases h1 : j = 1
    · rw [if_pos h1, if_pos h1]
    · rw [if_neg h1, if_neg h1]
      by_cases h2 : j < 23
      · rw [if_pos h2, if_pos h2]
        have hb : bF (up2 c f i v) (j - 2) = bF c (j - 2) := by
          rcases h with h | h | h
          · have hk : j - 2 ≠ i := by omega
            simp only [bF, up2_i c _ _ v hk]
          · have hf : ∀ a, a < 6 → up2 c f i v a (j - 2) = c a (j - 2) := fun a ha => up2_f c _ _ v (by omega)
            simp only [bF, hf 0 (by omega), hf 1 (by omega), hf 2 (by omega), hf 3 (by omega), hf 4 (by omega), hf 5 (by omega)]
          · have hf : ∀ a, a < 6 → up2 c f i v a (j - 2) = c a (j - 2) := fun a ha => up2_f c _ _ v (by omega)
            simp only [bF, hf 0 (by omega), hf 1 (by omega), hf 2 (by omega), hf 3 (by omega), hf 4 (by omega), hf 5 (by omega)]
        rw [hb]
      · rw [if_neg h2, if_neg h2]
        by_cases h3 : j = 23
        · rw [if_pos h3, if_pos h3]
        · rw [if_neg h3, if_neg h3]
          have hw : ∀ a, 6 ≤ a → a < 22 → up2 c f i v a (j - 24) = c a (j - 24) := by
            intro a ha hb
            rcases h with h | h | h
            · exact up2_f c _ _ v (by omega)
            · exact up2_i c _ _ v (by omega)
            · exact up2_f c _ _ v (by omega)
          simp only [wF, hw 6 (by omega) (by omega), hw 7 (by omega) (by omega), hw 8 (by omega) (by omega), hw 9 (by omega) (by omega), hw 10 (by omega) (by omega), hw 11 (by omega) (by omega), hw 12 (by omega) (by omega), hw 13 (by omega) (by omega), hw 14 (by omega) (by omega), hw 15 (by omega) (by omega), hw 16 (by omega) (by omega), hw 17 (by omega) (by omega), hw 18 (by omega) (by omega), hw 19 (by omega) (by omega), hw 20 (by omega) (by omega), hw 21 (by omega) (by omega)]
theorem bF_set {c : CS} {k f : Nat} {v : Int32} (h : f < 6) : bF (up2 c f k v) k = (bF c k).set f (.int v) := by
  rcases (show f = 0 ∨ f = 1 ∨ f = 2 ∨ f = 3 ∨ f = 4 ∨ f = 5 by omega) with rfl | rfl | rfl | rfl | rfl | rfl <;> simp [bF, up2]
theorem wF_set {c : CS} {t f : Nat} {v : Int32} (h : f < 16) : wF (up2 c (6 + f) t v) t = (wF c t).set f (.int v) := by
  rcases (show f = 0 ∨ f = 1 ∨ f = 2 ∨ f = 3 ∨ f = 4 ∨ f = 5 ∨ f = 6 ∨ f = 7 ∨ f = 8 ∨ f = 9 ∨ f = 10 ∨ f = 11 ∨ f = 12 ∨ f = 13 ∨ f = 14 ∨ f = 15 by omega) with rfl | rfl | rfl | rfl | rfl | rfl | rfl | rfl | rfl | rfl | rfl | rfl | rfl | rfl | rfl | rfl <;> simp [wF, up2]
theorem cW_setb {X : Nat → Nat} {K : Nat → ClassId} {c : CS} {k f : Nat} {v : Int32} (hk : k < 21) (hf : f < 6) : (cW X K c).set (2 + k) (X (2 + k), .inr (1, (bF c k).set f (.int v))) = cW X K (up2 c f k v) :=
  gW_set (by omega) (by rw [cE_b hk, bF_set hf]) (fun j _ hj => cE_other (Or.inl ⟨hf, hj⟩))
theorem cW_sett {X : Nat → Nat} {K : Nat → ClassId} {c : CS} {t f : Nat} {v : Int32} (ht : t < 4) (hf : f < 16) : (cW X K c).set (24 + t) (X (24 + t), .inr (2, (wF c t).set f (.int v))) = cW X K (up2 c (6 + f) t v) :=
  gW_set (by omega) (by rw [cE_t, wF_set hf]) (fun j _ hj => cE_other (Or.inr (Or.inl ⟨by omega, by omega, hj⟩)))
theorem cW_set3 {X : Nat → Nat} {K : Nat → ClassId} {c : CS} {v : Int32} : (cW X K c).set 0 (X 0, .inr (0, (xF X c).set 3 (.int v))) = cW X K (up2 c 22 1 v) :=
  gW_set (by omega) (by simp [cE, xF, up2]) (fun j _ hj => cE_other (Or.inr (Or.inr ⟨rfl, hj⟩)))
theorem cW_set4 {X : Nat → Nat} {K : Nat → ClassId} {c : CS} {v : Int32} : (cW X K c).set 0 (X 0, .inr (0, (xF X c).set 4 (.int v))) = cW X K (up2 c 22 2 v) :=
  gW_set (by omega) (by simp [cE, xF, up2]) (fun j _ hj => cE_other (Or.inr (Or.inr ⟨rfl, hj⟩)))
-- ===== the reference's world: m, then its twenty arrays =====
def mlen (f : Nat) : Nat := if f < 6 then 21 else if f = 19 then 8 else 4
def mK (K : Nat → ClassId) (f : Nat) : ClassId := if f = 3 ∨ f = 14 then K 3 else K 2
def mF (Y : Nat → Nat) (m : CS) : List Value := [.int (m 20 0), .int (m 20 1), .int (m 20 2), .int (m 20 3), .ref (Y 1), .ref (Y 2), .ref (Y 3), .ref (Y 4), .ref (Y 5), .ref (Y 6), .ref (Y 7), .ref (Y 8), .ref (Y 9), .ref (Y 10), .ref (Y 11), .ref (Y 12), .ref (Y 13), .ref (Y 14), .ref (Y 15), .ref (Y 16), .ref (Y 17), .ref (Y 18), .ref (Y 19), .ref (Y 20)]
def mE (Y : Nat → Nat) (K : Nat → ClassId) (m : CS) (i : Nat) : va_E :=
  if i = 0 then .inr (3, mF Y m) else .inl (mK K (i - 1), mlen (i - 1), .inl (m (i - 1)))
def mW (Y : Nat → Nat) (K : Nat → ClassId) (m : CS) : va_W := gW 21 Y (mE Y K m)
theorem mW_m {Y : Nat → Nat} {K : Nat → ClassId} {m : CS} : (mW Y K m)[0]? = some (Y 0, .inr (3, mF Y m)) := gW_get (by omega)
theorem mE_a {Y : Nat → Nat} {K : Nat → ClassId} {m : CS} {f : Nat} : mE Y K m (1 + f) = .inl (mK K f, mlen f, .inl (m f)) := by
  unfold mE
  rw [if_neg (by omega), show 1 + f - 1 = f by omega]
theorem mW_a {Y : Nat → Nat} {K : Nat → ClassId} {m : CS} {f : Nat} (h : f < 20) : (mW Y K m)[1 + f]? = some (Y (1 + f), .inl (mK K f, mlen f, .inl (m f))) := by
  rw [show (mW Y K m)[1 + f]? = some (Y (1 + f), mE Y K m (1 + f)) from gW_get (by omega), mE_a]
theorem mE_other {Y : Nat → Nat} {K : Nat → ClassId} {m : CS} {f i j : Nat} {v : Int32} (h : (f < 20 ∧ j ≠ 1 + f) ∨ (f = 20 ∧ j ≠ 0 ∧ j < 21)) : mE Y K (up2 m f i v) j = mE Y K m j := by
  unfold mE
  by_cases h0 : j = 0
  · rw [if_pos h0, if_pos h0]
    have hf : (20 : Nat) ≠ f := by omega
    simp only [mF, up2_f m _ _ v hf]
  · rw [if_neg h0, if_neg h0, up2_rowf m i v (show j - 1 ≠ f by omega)]
theorem mW_seta {Y : Nat → Nat} {K : Nat → ClassId} {m : CS} {f i : Nat} {v : Int32} (hf : f < 20) : (mW Y K m).set (1 + f) (Y (1 + f), .inl (mK K f, mlen f, .inl (upd (m f) i v))) = mW Y K (up2 m f i v) :=
  gW_set (by omega) (by rw [mE_a, up2_row]) (fun j _ hj => mE_other (Or.inl ⟨hf, hj⟩))
theorem mW_setm {Y : Nat → Nat} {K : Nat → ClassId} {m : CS} {i : Nat} {v : Int32} (hi : i < 4) : (mW Y K m).set 0 (Y 0, .inr (3, (mF Y m).set i (.int v))) = mW Y K (up2 m 20 i v) :=
  gW_set (by omega) (by rcases (show i = 0 ∨ i = 1 ∨ i = 2 ∨ i = 3 by omega) with rfl | rfl | rfl | rfl <;> simp [mE, mF, up2]) (fun j hj hj0 => mE_other (Or.inr ⟨rfl, hj0, hj⟩))
-- ===== ranges, rooms, small facts =====
def ixC (f : Nat) : Bool := f == 2 || f == 10 || f == 12 || f == 14 || f == 16
def Inv (c : CS) : Prop := ∀ f i, ixC f = true → vp_in (c f i) 21
def ixM (f : Nat) : Bool := f == 2 || f == 9 || f == 11 || f == 13 || f == 15
def InvM (m : CS) : Prop := ∀ f i, ixM f = true → vp_in (m f i) 21
theorem Inv.upo {c : CS} {f i : Nat} {v : Int32} (h : Inv c) (hf : ixC f = false) : Inv (up2 c f i v) := by
  intro g j hg
  have hne : g ≠ f := fun e => by rw [e, hf] at hg; cases hg
  rw [up2_f c i j v hne]; exact h g j hg
theorem Inv.upi {c : CS} {f i : Nat} {v : Int32} (h : Inv c) (hv : vp_in v 21) : Inv (up2 c f i v) := by
  intro g j hg
  unfold up2
  split
  · exact hv
  · exact h g j hg
theorem InvM.upo {c : CS} {f i : Nat} {v : Int32} (h : InvM c) (hf : ixM f = false) : InvM (up2 c f i v) := by
  intro g j hg
  have hne : g ≠ f := fun e => by rw [e, hf] at hg; cases hg
  rw [up2_f c i j v hne]; exact h g j hg
theorem InvM.upi {c : CS} {f i : Nat} {v : Int32} (h : InvM c) (hv : vp_in v 21) : InvM (up2 c f i v) := by
  intro g j hg
  unfold up2
  split
  · exact hv
  · exact h g j hg
theorem ite_c {P : Prop} {d : Decidable P} {a b : CS} (ha : P → Inv a) (hb : ¬ P → Inv b) : Inv (if P then a else b) := by
  split
  · exact ha ‹_›
  · exact hb ‹_›
theorem ite_c2 {P : Prop} {d : Decidable P} {a b : Int32 × CS} (ha : P → Inv a.2) (hb : ¬ P → Inv b.2) : Inv (if P then a else b).2 := by
  split
  · exact ha ‹_›
  · exact hb ‹_›
theorem ite_m {P : Prop} {d : Decidable P} {a b : CS} (ha : P → InvM a) (hb : ¬ P → InvM b) : InvM (if P then a else b) := by
  split
  · exact ha ‹_›
  · exact hb ‹_›
theorem ite_m2 {P : Prop} {d : Decidable P} {a b : Int32 × CS} (ha : P → InvM a.2) (hb : ¬ P → InvM b.2) : InvM (if P then a else b).2 := by
  split
  · exact ha ‹_›
  · exact hb ‹_›
theorem vp0 : vp_in 0 21 := by unfold vp_in; decide
def bz (z : Int32) : Prop := z = 0 ∨ z = 1
theorem bz0 : bz 0 := Or.inl rfl
theorem bz1 : bz 1 := Or.inr rfl
theorem bz_nar {z : Int32} (h : bz z) : narrow .boolean (.int z) = .int z := by
  rcases h with rfl | rfl <;> rfl
theorem bz_vp {z : Int32} (h : bz z) : vp_nar .boolean z = z := by
  rcases h with rfl | rfl <;> rfl
theorem cm_lt0 {k N : Nat} (h : k < N) (hN : N ≤ 100000) : ¬ nI k < 0 := nI_pos (by omega)
theorem cm_ge0 {k N : Nat} (h : k < N) (hN : N ≤ 100000) : 0 ≤ nI k := nI_pos' (by omega)
theorem sw_lo {x k : Int32} {lo : Int} (h : x = k) (hk : ¬ k.toInt < lo) : ¬ x.toInt < lo := h ▸ hk
theorem sw_hi {x k : Int32} {hi : Int} (h : x = k) (hk : ¬ hi < k.toInt) : ¬ hi < x.toInt := h ▸ hk
theorem sw_at {x k : Int32} {lo off : Int} {offs : Array Int} (h : x = k) (hk : offs[(k.toInt - lo).toNat]? = some off) : offs[(x.toInt - lo).toNat]? = some off := h ▸ hk
/-- room for d calls one in another -/
def rmD (d : Nat) : Room := { frames := d, cells := 0, slots := 0, locals := 30 * d }
end
section
def STl : List (String × Nat × String) := [("SteppedList", 142, "no such thread"), ("SteppedList", 35, "no such operation"), ("SteppedList", 40, "no such key"), ("SteppedList", 47, "the thread is not idle"), ("SteppedList", 144, "the thread is idle"), ("SteppedList", 71, "no operation ended yet"), ("SteppedList", 88, "no such thing is known"), ("SteppedList", 100, "no such thing is said"), ("SteppedList", 104, "epochs are for scheme 0"), ("SteppedList", 117, "scans are for scheme 1"), ("SteppedList", 123, "no such block"), ("SteppedList", 125, "nothing such of a block")]
def NCl : List (String × String) := [("java/lang/IllegalArgumentException", "java/lang/IndexOutOfBoundsException"), ("java/lang/IllegalStateException", "java/lang/IndexOutOfBoundsException"), ("java/util/NoSuchElementException", "java/lang/IndexOutOfBoundsException"), ("java/lang/UnsupportedOperationException", "java/lang/IndexOutOfBoundsException"), ("java/lang/IndexOutOfBoundsException", "java/lang/IllegalArgumentException"), ("java/lang/IllegalStateException", "java/lang/IllegalArgumentException"), ("java/util/NoSuchElementException", "java/lang/IllegalArgumentException"), ("java/lang/UnsupportedOperationException", "java/lang/IllegalArgumentException"), ("java/lang/IndexOutOfBoundsException", "java/lang/IllegalStateException"), ("java/lang/IllegalArgumentException", "java/lang/IllegalStateException"), ("java/util/NoSuchElementException", "java/lang/IllegalStateException"), ("java/lang/UnsupportedOperationException", "java/lang/IllegalStateException"), ("java/lang/IndexOutOfBoundsException", "java/util/NoSuchElementException"), ("java/lang/IllegalArgumentException", "java/util/NoSuchElementException"), ("java/lang/IllegalStateException", "java/util/NoSuchElementException"), ("java/lang/UnsupportedOperationException", "java/util/NoSuchElementException"), ("java/lang/IndexOutOfBoundsException", "java/lang/UnsupportedOperationException"), ("java/lang/IllegalArgumentException", "java/lang/UnsupportedOperationException"), ("java/lang/IllegalStateException", "java/lang/UnsupportedOperationException"), ("java/util/NoSuchElementException", "java/lang/UnsupportedOperationException")]
-- ===== classes, array classes, words =====
abbrev cl4 : List vw_C := [(RS, TS, 5), (RB, TB, 6), (RK, TK, 16), (RM, TM, 24)]
abbrev TY (K : Nat → ClassId) : List (ClassId × FieldType) := [(K 0, .object RB), (K 1, .object RK), (K 2, .int), (K 3, .boolean), (K 4, .long)]
/-- the tables' words that stay good however warm the tables get -/
def WSg : List Cond := lw_tbl.filter goodWord
theorem WSg_good {w : Cond} (h : w ∈ WSg) : (w.onTables && w.keeps) = true ∨ ∃ ty, w = .arrayClass ty := good_of_word (List.mem_filter.mp h).2
theorem WSg_in {w : Cond} (h : w ∈ lw_tbl) (hg : goodWord w = true) : w ∈ WSg := List.mem_filter.mpr ⟨h, hg⟩
/-- words of links inside the nest -/
def nestW : Cond → Bool
  | .fieldLinkNest .. => true
  | .methodLinkNest .. => true
  | .castable .. => true
  | _ => false
def NWl : List Cond := lw_tbl.filter nestW
theorem NWl_in {w : Cond} (h : w ∈ lw_tbl) (hg : nestW w = true) : w ∈ NWl := List.mem_filter.mpr ⟨h, hg⟩
theorem nest_tab {w : Cond} (h : nestW w = true) : w.onTables = true := by
  cases w <;> first | rfl | (exact absurd h (by decide)) | (simp [nestW] at h)
theorem nest_warm {w : Cond} {s U : State} (h : nestW w = true) (hW : s.WarmedH U.vm) (hZ : va_Nw w s) : va_Nw w U := by
  cases w <;> first | exact va_Nw.warmF hW hZ | exact va_Nw.warmM hW hZ | exact va_Nw.warmC hW hZ | (simp [nestW] at h)
/-- what of the start stands all the time: classes, links of the nest, texts, where Throwable's statics lie -/
def EV (D : va_G) (K : Nat → ClassId) (base : Nat) (U : State) : Prop :=
  va_K D cl4 (TY K) U ∧ (∀ w ∈ NWl, va_Nw w U) ∧ (∀ q ∈ STl, ∃ sa, vk_R q.1 q.2.1 q.2.2 sa U) ∧ (∀ q ∈ NCl, va_Nc q.1 q.2 U) ∧
  vx_Zq Bundle.tN "UNASSIGNED_STACK" Bundle.steD (fun q => base ≤ q) U U.heap ∧ vx_Zq Bundle.tN "SUPPRESSED_SENTINEL" Bundle.listD (fun q => base ≤ q) U U.heap
theorem EV.warm {D : va_G} {K : Nat → ClassId} {base : Nat} {s U : State} (h : EV D K base s) (hW : s.WarmedH U.vm) (hh : ∀ q : Nat, q < s.heap.size → q < base → U.heap[q]? = s.heap[q]?) : EV D K base U := by
  obtain ⟨h1, h2, h3, h4, h5, h6⟩ := h
  have hk : ∀ a : Nat, a < s.heap.size → ¬ base ≤ a → U.heap[a]? = s.heap[a]? := fun a h1 h2 => hh a h1 (Nat.lt_of_not_le h2)
  refine ⟨va_K.moved hW.alike h1, fun w hw => nest_warm (List.mem_filter.mp hw).2 hW (h2 w hw), fun q hq => ?_, fun q hq => va_Nc.moved hW.alike (h4 q hq), vx_Zq.moved hW.alike (h5.kept hk), vx_Zq.moved hW.alike (h6.kept hk)⟩
  obtain ⟨sa, hsa⟩ := h3 q hq
  exact ⟨sa, vk_R.warm hW hsa⟩
/-- a field's link in a class's pool -/
def FL (own : String) (idx : Nat) (C n d : String) : Prop := Cond.fieldLink own idx C n d ∈ WSg ∨ ∃ host, Cond.fieldLinkNest own idx C n d host ∈ NWl
theorem inTS : ∀ w ∈ u_ws RS TS 5, w ∈ WSg := by decide +kernel
theorem inTB : ∀ w ∈ u_ws RB TB 6, w ∈ WSg := by decide +kernel
theorem inTK : ∀ w ∈ u_ws RK TK 16, w ∈ WSg := by decide +kernel
theorem inTM : ∀ w ∈ u_ws RM TM 24, w ∈ WSg := by decide +kernel
end
section
-- ===== the compact judgement: a method's walk over a world =====
abbrev KM : Type := Program × Env × State × MethodId × Array Value × List Frame × Method × Code
def G (κ : KM) (l : Launch) (R : Room) (A : Nat → Prop) (Q : State → Prop) (D : va_G) (nL cells slots : Nat) (σ : va_W) (pc : Nat) (L : List (Nat × Value)) (S : List Value) : Prop :=
  ∀ (H : Heap) (locs : List Loc) (ls : Array Slot), va_P D cl4 σ H → va_D A σ → va_S A κ.2.2.1.heap H locs → lv_has ls nL L →
    W κ.1 l κ.2.1 R κ.2.2.1 κ.2.2.2.1 κ.2.2.2.2.1 κ.2.2.2.2.2.1 κ.2.2.2.2.2.2.1 κ.2.2.2.2.2.2.2 H locs cells slots Q (F0 κ.2.2.2.1 pc ls S)
/-- what stands fixed over a walk -/
def Fx (κ : KM) (A : Nat → Prop) (D : va_G) (K : Nat → ClassId) (base : Nat) (cc : ByteArray) (own : String) (nL : Nat) : Prop :=
  κ.1.tables.exec = Jvm.exec ∧ κ.2.2.2.2.2.2.2.code = cc ∧ κ.2.2.2.2.2.2.2.maxLocals = nL ∧ κ.2.2.1.vm.findClass own = some κ.2.2.2.1.cls ∧ (∀ w ∈ WSg, w.before κ.2.2.2.2.1 κ.2.2.1 = true) ∧ EV D K base κ.2.2.1 ∧ (∀ q, A q → base ≤ q) ∧ (∀ q, κ.2.2.1.heap.size ≤ q → A q) ∧ κ.2.2.2.2.2.2.1.locks = false ∧ base ≤ κ.2.2.1.heap.size
section GR
variable {κ : KM} {l : Launch} {R : Room} {A : Nat → Prop} {Q : State → Prop} {D : va_G} {K : Nat → ClassId} {base : Nat} {cc : ByteArray} {own : String} {nL cells slots pc : Nat} {σ : va_W} {L : List (Nat × Value)} {S : List Value}
theorem Fx.ex (F : Fx κ A D K base cc own nL) : κ.1.tables.exec = Jvm.exec := F.1
theorem Fx.hb (F : Fx κ A D K base cc own nL) : κ.2.2.2.2.2.2.2.code = cc := F.2.1
theorem Fx.ml (F : Fx κ A D K base cc own nL) : κ.2.2.2.2.2.2.2.maxLocals = nL := F.2.2.1
theorem Fx.ow (F : Fx κ A D K base cc own nL) : κ.2.2.1.vm.findClass own = some κ.2.2.2.1.cls := F.2.2.2.1
theorem Fx.ts (F : Fx κ A D K base cc own nL) : ∀ w ∈ WSg, w.before κ.2.2.2.2.1 κ.2.2.1 = true := F.2.2.2.2.1
theorem Fx.ev (F : Fx κ A D K base cc own nL) : EV D K base κ.2.2.1 := F.2.2.2.2.2.1
theorem Fx.ab (F : Fx κ A D K base cc own nL) : ∀ q, A q → base ≤ q := F.2.2.2.2.2.2.1
theorem Fx.an (F : Fx κ A D K base cc own nL) : ∀ q, κ.2.2.1.heap.size ≤ q → A q := F.2.2.2.2.2.2.2.1
theorem Fx.lk (F : Fx κ A D K base cc own nL) : κ.2.2.2.2.2.2.1.locks = false := F.2.2.2.2.2.2.2.2.1
theorem Fx.bs (F : Fx κ A D K base cc own nL) : base ≤ κ.2.2.1.heap.size := F.2.2.2.2.2.2.2.2.2

theorem G.iconst {n : Int} (v : Int32) (F : Fx κ A D K base cc own nL) (hd : decode cc pc = .ok (.iconst n, 1)) (hv : Int32.ofInt n = v) (kk : G κ l R A Q D nL cells slots σ (pc + 1) L (.int v :: S)) : G κ l R A Q D nL cells slots σ (pc) L (S) :=
  fun H locs ls hP hD hS hl => lv_iconst F.ex F.hb hd hv (kk H locs ls hP hD hS hl)
theorem G.bipush {n : Int} (v : Int32) (F : Fx κ A D K base cc own nL) (hd : decode cc pc = .ok (.bipush n, 2)) (hv : (Int8.ofInt n).toInt32 = v) (kk : G κ l R A Q D nL cells slots σ (pc + 2) L (.int v :: S)) : G κ l R A Q D nL cells slots σ (pc) L (S) :=
  fun H locs ls hP hD hS hl => lv_bipush F.ex F.hb hd hv (kk H locs ls hP hD hS hl)
theorem G.sipush {n : Int} (v : Int32) (F : Fx κ A D K base cc own nL) (hd : decode cc pc = .ok (.sipush n, 3)) (hv : (Int16.ofInt n).toInt32 = v) (kk : G κ l R A Q D nL cells slots σ (pc + 3) L (.int v :: S)) : G κ l R A Q D nL cells slots σ (pc) L (S) :=
  fun H locs ls hP hD hS hl => lv_sipush F.ex F.hb hd hv (kk H locs ls hP hD hS hl)
theorem G.lconst {n : Fin 2} (v : Int64) (F : Fx κ A D K base cc own nL) (hd : decode cc pc = .ok (.lconst n, 1)) (hv : Int64.ofNat (n : Nat) = v) (kk : G κ l R A Q D nL cells slots σ (pc + 1) L (.long v :: S)) : G κ l R A Q D nL cells slots σ (pc) L (S) :=
  fun H locs ls hP hD hS hl => lv_lconst F.ex F.hb hd hv (kk H locs ls hP hD hS hl)
theorem G.iload_n {k : Fin 4} {i : Nat} {x : Int32} (q : Nat) (F : Fx κ A D K base cc own nL) (hd : decode cc pc = .ok (.iload_n k, 1)) (hi : (k : Nat) = i) (hq : L[q]? = some (i, .int x)) (kk : G κ l R A Q D nL cells slots σ (pc + 1) L (.int x :: S)) : G κ l R A Q D nL cells slots σ (pc) L (S) :=
  fun H locs ls hP hD hS hl => lv_iload_n F.ex F.hb hd hi (lv_at hl q hq) (kk H locs ls hP hD hS hl)
theorem G.iload {i : Nat} {x : Int32} (q : Nat) (F : Fx κ A D K base cc own nL) (hd : decode cc pc = .ok (.iload i, 2)) (hq : L[q]? = some (i, .int x)) (kk : G κ l R A Q D nL cells slots σ (pc + 2) L (.int x :: S)) : G κ l R A Q D nL cells slots σ (pc) L (S) :=
  fun H locs ls hP hD hS hl => lv_iload F.ex F.hb hd (lv_at hl q hq) (kk H locs ls hP hD hS hl)
theorem G.aload_n {k : Fin 4} {i : Nat} {x : Nat} (q : Nat) (F : Fx κ A D K base cc own nL) (hd : decode cc pc = .ok (.aload_n k, 1)) (hi : (k : Nat) = i) (hq : L[q]? = some (i, .ref x)) (kk : G κ l R A Q D nL cells slots σ (pc + 1) L (.ref x :: S)) : G κ l R A Q D nL cells slots σ (pc) L (S) :=
  fun H locs ls hP hD hS hl => lv_aload_n F.ex F.hb hd hi (lv_at hl q hq) (kk H locs ls hP hD hS hl)
theorem G.aload {i : Nat} {x : Nat} (q : Nat) (F : Fx κ A D K base cc own nL) (hd : decode cc pc = .ok (.aload i, 2)) (hq : L[q]? = some (i, .ref x)) (kk : G κ l R A Q D nL cells slots σ (pc + 2) L (.ref x :: S)) : G κ l R A Q D nL cells slots σ (pc) L (S) :=
  fun H locs ls hP hD hS hl => lv_aload F.ex F.hb hd (lv_at hl q hq) (kk H locs ls hP hD hS hl)
theorem lv_set1 {ls : Array Slot} {nL : Nat} {L : List (Nat × Value)} {i q : Nat} {v w : Value} (hq : L[q]? = some (i, w)) (hn : (L.map (·.1)).Nodup) (h : lv_has ls nL ((i, v) :: L.filter (fun q => !(q.1 == i) && !(q.1 + 1 == i && q.2.category == 2)))) (h1 : ∀ z ∈ L, z.2.category = 1) : lv_has ls nL (L.set q (i, v)) := by
  refine ⟨h.1, h.2.1, fun z hz => ?_⟩
  refine h.2.2 z ?_
  obtain ⟨j, hj⟩ := List.getElem?_of_mem hz
  have hql := (List.getElem?_eq_some_iff.mp hq).1
  by_cases hjq : j = q
  · subst hjq
    rw [List.getElem?_set_self hql] at hj
    cases hj
    exact List.mem_cons_self
  · rw [List.getElem?_set_ne (Ne.symm hjq)] at hj
    refine List.mem_cons_of_mem _ (List.mem_filter.mpr ⟨List.mem_of_getElem? hj, ?_⟩)
    have hne : z.1 ≠ i := by
      intro e
      have a1 : (L.map (·.1))[j]? = some i := by rw [List.getElem?_map, hj]; simp [e]
      have a2 : (L.map (·.1))[q]? = some i := by rw [List.getElem?_map, hq]; rfl
      have hjl : j < (L.map (·.1)).length := (List.getElem?_eq_some_iff.mp a1).1
      exact hjq ((List.getElem?_inj hjl hn).mp (a1.trans a2.symm))
    have hc := h1 z (List.mem_of_getElem? hj)
    simp [hne, hc]
theorem lv_new1 {ls : Array Slot} {nL : Nat} {L : List (Nat × Value)} {i : Nat} {v : Value} (hn : ∀ z ∈ L, z.1 ≠ i) (h : lv_has ls nL ((i, v) :: L.filter (fun q => !(q.1 == i) && !(q.1 + 1 == i && q.2.category == 2)))) (h1 : ∀ z ∈ L, z.2.category = 1) : lv_has ls nL ((i, v) :: L) := by
  refine ⟨h.1, h.2.1, fun z hz => h.2.2 z ?_⟩
  rcases List.mem_cons.mp hz with rfl | hz
  · exact List.mem_cons_self
  · refine List.mem_cons_of_mem _ (List.mem_filter.mpr ⟨hz, ?_⟩)
    simp [hn z hz, h1 z hz]
/-- locals' places are apart and hold one word each -/
def okL (L : List (Nat × Value)) : Prop := (L.map (·.1)).Nodup ∧ ∀ z ∈ L, z.2.category = 1
def okB : List (Nat × Value) → Bool
  | [] => true
  | z :: L => !(L.any (fun y => y.1 == z.1)) && okB L && (z.2.category == 1)
theorem okB_ok : ∀ {L : List (Nat × Value)}, okB L = true → okL L
  | [], _ => ⟨List.nodup_nil, fun _ h => by cases h⟩
  | z :: L, h => by
    simp only [okB, Bool.and_eq_true, Bool.not_eq_true', List.any_eq_false, beq_iff_eq] at h
    obtain ⟨⟨h1, h2⟩, h3⟩ := h
    obtain ⟨g1, g2⟩ := okB_ok h2
    refine ⟨?_, fun y hy => ?_⟩
    · rw [List.map_cons, List.nodup_cons]
      refine ⟨fun hm => ?_, g1⟩
      obtain ⟨y, hy, e⟩ := List.mem_map.mp hm
      exact h1 y hy e
    · rcases List.mem_cons.mp hy with rfl | hy
      · exact h3
      · exact g2 y hy

theorem G.istore_n {k : Fin 4} {i : Nat} {x : Int32} {w : Value} (q : Nat) (F : Fx κ A D K base cc own nL) (hd : decode cc pc = .ok (.istore_n k, 1)) (hi : (k : Nat) = i) (hq : L[q]? = some (i, w)) (hn : i < nL) (hk : okB L = true) (kk : G κ l R A Q D nL cells slots σ (pc + 1) (L.set q (i, .int x)) (S)) : G κ l R A Q D nL cells slots σ (pc) L (.int x :: S) :=
  fun H locs ls hP hD hS hl => lv_istore_n F.ex F.hb hd hi hl hn rfl (fun ls9 h9 => kk H locs ls9 hP hD hS (lv_set1 hq (okB_ok hk).1 h9 (okB_ok hk).2))
theorem G.istore_nN {k : Fin 4} {i : Nat} {x : Int32} (F : Fx κ A D K base cc own nL) (hd : decode cc pc = .ok (.istore_n k, 1)) (hi : (k : Nat) = i) (hn : i < nL) (hk : okB ((i, .int x) :: L) = true) (kk : G κ l R A Q D nL cells slots σ (pc + 1) ((i, .int x) :: L) (S)) : G κ l R A Q D nL cells slots σ (pc) L (.int x :: S) :=
  fun H locs ls hP hD hS hl => lv_istore_n F.ex F.hb hd hi hl hn rfl (fun ls9 h9 => kk H locs ls9 hP hD hS (lv_new1 (fun z hz e => by have := (List.nodup_cons.mp (okB_ok hk).1).1; exact this (List.mem_map.mpr ⟨z, hz, e⟩)) h9 (fun z hz => (okB_ok hk).2 z (List.mem_cons_of_mem _ hz))))
theorem G.istore {i : Nat} {x : Int32} {w : Value} (q : Nat) (F : Fx κ A D K base cc own nL) (hd : decode cc pc = .ok (.istore i, 2)) (hq : L[q]? = some (i, w)) (hn : i < nL) (hk : okB L = true) (kk : G κ l R A Q D nL cells slots σ (pc + 2) (L.set q (i, .int x)) (S)) : G κ l R A Q D nL cells slots σ (pc) L (.int x :: S) :=
  fun H locs ls hP hD hS hl => lv_istore F.ex F.hb hd hl hn rfl (fun ls9 h9 => kk H locs ls9 hP hD hS (lv_set1 hq (okB_ok hk).1 h9 (okB_ok hk).2))
theorem G.istoreN {i : Nat} {x : Int32} (F : Fx κ A D K base cc own nL) (hd : decode cc pc = .ok (.istore i, 2)) (hn : i < nL) (hk : okB ((i, .int x) :: L) = true) (kk : G κ l R A Q D nL cells slots σ (pc + 2) ((i, .int x) :: L) (S)) : G κ l R A Q D nL cells slots σ (pc) L (.int x :: S) :=
  fun H locs ls hP hD hS hl => lv_istore F.ex F.hb hd hl hn rfl (fun ls9 h9 => kk H locs ls9 hP hD hS (lv_new1 (fun z hz e => by have := (List.nodup_cons.mp (okB_ok hk).1).1; exact this (List.mem_map.mpr ⟨z, hz, e⟩)) h9 (fun z hz => (okB_ok hk).2 z (List.mem_cons_of_mem _ hz))))
theorem G.astore_n {k : Fin 4} {i : Nat} {x : Nat} {w : Value} (q : Nat) (F : Fx κ A D K base cc own nL) (hd : decode cc pc = .ok (.astore_n k, 1)) (hi : (k : Nat) = i) (hq : L[q]? = some (i, w)) (hn : i < nL) (hk : okB L = true) (kk : G κ l R A Q D nL cells slots σ (pc + 1) (L.set q (i, .ref x)) (S)) : G κ l R A Q D nL cells slots σ (pc) L (.ref x :: S) :=
  fun H locs ls hP hD hS hl => lv_astore_n F.ex F.hb hd hi hl hn rfl (fun ls9 h9 => kk H locs ls9 hP hD hS (lv_set1 hq (okB_ok hk).1 h9 (okB_ok hk).2))
theorem G.astore_nN {k : Fin 4} {i : Nat} {x : Nat} (F : Fx κ A D K base cc own nL) (hd : decode cc pc = .ok (.astore_n k, 1)) (hi : (k : Nat) = i) (hn : i < nL) (hk : okB ((i, .ref x) :: L) = true) (kk : G κ l R A Q D nL cells slots σ (pc + 1) ((i, .ref x) :: L) (S)) : G κ l R A Q D nL cells slots σ (pc) L (.ref x :: S) :=
  fun H locs ls hP hD hS hl => lv_astore_n F.ex F.hb hd hi hl hn rfl (fun ls9 h9 => kk H locs ls9 hP hD hS (lv_new1 (fun z hz e => by have := (List.nodup_cons.mp (okB_ok hk).1).1; exact this (List.mem_map.mpr ⟨z, hz, e⟩)) h9 (fun z hz => (okB_ok hk).2 z (List.mem_cons_of_mem _ hz))))
theorem G.astore {i : Nat} {x : Nat} {w : Value} (q : Nat) (F : Fx κ A D K base cc own nL) (hd : decode cc pc = .ok (.astore i, 2)) (hq : L[q]? = some (i, w)) (hn : i < nL) (hk : okB L = true) (kk : G κ l R A Q D nL cells slots σ (pc + 2) (L.set q (i, .ref x)) (S)) : G κ l R A Q D nL cells slots σ (pc) L (.ref x :: S) :=
  fun H locs ls hP hD hS hl => lv_astore F.ex F.hb hd hl hn rfl (fun ls9 h9 => kk H locs ls9 hP hD hS (lv_set1 hq (okB_ok hk).1 h9 (okB_ok hk).2))
theorem G.astoreN {i : Nat} {x : Nat} (F : Fx κ A D K base cc own nL) (hd : decode cc pc = .ok (.astore i, 2)) (hn : i < nL) (hk : okB ((i, .ref x) :: L) = true) (kk : G κ l R A Q D nL cells slots σ (pc + 2) ((i, .ref x) :: L) (S)) : G κ l R A Q D nL cells slots σ (pc) L (.ref x :: S) :=
  fun H locs ls hP hD hS hl => lv_astore F.ex F.hb hd hl hn rfl (fun ls9 h9 => kk H locs ls9 hP hD hS (lv_new1 (fun z hz e => by have := (List.nodup_cons.mp (okB_ok hk).1).1; exact this (List.mem_map.mpr ⟨z, hz, e⟩)) h9 (fun z hz => (okB_ok hk).2 z (List.mem_cons_of_mem _ hz))))
theorem G.iinc {i : Nat} {n : Int} {x : Int32} (q : Nat) (v : Int32) (F : Fx κ A D K base cc own nL) (hd : decode cc pc = .ok (.iinc i n, 3)) (hq : L[q]? = some (i, .int x)) (hv : x + Int32.ofInt n = v) (hn : i < nL) (hk : okB L = true) (kk : G κ l R A Q D nL cells slots σ (pc + 3) (L.set q (i, .int v)) (S)) : G κ l R A Q D nL cells slots σ (pc) L (S) :=
  fun H locs ls hP hD hS hl => lv_iinc F.ex F.hb hd hl hq hv hn rfl (fun ls9 h9 => kk H locs ls9 hP hD hS (lv_set1 hq (okB_ok hk).1 h9 (okB_ok hk).2))
theorem G.iadd {x y : Int32} (F : Fx κ A D K base cc own nL) (hd : decode cc pc = .ok (.iadd, 1)) (kk : G κ l R A Q D nL cells slots σ (pc + 1) L (.int (x + y) :: S)) : G κ l R A Q D nL cells slots σ (pc) L (.int y :: .int x :: S) :=
  fun H locs ls hP hD hS hl => lv_iadd F.ex F.hb hd (kk H locs ls hP hD hS hl)
theorem G.isub {x y : Int32} (F : Fx κ A D K base cc own nL) (hd : decode cc pc = .ok (.isub, 1)) (kk : G κ l R A Q D nL cells slots σ (pc + 1) L (.int (x - y) :: S)) : G κ l R A Q D nL cells slots σ (pc) L (.int y :: .int x :: S) :=
  fun H locs ls hP hD hS hl => lv_isub F.ex F.hb hd (kk H locs ls hP hD hS hl)
theorem G.imul {x y : Int32} (F : Fx κ A D K base cc own nL) (hd : decode cc pc = .ok (.imul, 1)) (kk : G κ l R A Q D nL cells slots σ (pc + 1) L (.int (x * y) :: S)) : G κ l R A Q D nL cells slots σ (pc) L (.int y :: .int x :: S) :=
  fun H locs ls hP hD hS hl => lv_imul F.ex F.hb hd (kk H locs ls hP hD hS hl)
theorem G.iand {x y : Int32} (F : Fx κ A D K base cc own nL) (hd : decode cc pc = .ok (.iand, 1)) (kk : G κ l R A Q D nL cells slots σ (pc + 1) L (.int (x &&& y) :: S)) : G κ l R A Q D nL cells slots σ (pc) L (.int y :: .int x :: S) :=
  fun H locs ls hP hD hS hl => lv_iand F.ex F.hb hd (kk H locs ls hP hD hS hl)
theorem G.i2l {x : Int32} (F : Fx κ A D K base cc own nL) (hd : decode cc pc = .ok (.i2l, 1)) (kk : G κ l R A Q D nL cells slots σ (pc + 1) L (.long x.toInt64 :: S)) : G κ l R A Q D nL cells slots σ (pc) L (.int x :: S) :=
  fun H locs ls hP hD hS hl => lv_i2l F.ex F.hb hd rfl (kk H locs ls hP hD hS hl)
theorem G.lcmp {x y : Int64} (F : Fx κ A D K base cc own nL) (hd : decode cc pc = .ok (.lcmp, 1)) (kk : G κ l R A Q D nL cells slots σ (pc + 1) L (.int (lg_cmp x y) :: S)) : G κ l R A Q D nL cells slots σ (pc) L (.long y :: .long x :: S) :=
  fun H locs ls hP hD hS hl => W.lcmp F.ex F.hb hd (kk H locs ls hP hD hS hl)
theorem G.dup {a : Value} (F : Fx κ A D K base cc own nL) (hd : decode cc pc = .ok (.dup, 1)) (ha : a.category = 1) (kk : G κ l R A Q D nL cells slots σ (pc + 1) L (a :: a :: S)) : G κ l R A Q D nL cells slots σ (pc) L (a :: S) :=
  fun H locs ls hP hD hS hl => lv_dup F.ex F.hb hd ha (kk H locs ls hP hD hS hl)
theorem G.dup2 {a b : Value} (F : Fx κ A D K base cc own nL) (hd : decode cc pc = .ok (.dup2, 1)) (ha : a.category = 1) (hb : b.category = 1) (kk : G κ l R A Q D nL cells slots σ (pc + 1) L (a :: b :: a :: b :: S)) : G κ l R A Q D nL cells slots σ (pc) L (a :: b :: S) :=
  fun H locs ls hP hD hS hl => lv_dup2_11 F.ex F.hb hd ha hb (kk H locs ls hP hD hS hl)
theorem G.pop {a : Value} (F : Fx κ A D K base cc own nL) (hd : decode cc pc = .ok (.pop, 1)) (ha : a.category = 1) (kk : G κ l R A Q D nL cells slots σ (pc + 1) L (S)) : G κ l R A Q D nL cells slots σ (pc) L (a :: S) :=
  fun H locs ls hP hD hS hl => lv_pop F.ex F.hb hd ha (kk H locs ls hP hD hS hl)
theorem G.goto {off : Int} (tgt : Nat) (F : Fx κ A D K base cc own nL) (hd : decode cc pc = .ok (.goto off, 3)) (ht : (pc : Int) + off = (tgt : Int)) (kk : G κ l R A Q D nL cells slots σ (tgt) L (S)) : G κ l R A Q D nL cells slots σ (pc) L (S) :=
  fun H locs ls hP hD hS hl => lv_goto F.ex F.hb hd ht (kk H locs ls hP hD hS hl)
theorem G.icmp_eq {x y : Int32} {off : Int} (tgt : Nat) (F : Fx κ A D K base cc own nL) (hd : decode cc pc = .ok (.if_icmp .eq off, 3)) (ht : (pc : Int) + off = (tgt : Int)) (kt : x = y → G κ l R A Q D nL cells slots σ (tgt) L (S)) (kf : ¬ x = y → G κ l R A Q D nL cells slots σ (pc + 3) L (S)) : G κ l R A Q D nL cells slots σ (pc) L (.int y :: .int x :: S) :=
  fun H locs ls hP hD hS hl => lv_icmp_eq F.ex F.hb hd ht (fun h => kt h H locs ls hP hD hS hl) (fun h => kf h H locs ls hP hD hS hl)
theorem G.if_eq {x : Int32} {off : Int} (tgt : Nat) (F : Fx κ A D K base cc own nL) (hd : decode cc pc = .ok (.ifCond .eq off, 3)) (ht : (pc : Int) + off = (tgt : Int)) (kt : x = 0 → G κ l R A Q D nL cells slots σ (tgt) L (S)) (kf : ¬ x = 0 → G κ l R A Q D nL cells slots σ (pc + 3) L (S)) : G κ l R A Q D nL cells slots σ (pc) L (.int x :: S) :=
  fun H locs ls hP hD hS hl => lv_if_eq F.ex F.hb hd ht (fun h => kt h H locs ls hP hD hS hl) (fun h => kf h H locs ls hP hD hS hl)
theorem G.icmp_ne {x y : Int32} {off : Int} (tgt : Nat) (F : Fx κ A D K base cc own nL) (hd : decode cc pc = .ok (.if_icmp .ne off, 3)) (ht : (pc : Int) + off = (tgt : Int)) (kt : ¬ x = y → G κ l R A Q D nL cells slots σ (tgt) L (S)) (kf : x = y → G κ l R A Q D nL cells slots σ (pc + 3) L (S)) : G κ l R A Q D nL cells slots σ (pc) L (.int y :: .int x :: S) :=
  fun H locs ls hP hD hS hl => lv_icmp_ne F.ex F.hb hd ht (fun h => kt h H locs ls hP hD hS hl) (fun h => kf h H locs ls hP hD hS hl)
theorem G.if_ne {x : Int32} {off : Int} (tgt : Nat) (F : Fx κ A D K base cc own nL) (hd : decode cc pc = .ok (.ifCond .ne off, 3)) (ht : (pc : Int) + off = (tgt : Int)) (kt : ¬ x = 0 → G κ l R A Q D nL cells slots σ (tgt) L (S)) (kf : x = 0 → G κ l R A Q D nL cells slots σ (pc + 3) L (S)) : G κ l R A Q D nL cells slots σ (pc) L (.int x :: S) :=
  fun H locs ls hP hD hS hl => lv_if_ne F.ex F.hb hd ht (fun h => kt h H locs ls hP hD hS hl) (fun h => kf h H locs ls hP hD hS hl)
theorem G.icmp_lt {x y : Int32} {off : Int} (tgt : Nat) (F : Fx κ A D K base cc own nL) (hd : decode cc pc = .ok (.if_icmp .lt off, 3)) (ht : (pc : Int) + off = (tgt : Int)) (kt : x < y → G κ l R A Q D nL cells slots σ (tgt) L (S)) (kf : ¬ x < y → G κ l R A Q D nL cells slots σ (pc + 3) L (S)) : G κ l R A Q D nL cells slots σ (pc) L (.int y :: .int x :: S) :=
  fun H locs ls hP hD hS hl => lv_icmp_lt F.ex F.hb hd ht (fun h => kt h H locs ls hP hD hS hl) (fun h => kf h H locs ls hP hD hS hl)
theorem G.if_lt {x : Int32} {off : Int} (tgt : Nat) (F : Fx κ A D K base cc own nL) (hd : decode cc pc = .ok (.ifCond .lt off, 3)) (ht : (pc : Int) + off = (tgt : Int)) (kt : x < 0 → G κ l R A Q D nL cells slots σ (tgt) L (S)) (kf : ¬ x < 0 → G κ l R A Q D nL cells slots σ (pc + 3) L (S)) : G κ l R A Q D nL cells slots σ (pc) L (.int x :: S) :=
  fun H locs ls hP hD hS hl => lv_if_lt F.ex F.hb hd ht (fun h => kt h H locs ls hP hD hS hl) (fun h => kf h H locs ls hP hD hS hl)
theorem G.icmp_ge {x y : Int32} {off : Int} (tgt : Nat) (F : Fx κ A D K base cc own nL) (hd : decode cc pc = .ok (.if_icmp .ge off, 3)) (ht : (pc : Int) + off = (tgt : Int)) (kt : y ≤ x → G κ l R A Q D nL cells slots σ (tgt) L (S)) (kf : ¬ y ≤ x → G κ l R A Q D nL cells slots σ (pc + 3) L (S)) : G κ l R A Q D nL cells slots σ (pc) L (.int y :: .int x :: S) :=
  fun H locs ls hP hD hS hl => lv_icmp_ge F.ex F.hb hd ht (fun h => kt h H locs ls hP hD hS hl) (fun h => kf h H locs ls hP hD hS hl)
theorem G.if_ge {x : Int32} {off : Int} (tgt : Nat) (F : Fx κ A D K base cc own nL) (hd : decode cc pc = .ok (.ifCond .ge off, 3)) (ht : (pc : Int) + off = (tgt : Int)) (kt : 0 ≤ x → G κ l R A Q D nL cells slots σ (tgt) L (S)) (kf : ¬ 0 ≤ x → G κ l R A Q D nL cells slots σ (pc + 3) L (S)) : G κ l R A Q D nL cells slots σ (pc) L (.int x :: S) :=
  fun H locs ls hP hD hS hl => lv_if_ge F.ex F.hb hd ht (fun h => kt h H locs ls hP hD hS hl) (fun h => kf h H locs ls hP hD hS hl)
theorem G.icmp_gt {x y : Int32} {off : Int} (tgt : Nat) (F : Fx κ A D K base cc own nL) (hd : decode cc pc = .ok (.if_icmp .gt off, 3)) (ht : (pc : Int) + off = (tgt : Int)) (kt : y < x → G κ l R A Q D nL cells slots σ (tgt) L (S)) (kf : ¬ y < x → G κ l R A Q D nL cells slots σ (pc + 3) L (S)) : G κ l R A Q D nL cells slots σ (pc) L (.int y :: .int x :: S) :=
  fun H locs ls hP hD hS hl => lv_icmp_gt F.ex F.hb hd ht (fun h => kt h H locs ls hP hD hS hl) (fun h => kf h H locs ls hP hD hS hl)
theorem G.if_gt {x : Int32} {off : Int} (tgt : Nat) (F : Fx κ A D K base cc own nL) (hd : decode cc pc = .ok (.ifCond .gt off, 3)) (ht : (pc : Int) + off = (tgt : Int)) (kt : 0 < x → G κ l R A Q D nL cells slots σ (tgt) L (S)) (kf : ¬ 0 < x → G κ l R A Q D nL cells slots σ (pc + 3) L (S)) : G κ l R A Q D nL cells slots σ (pc) L (.int x :: S) :=
  fun H locs ls hP hD hS hl => lv_if_gt F.ex F.hb hd ht (fun h => kt h H locs ls hP hD hS hl) (fun h => kf h H locs ls hP hD hS hl)
theorem G.icmp_le {x y : Int32} {off : Int} (tgt : Nat) (F : Fx κ A D K base cc own nL) (hd : decode cc pc = .ok (.if_icmp .le off, 3)) (ht : (pc : Int) + off = (tgt : Int)) (kt : x ≤ y → G κ l R A Q D nL cells slots σ (tgt) L (S)) (kf : ¬ x ≤ y → G κ l R A Q D nL cells slots σ (pc + 3) L (S)) : G κ l R A Q D nL cells slots σ (pc) L (.int y :: .int x :: S) :=
  fun H locs ls hP hD hS hl => lv_icmp_le F.ex F.hb hd ht (fun h => kt h H locs ls hP hD hS hl) (fun h => kf h H locs ls hP hD hS hl)
theorem G.if_le {x : Int32} {off : Int} (tgt : Nat) (F : Fx κ A D K base cc own nL) (hd : decode cc pc = .ok (.ifCond .le off, 3)) (ht : (pc : Int) + off = (tgt : Int)) (kt : x ≤ 0 → G κ l R A Q D nL cells slots σ (tgt) L (S)) (kf : ¬ x ≤ 0 → G κ l R A Q D nL cells slots σ (pc + 3) L (S)) : G κ l R A Q D nL cells slots σ (pc) L (.int x :: S) :=
  fun H locs ls hP hD hS hl => lv_if_le F.ex F.hb hd ht (fun h => kt h H locs ls hP hD hS hl) (fun h => kf h H locs ls hP hD hS hl)
theorem G.tabIn {dflt lo hi : Int} {offs : Array Int} {len : Nat} {x : Int32} {off : Int} (tgt : Nat) (F : Fx κ A D K base cc own nL) (hd : decode cc pc = .ok (.tableswitch dflt lo hi offs, len)) (h1 : ¬ x.toInt < lo) (h2 : ¬ hi < x.toInt) (ho : offs[(x.toInt - lo).toNat]? = some off) (ht : (pc : Int) + off = (tgt : Int)) (kk : G κ l R A Q D nL cells slots σ (tgt) L (S)) : G κ l R A Q D nL cells slots σ (pc) L (.int x :: S) :=
  fun H locs ls hP hD hS hl => lv_tableIn F.ex F.hb hd h1 h2 ho ht (kk H locs ls hP hD hS hl)
theorem G.tabOut {dflt lo hi : Int} {offs : Array Int} {len : Nat} {x : Int32} (tgt : Nat) (F : Fx κ A D K base cc own nL) (hd : decode cc pc = .ok (.tableswitch dflt lo hi offs, len)) (h : x.toInt < lo ∨ hi < x.toInt) (ht : (pc : Int) + dflt = (tgt : Int)) (kk : G κ l R A Q D nL cells slots σ (tgt) L (S)) : G κ l R A Q D nL cells slots σ (pc) L (.int x :: S) :=
  fun H locs ls hP hD hS hl => lv_tableOut F.ex F.hb hd h ht (kk H locs ls hP hD hS hl)
theorem G.look {dflt : Int} {ps : Array (Int × Int)} {len : Nat} {x : Int32} {off : Int} (tgt : Nat) (F : Fx κ A D K base cc own nL) (hd : decode cc pc = .ok (.lookupswitch dflt ps, len)) (hp : (ps.toList.zip (ps.toList.drop 1)).all (fun (a, next) => a.1 < next.1) = true) (ho : Op.lookupswitch.offset ps.toList dflt x.toInt = off) (ht : (pc : Int) + off = (tgt : Int)) (kk : G κ l R A Q D nL cells slots σ (tgt) L (S)) : G κ l R A Q D nL cells slots σ (pc) L (.int x :: S) :=
  fun H locs ls hP hD hS hl => lv_lookup F.ex F.hb hd hp ho ht (kk H locs ls hP hD hS hl)
/-- the same state by another name -/
theorem G.st {σ' : va_W} (h : σ' = σ) (kk : G κ l R A Q D nL cells slots σ' pc L S) : G κ l R A Q D nL cells slots σ pc L S := h ▸ kk
theorem G.widen {k n : Nat} (h1 : cells ≤ k) (h2 : slots ≤ n) (kk : G κ l R A Q D nL k n σ pc L S) : G κ l R A Q D nL cells slots σ pc L S :=
  fun H locs ls hP hD hS hl => W.widen h1 h2 (kk H locs ls hP hD hS hl)
/-- fewer locals are known -/
theorem G.loc {L' : List (Nat × Value)} (h : ∀ z ∈ L', z ∈ L) (kk : G κ l R A Q D nL cells slots σ pc L' S) : G κ l R A Q D nL cells slots σ pc L S :=
  fun H locs ls hP hD hS hl => kk H locs ls hP hD hS ⟨hl.1, hl.2.1, fun q hq => hl.2.2 q (h q hq)⟩
theorem G.drop {z : Nat × Value} (kk : G κ l R A Q D nL cells slots σ pc L S) : G κ l R A Q D nL cells slots σ pc (z :: L) S := G.loc (fun y hy => List.mem_cons_of_mem _ hy) kk
/-- the number on top by another name -/
theorem G.tope {x : Int32} (y : Int32) (h : x = y) (kk : G κ l R A Q D nL cells slots σ pc L (.int y :: S)) : G κ l R A Q D nL cells slots σ pc L (.int x :: S) := h ▸ kk
end GR
-- ===== fields, arrays =====
section GF
variable {κ : KM} {l : Launch} {R : Room} {A : Nat → Prop} {Q : State → Prop} {D : va_G} {K : Nat → ClassId} {base : Nat} {cc : ByteArray} {own : String} {nL cells slots pc : Nat} {σ : va_W} {L : List (Nat × Value)} {S : List Value}
theorem G.getf {ci k N idx a : Nat} {C : String} {T : u_T} {fs : List Value} {v : Value} (q0 : Nat) (F : Fx κ A D K base cc own nL) (he : σ[q0]? = some (a, .inr (ci, fs))) (hc : cl4[ci]? = some (C, T, N)) (hin : ∀ w ∈ u_ws C T N, w ∈ WSg) (hk : k < N) (ho : (T k).1 = C) (hl : FL own idx C (T k).2.1 (T k).2.2.1) (hv : fs[k]? = some v) (hd : decode cc pc = .ok (.getfield idx, 3))
    (kk : G κ l R A Q D nL cells slots σ (pc + 3) L (v :: S)) : G κ l R A Q D nL cells slots σ pc L (.ref a :: S) := by
  intro H locs ls hP hD hS hl9
  rcases hl with hl | ⟨host, hl⟩
  · exact va_get F.ex F.hb F.ts hin F.ow F.ev.1 hP q0 he hc k hk (F.ts _ hl) (fun x hx => by rw [ho] at hx; exact hx) hv hd (kk H locs ls hP hD hS hl9)
  · exact va_getN F.ex F.hb F.ts hin F.ow F.ev.1 hP q0 he hc k hk (va_Nw.use rfl (F.ev.2.1 _ hl)) (fun x hx => by rw [ho] at hx; exact hx) hv hd (kk H locs ls hP hD hS hl9)
theorem G.putf {ci k N idx a : Nat} {C : String} {T : u_T} {fs : List Value} {v : Value} {ty : FieldType} {σ' : va_W} (ty0 : Nat → FieldType) (q0 : Nat) (F : Fx κ A D K base cc own nL) (hty : ∀ k, k < N → parseFieldDescriptor (T k).2.2.1 = some (ty0 k)) (hnm : ∀ a, a < N → ∀ b, b < N → a ≠ b → (T a).2.1 ≠ (T b).2.1) (he : σ[q0]? = some (a, .inr (ci, fs))) (hc : cl4[ci]? = some (C, T, N)) (hin : ∀ w ∈ u_ws C T N, w ∈ WSg) (hk : k < N) (ho : (T k).1 = C) (hl : FL own idx C (T k).2.1 (T k).2.2.1) (hfin : (T k).2.2.2 = false) (hd0 : ty0 k = ty) (hn : narrow ty v = v) (hfit : fits ty v = true) (hlen : k < fs.length) (hd : decode cc pc = .ok (.putfield idx, 3)) (hσ : σ.set q0 (a, .inr (ci, fs.set k v)) = σ')
    (kk : G κ l R A Q D nL cells slots σ' (pc + 3) L S) : G κ l R A Q D nL cells slots σ pc L (v :: .ref a :: S) := by
  intro H locs ls hP hD hS hl9
  have hd1 : parseFieldDescriptor (T k).2.2.1 = some ty := by rw [hty k hk, hd0]
  rcases hl with hl | ⟨host, hl⟩
  · refine va_put F.ex F.hb F.ts hin ty0 hty hnm F.ow F.ev.1 hP hD hS q0 he hc k hk (F.ts _ hl) (fun x hx => by rw [ho] at hx; exact hx) hfin hd1 hn hfit hlen hd (fun H1 locs1 hP1 hD1 hS1 => ?_)
    rw [hσ] at hP1 hD1
    exact kk H1 locs1 ls hP1 hD1 hS1 hl9
  · refine va_putN F.ex F.hb F.ts hin ty0 hty hnm F.ow F.ev.1 hP hD hS q0 he hc k hk (va_Nw.use rfl (F.ev.2.1 _ hl)) (fun x hx => by rw [ho] at hx; exact hx) hfin hd1 hn hfit hlen hd (fun H1 locs1 hP1 hD1 hS1 => ?_)
    rw [hσ] at hP1 hD1
    exact kk H1 locs1 ls hP1 hD1 hS1 hl9
variable {X : Nat → Nat} {c : CS}
theorem ix_lt {v : Int32} {n : Nat} (h : vp_in v n) : v.toNatClampNeg < n := Nat.not_le.mp fun q => h (Or.inr q)
theorem bF_at {k f : Nat} (h : f < 6) : (bF c k)[f]? = some (.int (c f k)) := by
  rcases (show f = 0 ∨ f = 1 ∨ f = 2 ∨ f = 3 ∨ f = 4 ∨ f = 5 by omega) with rfl | rfl | rfl | rfl | rfl | rfl <;> rfl
theorem wF_at {t f : Nat} (h : f < 16) : (wF c t)[f]? = some (.int (c (6 + f) t)) := by
  rcases (show f = 0 ∨ f = 1 ∨ f = 2 ∨ f = 3 ∨ f = 4 ∨ f = 5 ∨ f = 6 ∨ f = 7 ∨ f = 8 ∨ f = 9 ∨ f = 10 ∨ f = 11 ∨ f = 12 ∨ f = 13 ∨ f = 14 ∨ f = 15 by omega) with rfl | rfl | rfl | rfl | rfl | rfl | rfl | rfl | rfl | rfl | rfl | rfl | rfl | rfl | rfl | rfl <;> rfl
/-- a block's number -/
theorem G.gB {k idx : Nat} (f : Nat) (F : Fx κ A D K base cc own nL) (hk : k < 21) (hf : f < 6) (hl : FL own idx RB (TB f).2.1 (TB f).2.2.1) (hd : decode cc pc = .ok (.getfield idx, 3))
    (kk : G κ l R A Q D nL cells slots (cW X K c) (pc + 3) L (.int (c f k) :: S)) : G κ l R A Q D nL cells slots (cW X K c) pc L (.ref (X (2 + k)) :: S) :=
  G.getf (2 + k) F (cW_b hk) rfl inTB hf (owTB f hf) hl (bF_at hf) hd kk
theorem G.pB {k idx : Nat} {v : Int32} (f : Nat) (F : Fx κ A D K base cc own nL) (hk : k < 21) (hf : f < 6) (hl : FL own idx RB (TB f).2.1 (TB f).2.2.1) (hn : narrow (tyTB f) (.int v) = .int v) (hfit : fits (tyTB f) (.int v) = true) (hd : decode cc pc = .ok (.putfield idx, 3))
    (kk : G κ l R A Q D nL cells slots (cW X K (up2 c f k v)) (pc + 3) L S) : G κ l R A Q D nL cells slots (cW X K c) pc L (.int v :: .ref (X (2 + k)) :: S) :=
  G.putf tyTB (2 + k) F tyTB_ok nmTB (cW_b hk) rfl inTB hf (owTB f hf) hl (fiTB f hf) rfl hn hfit hf hd (cW_setb hk hf) kk
/-- a worker's number -/
theorem G.gT {t idx : Nat} (f g : Nat) (F : Fx κ A D K base cc own nL) (hg : 6 + f = g) (ht : t < 4) (hf : f < 16) (hl : FL own idx RK (TK f).2.1 (TK f).2.2.1) (hd : decode cc pc = .ok (.getfield idx, 3))
    (kk : G κ l R A Q D nL cells slots (cW X K c) (pc + 3) L (.int (c g t) :: S)) : G κ l R A Q D nL cells slots (cW X K c) pc L (.ref (X (24 + t)) :: S) := by
  subst hg
  exact G.getf (24 + t) F (cW_t ht) rfl inTK hf (owTK f hf) hl (wF_at hf) hd kk
theorem G.pT {t idx : Nat} {v : Int32} (f g : Nat) (F : Fx κ A D K base cc own nL) (hg : 6 + f = g) (ht : t < 4) (hf : f < 16) (hf0 : 0 < f) (hl : FL own idx RK (TK f).2.1 (TK f).2.2.1) (hn : narrow (tyTK f) (.int v) = .int v) (hfit : fits (tyTK f) (.int v) = true) (hd : decode cc pc = .ok (.putfield idx, 3))
    (kk : G κ l R A Q D nL cells slots (cW X K (up2 c g t v)) (pc + 3) L S) : G κ l R A Q D nL cells slots (cW X K c) pc L (.int v :: .ref (X (24 + t)) :: S) := by
  subst hg
  exact G.putf tyTK (24 + t) F tyTK_ok nmTK (cW_t ht) rfl inTK hf (owTK f hf) hl (fiTK f hf hf0) rfl hn hfit hf hd (cW_sett ht hf) kk
/-- the list's own numbers and arrays -/
theorem G.gX {idx : Nat} {v : Value} (f : Nat) (F : Fx κ A D K base cc own nL) (hf : f < 5) (hl : FL own idx RS (TS f).2.1 (TS f).2.2.1) (hv : (xF X c)[f]? = some v) (hd : decode cc pc = .ok (.getfield idx, 3))
    (kk : G κ l R A Q D nL cells slots (cW X K c) (pc + 3) L (v :: S)) : G κ l R A Q D nL cells slots (cW X K c) pc L (.ref (X 0) :: S) :=
  G.getf 0 F cW_x rfl inTS hf (owTS f hf) hl hv hd kk
theorem G.pX3 {idx : Nat} {v : Int32} (F : Fx κ A D K base cc own nL) (hl : FL own idx RS (TS 3).2.1 (TS 3).2.2.1) (hd : decode cc pc = .ok (.putfield idx, 3))
    (kk : G κ l R A Q D nL cells slots (cW X K (up2 c 22 1 v)) (pc + 3) L S) : G κ l R A Q D nL cells slots (cW X K c) pc L (.int v :: .ref (X 0) :: S) :=
  G.putf tyTS 0 F tyTS_ok nmTS cW_x rfl inTS (by decide) (owTS 3 (by decide)) hl rfl (ty := .int) rfl rfl rfl (Nat.le_of_ble_eq_true rfl) hd cW_set3 kk
theorem G.pX4 {idx : Nat} {v : Int32} (F : Fx κ A D K base cc own nL) (hl : FL own idx RS (TS 4).2.1 (TS 4).2.2.1) (hd : decode cc pc = .ok (.putfield idx, 3))
    (kk : G κ l R A Q D nL cells slots (cW X K (up2 c 22 2 v)) (pc + 3) L S) : G κ l R A Q D nL cells slots (cW X K c) pc L (.int v :: .ref (X 0) :: S) :=
  G.putf tyTS 0 F tyTS_ok nmTS cW_x rfl inTS (by decide) (owTS 4 (by decide)) hl rfl (ty := .int) rfl rfl rfl (Nat.le_of_ble_eq_true rfl) hd cW_set4 kk
/-- blocks[v], workers[v] -/
theorem G.ldB {v : Int32} (F : Fx κ A D K base cc own nL) (hv : vp_in v 21) (hd : decode cc pc = .ok (.aaload, 1)) (kk : G κ l R A Q D nL cells slots (cW X K c) (pc + 1) L (.ref (X (2 + v.toNatClampNeg)) :: S)) : G κ l R A Q D nL cells slots (cW X K c) pc L (.int v :: .ref (X 1) :: S) :=
  fun H locs ls hP hD hS hl9 => va_aldq F.ex F.hb F.ev.1 hP 1 0 cW_ab rfl hv hd (kk H locs ls hP hD hS hl9)
theorem G.ldT {v : Int32} (F : Fx κ A D K base cc own nL) (hv : vp_in v 4) (hd : decode cc pc = .ok (.aaload, 1)) (kk : G κ l R A Q D nL cells slots (cW X K c) (pc + 1) L (.ref (X (24 + v.toNatClampNeg)) :: S)) : G κ l R A Q D nL cells slots (cW X K c) pc L (.int v :: .ref (X 23) :: S) :=
  fun H locs ls hP hD hS hl9 => va_aldq F.ex F.hb F.ev.1 hP 23 1 cW_aw rfl hv hd (kk H locs ls hP hD hS hl9)
-- ===== the reference =====
variable {Y : Nat → Nat} {m : CS}
theorem mF_at {i : Nat} (h : i < 4) : (mF Y m)[i]? = some (.int (m 20 i)) := by
  rcases (show i = 0 ∨ i = 1 ∨ i = 2 ∨ i = 3 by omega) with rfl | rfl | rfl | rfl <;> rfl
theorem G.gM {idx : Nat} {v : Value} (f : Nat) (F : Fx κ A D K base cc own nL) (hf : f < 24) (hl : FL own idx RM (TM f).2.1 (TM f).2.2.1) (hv : (mF Y m)[f]? = some v) (hd : decode cc pc = .ok (.getfield idx, 3))
    (kk : G κ l R A Q D nL cells slots (mW Y K m) (pc + 3) L (v :: S)) : G κ l R A Q D nL cells slots (mW Y K m) pc L (.ref (Y 0) :: S) :=
  G.getf 0 F mW_m rfl inTM hf (owTM f hf) hl hv hd kk
theorem G.pM {idx : Nat} {v : Int32} (f : Nat) (F : Fx κ A D K base cc own nL) (hf : f < 4) (hl : FL own idx RM (TM f).2.1 (TM f).2.2.1) (hd : decode cc pc = .ok (.putfield idx, 3))
    (kk : G κ l R A Q D nL cells slots (mW Y K (up2 m 20 f v)) (pc + 3) L S) : G κ l R A Q D nL cells slots (mW Y K m) pc L (.int v :: .ref (Y 0) :: S) :=
  G.putf tyTM 0 F tyTM_ok nmTM mW_m rfl inTM (by omega) (owTM f (by omega)) hl (fiTM f hf) (tiTM f hf) rfl rfl (Nat.lt_of_lt_of_le hf (Nat.le_of_ble_eq_true rfl)) hd (mW_setm hf) kk
theorem G.ldM {v : Int32} (f : Nat) (F : Fx κ A D K base cc own nL) (hf : f < 20) (hb : mK K f = K 2) (hv : vp_in v (mlen f)) (hd : decode cc pc = .ok (.iaload, 1)) (kk : G κ l R A Q D nL cells slots (mW Y K m) (pc + 1) L (.int (m f v.toNatClampNeg) :: S)) : G κ l R A Q D nL cells slots (mW Y K m) pc L (.int v :: .ref (Y (1 + f)) :: S) :=
  fun H locs ls hP hD hS hl9 => va_iald F.ex F.hb F.ev.1 hP (1 + f) 2 (mW_a hf) (by rw [hb]; rfl) hv hd (kk H locs ls hP hD hS hl9)
theorem G.ldMz {v : Int32} (f : Nat) (F : Fx κ A D K base cc own nL) (hf : f < 20) (hb : mK K f = K 3) (hv : vp_in v (mlen f)) (hd : decode cc pc = .ok (.baload, 1)) (kk : G κ l R A Q D nL cells slots (mW Y K m) (pc + 1) L (.int (m f v.toNatClampNeg) :: S)) : G κ l R A Q D nL cells slots (mW Y K m) pc L (.int v :: .ref (Y (1 + f)) :: S) :=
  fun H locs ls hP hD hS hl9 => va_zald F.ex F.hb F.ev.1 hP (1 + f) 3 (mW_a hf) (by rw [hb]; rfl) hv hd (kk H locs ls hP hD hS hl9)
theorem G.stM {v x : Int32} (f : Nat) (F : Fx κ A D K base cc own nL) (hf : f < 20) (hb : mK K f = K 2) (hv : vp_in v (mlen f)) (hd : decode cc pc = .ok (.iastore, 1)) (kk : G κ l R A Q D nL cells slots (mW Y K (up2 m f v.toNatClampNeg x)) (pc + 1) L S) : G κ l R A Q D nL cells slots (mW Y K m) pc L (.int x :: .int v :: .ref (Y (1 + f)) :: S) := by
  intro H locs ls hP hD hS hl9
  refine va_iast F.ex F.hb F.ev.1 hP hD hS (1 + f) 2 (mW_a hf) (by rw [hb]; rfl) hv hd (fun H1 locs1 hP1 hD1 hS1 => ?_)
  rw [mW_seta hf] at hP1 hD1
  exact kk H1 locs1 ls hP1 hD1 hS1 hl9
theorem G.stMz {v x : Int32} (f : Nat) (F : Fx κ A D K base cc own nL) (hf : f < 20) (hb : mK K f = K 3) (hx : vp_nar .boolean x = x) (hv : vp_in v (mlen f)) (hd : decode cc pc = .ok (.bastore, 1)) (kk : G κ l R A Q D nL cells slots (mW Y K (up2 m f v.toNatClampNeg x)) (pc + 1) L S) : G κ l R A Q D nL cells slots (mW Y K m) pc L (.int x :: .int v :: .ref (Y (1 + f)) :: S) := by
  intro H locs ls hP hD hS hl9
  refine va_zast F.ex F.hb F.ev.1 hP hD hS (1 + f) 3 (mW_a hf) (by rw [hb]; rfl) hv hd (fun H1 locs1 hP1 hD1 hS1 => ?_)
  rw [hx, mW_seta hf] at hP1 hD1
  exact kk H1 locs1 ls hP1 hD1 hS1 hl9
/-- by a natural number -/
theorem vp_nat {v : Int32} {k n : Nat} (hv : v = nI k) (hk : k < n) (hn : n ≤ 1000) : vp_in v n ∧ v.toNatClampNeg = k := by
  subst hv
  exact ⟨vp_in_nI hk (by omega), nI_clamp (by omega)⟩
theorem G.ldBn {v : Int32} (k : Nat) (F : Fx κ A D K base cc own nL) (hv : v = nI k) (hk : k < 21) (hd : decode cc pc = .ok (.aaload, 1)) (kk : G κ l R A Q D nL cells slots (cW X K c) (pc + 1) L (.ref (X (2 + k)) :: S)) : G κ l R A Q D nL cells slots (cW X K c) pc L (.int v :: .ref (X 1) :: S) := by
  obtain ⟨h1, h2⟩ := vp_nat hv hk (by decide)
  refine G.ldB F h1 hd ?_
  rw [h2]; exact kk
theorem G.ldTn {v : Int32} (k : Nat) (F : Fx κ A D K base cc own nL) (hv : v = nI k) (hk : k < 4) (hd : decode cc pc = .ok (.aaload, 1)) (kk : G κ l R A Q D nL cells slots (cW X K c) (pc + 1) L (.ref (X (24 + k)) :: S)) : G κ l R A Q D nL cells slots (cW X K c) pc L (.int v :: .ref (X 23) :: S) := by
  obtain ⟨h1, h2⟩ := vp_nat hv hk (by decide)
  refine G.ldT F h1 hd ?_
  rw [h2]; exact kk
theorem mlen_le (f : Nat) : mlen f ≤ 1000 := by
  unfold mlen
  split
  · decide
  · split <;> decide
theorem G.ldMn {v : Int32} {k : Nat} (f : Nat) (F : Fx κ A D K base cc own nL) (hf : f < 20) (hb : mK K f = K 2) (hv : v = nI k) (hk : k < mlen f) (hd : decode cc pc = .ok (.iaload, 1)) (kk : G κ l R A Q D nL cells slots (mW Y K m) (pc + 1) L (.int (m f k) :: S)) : G κ l R A Q D nL cells slots (mW Y K m) pc L (.int v :: .ref (Y (1 + f)) :: S) := by
  obtain ⟨h1, h2⟩ := vp_nat hv hk (mlen_le f)
  refine G.ldM f F hf hb h1 hd ?_
  rw [h2]; exact kk
theorem G.stMn {v x : Int32} {k : Nat} (f : Nat) (F : Fx κ A D K base cc own nL) (hf : f < 20) (hb : mK K f = K 2) (hv : v = nI k) (hk : k < mlen f) (hd : decode cc pc = .ok (.iastore, 1)) (kk : G κ l R A Q D nL cells slots (mW Y K (up2 m f k x)) (pc + 1) L S) : G κ l R A Q D nL cells slots (mW Y K m) pc L (.int x :: .int v :: .ref (Y (1 + f)) :: S) := by
  obtain ⟨h1, h2⟩ := vp_nat hv hk (mlen_le f)
  refine G.stM f F hf hb h1 hd ?_
  rw [h2]; exact kk
theorem G.ldMzn {v : Int32} {k : Nat} (f : Nat) (F : Fx κ A D K base cc own nL) (hf : f < 20) (hb : mK K f = K 3) (hv : v = nI k) (hk : k < mlen f) (hd : decode cc pc = .ok (.baload, 1)) (kk : G κ l R A Q D nL cells slots (mW Y K m) (pc + 1) L (.int (m f k) :: S)) : G κ l R A Q D nL cells slots (mW Y K m) pc L (.int v :: .ref (Y (1 + f)) :: S) := by
  obtain ⟨h1, h2⟩ := vp_nat hv hk (mlen_le f)
  refine G.ldMz f F hf hb h1 hd ?_
  rw [h2]; exact kk
theorem G.stMzn {v x : Int32} {k : Nat} (f : Nat) (F : Fx κ A D K base cc own nL) (hf : f < 20) (hb : mK K f = K 3) (hx : vp_nar .boolean x = x) (hv : v = nI k) (hk : k < mlen f) (hd : decode cc pc = .ok (.bastore, 1)) (kk : G κ l R A Q D nL cells slots (mW Y K (up2 m f k x)) (pc + 1) L S) : G κ l R A Q D nL cells slots (mW Y K m) pc L (.int x :: .int v :: .ref (Y (1 + f)) :: S) := by
  obtain ⟨h1, h2⟩ := vp_nat hv hk (mlen_le f)
  refine G.stMz f F hf hb hx h1 hd ?_
  rw [h2]; exact kk
end GF
end
section
-- ===== contracts over worlds =====
def PreC (D : va_G) (K : Nat → ClassId) (base : Nat) (σ : va_W) (sz : Nat) (U : State) : Prop :=
  U.heap.size = sz ∧ va_P D cl4 σ U.heap ∧ va_D (fun q => base ≤ q) σ ∧ base ≤ U.heap.size ∧ EV D K base U
def PostC (D : va_G) (σ σ' : va_W) (sz : Nat) (t : State) : Prop := va_P D cl4 σ' t.heap ∧ va_D (va_A σ sz) σ'
/-- a method without an answer: its world σ becomes σ' -/
def CtV (l : Launch) (D : va_G) (K : Nat → ClassId) (base : Nat) (y : MethodName) (b : ByteArray) (n : Nat) (rm : Room) (av : List Value) (σ σ' : va_W) : Prop :=
  ∀ sz, Met l y (.code y b n none :: WSg) rm (va_Pc av (PreC D K base σ sz)) (va_Qv (fun _ : Unit => True) (fun _ => PostC D σ σ' sz) (va_A σ sz)) rm.cells rm.slots (va_A σ sz)
/-- .. with an int (or boolean) r as its answer -/
def CtI (l : Launch) (D : va_G) (K : Nat → ClassId) (base : Nat) (y : MethodName) (b : ByteArray) (n : Nat) (ty : FieldType) (rm : Room) (av : List Value) (σ : va_W) (r : Int32) (σ' : va_W) : Prop :=
  ∀ sz, Met l y (.code y b n (some ty) :: WSg) rm (va_Pc av (PreC D K base σ sz)) (va_Qi (fun (x : Int32) (_ : Unit) => x = r) (fun _ => PostC D σ σ' sz) (va_A σ sz)) rm.cells rm.slots (va_A σ sz)
/-- .. with the cell ra as its answer -/
def CtR (l : Launch) (D : va_G) (K : Nat → ClassId) (base : Nat) (y : MethodName) (b : ByteArray) (n : Nat) (C : String) (rm : Room) (av : List Value) (σ : va_W) (ra : Nat) (σ' : va_W) : Prop :=
  ∀ sz, Met l y (.code y b n (some (.object C)) :: WSg) rm (va_Pc av (PreC D K base σ sz)) (va_Qr (fun _ : Unit => True) (fun _ a t => a = ra ∧ PostC D σ σ' sz t) (va_A σ sz)) rm.cells rm.slots (va_A σ sz)
section CTE
variable {l : Launch} {D : va_G} {K : Nat → ClassId} {base : Nat} {y : MethodName} {b : ByteArray} {n : Nat} {rm : Room} {av : List Value} {σ σ' : va_W} {r : Int32} {ra : Nat} {ty : FieldType} {C : String}
theorem A_base {sz : Nat} (h : va_D (fun q => base ≤ q) σ) (hb : base ≤ sz) : ∀ q, va_A σ sz q → base ≤ q := by
  intro q hq
  rcases hq with ⟨k, e, hk⟩ | hq
  · exact h.2 k (q, e) hk
  · exact Nat.le_trans hb hq
theorem CtV.enter (hy : plainName y.cls = true) (hn : (lg_sl av).length ≤ n)
    (body : ∀ (κ : KM) (A : Nat → Prop) (Q : State → Prop), Fx κ A D K base b y.cls n → (∀ pc L, decode b pc = .ok (.return_, 1) → G κ l rm A Q D n rm.cells rm.slots σ' pc L []) → G κ l rm A Q D n 0 0 σ 0 (lv_args 0 av) []) : CtV l D K base y b n rm av σ σ' := by
  intro sz
  refine Met.ofW (cc := b) (maxL := n) (ret := none) hy rfl ?_
  intro p e s m args below meth c s₁ B hml hv
  obtain ⟨rfl, hsz, hP, hD0, hbz, hE⟩ := hv
  subst hsz
  have hts := atoms_spec (ws := .code y b n none :: WSg) B.pre
  have hl := lv_entry av (n := n) hn
  rw [lg_entry_eq]
  refine body (p, e, s, m, av.toArray, below, meth, c) (va_A σ s.heap.size) _ ⟨B.exec, B.bytes, hml, findClass_of_methodNamed B.named, fun w hw => hts w (List.mem_cons_of_mem _ hw), hE, A_base hD0 hbz, fun q h => Or.inr h, B.notSynchronized, hbz⟩ ?_ s.heap [] _ hP hD0.self va_S.rf hl
  intro pc L hd H locs ls hP hD hS hl
  exact W.vret B.exec B.bytes B.returns (fun t ht hW => ⟨⟨(), rfl, trivial, by rw [ht]; exact hP, hD⟩, hS.F ht⟩) hS.2.2 hd B.notSynchronized
theorem CtI.enter (hy : plainName y.cls = true) (hn : (lg_sl av).length ≤ n)
    (body : ∀ (κ : KM) (A : Nat → Prop) (Q : State → Prop), Fx κ A D K base b y.cls n → (∀ pc L v, decode b pc = .ok (.ireturn, 1) → narrow ty (.int v) = .int v → v = r → G κ l rm A Q D n rm.cells rm.slots σ' pc L [.int v]) → G κ l rm A Q D n 0 0 σ 0 (lv_args 0 av) []) : CtI l D K base y b n ty rm av σ r σ' := by
  intro sz
  refine Met.ofW (cc := b) (maxL := n) (ret := some ty) hy rfl ?_
  intro p e s m args below meth c s₁ B hml hv
  obtain ⟨rfl, hsz, hP, hD0, hbz, hE⟩ := hv
  subst hsz
  have hts := atoms_spec (ws := .code y b n (some ty) :: WSg) B.pre
  have hl := lv_entry av (n := n) hn
  rw [lg_entry_eq]
  refine body (p, e, s, m, av.toArray, below, meth, c) (va_A σ s.heap.size) _ ⟨B.exec, B.bytes, hml, findClass_of_methodNamed B.named, fun w hw => hts w (List.mem_cons_of_mem _ hw), hE, A_base hD0 hbz, fun q h => Or.inr h, B.notSynchronized, hbz⟩ ?_ s.heap [] _ hP hD0.self va_S.rf hl
  intro pc L v hd hnv hv H locs ls hP hD hS hl
  exact W.zret B.exec B.bytes B.returns hnv (fun t ht hW => ⟨⟨v, (), rfl, hv, by rw [ht]; exact hP, hD⟩, hS.F ht⟩) hS.2.2 hd B.notSynchronized
theorem CtR.enter (hy : plainName y.cls = true) (hn : (lg_sl av).length ≤ n)
    (body : ∀ (κ : KM) (A : Nat → Prop) (Q : State → Prop), Fx κ A D K base b y.cls n → (∀ pc L v, decode b pc = .ok (.areturn, 1) → v = ra → G κ l rm A Q D n rm.cells rm.slots σ' pc L [.ref v]) → G κ l rm A Q D n 0 0 σ 0 (lv_args 0 av) []) : CtR l D K base y b n C rm av σ ra σ' := by
  intro sz
  refine Met.ofW (cc := b) (maxL := n) (ret := some (.object C)) hy rfl ?_
  intro p e s m args below meth c s₁ B hml hv
  obtain ⟨rfl, hsz, hP, hD0, hbz, hE⟩ := hv
  subst hsz
  have hts := atoms_spec (ws := .code y b n (some (.object C)) :: WSg) B.pre
  have hl := lv_entry av (n := n) hn
  rw [lg_entry_eq]
  refine body (p, e, s, m, av.toArray, below, meth, c) (va_A σ s.heap.size) _ ⟨B.exec, B.bytes, hml, findClass_of_methodNamed B.named, fun w hw => hts w (List.mem_cons_of_mem _ hw), hE, A_base hD0 hbz, fun q h => Or.inr h, B.notSynchronized, hbz⟩ ?_ s.heap [] _ hP hD0.self va_S.rf hl
  intro pc L v hd hv H locs ls hP hD hS hl
  exact W.aret B.exec B.bytes B.returns (Or.inl ⟨_, rfl⟩) (Or.inr ⟨_, rfl⟩) (fun t ht hW => ⟨⟨(), v, rfl, trivial, hv, by rw [ht]; exact hP, hD⟩, hS.F ht⟩) hS.2.2 hd B.notSynchronized
end CTE
-- ===== calls =====
/-- what the tables say of a call of the instance method y at the place idx of own's pool -/
def CK (own : String) (idx : Nat) (y : MethodName) (b : ByteArray) (n : Nat) (ret : Option FieldType) (np : Nat) : Prop :=
  Cond.code y b n ret ∈ WSg ∧ Cond.initialized y.cls ∈ WSg ∧ Cond.instanceMethod y ∈ WSg ∧ Cond.selects y.cls y y ∈ WSg ∧ (Cond.methodLink own idx y ∈ WSg ∨ ∃ host, Cond.methodLinkNest own idx y host ∈ NWl) ∧ (y.cls ≠ "java/lang/invoke/MethodHandle" ∧ y.cls ≠ "java/lang/invoke/VarHandle") ∧ (parseMethodDescriptor y.desc).map (fun d => d.parameters.length) = some np
def CKs (own : String) (idx : Nat) (y : MethodName) (b : ByteArray) (n : Nat) (ret : Option FieldType) (np : Nat) : Prop :=
  Cond.code y b n ret ∈ WSg ∧ Cond.initialized y.cls ∈ WSg ∧ Cond.static y ∈ WSg ∧ Cond.methodLink own idx y ∈ WSg ∧ (y.cls ≠ "java/lang/invoke/MethodHandle" ∧ y.cls ≠ "java/lang/invoke/VarHandle") ∧ (parseMethodDescriptor y.desc).map (fun d => d.parameters.length) = some np
section CAL
variable {κ : KM} {l : Launch} {R : Room} {A : Nat → Prop} {Q : State → Prop} {D : va_G} {K : Nat → ClassId} {base : Nat} {cc : ByteArray} {own : String} {nL cells slots pc : Nat} {σ σ' : va_W} {L : List (Nat × Value)} {S : List Value}
variable {y : MethodName} {b : ByteArray} {n np idx a : Nat} {ret : Option FieldType} {rm : Room} {av As rest : List Value} {H : Heap} {locs : List Loc} {ls : Array Slot}
theorem Fx.pay (F : Fx κ A D K base cc own nL) (hc : Cond.code y b n ret ∈ WSg) : ∀ w ∈ Cond.code y b n ret :: WSg, ∀ (a' : Array Value) (U : State), κ.2.2.1.WarmedH U.vm → w.before a' U = true := by
  intro w hw a' U hW
  have h : w ∈ WSg := by
    rcases List.mem_cons.mp hw with rfl | h
    · exact hc
    · exact h
  exact word_at hW (WSg_good h) (F.ts w h)
theorem Fx.run {Pc : Array Value → State → Prop} {Qc : Array Value → State → Outcome → State → Prop} {mc ms : Nat} {free : Addr → Prop} (F : Fx κ A D K base cc own nL) (ck : CK own idx y b n ret np) (hM : Met l y (.code y b n ret :: WSg) rm Pc Qc mc ms free) (hmc : rm.cells = mc) (hms : rm.slots = ms) (hR : rm.frames + 1 ≤ R.frames ∧ 8 + (n + 11) + rm.locals ≤ R.locals)
    (hp : PreV κ.2.2.1 H y.cls a Pc As) (hn : As.length = np) (hsz : ls.size = nL) (hst : S = As.reverse ++ .ref a :: rest) (hW : (rest.map fun v => v.category).sum ≤ 8) (hd : decode cc pc = .ok (.invokevirtual idx, 3)) (hf : cells + mc ≤ R.cells ∧ slots + ms ≤ R.slots) :
    va_Run κ.1 l κ.2.1 R κ.2.2.1 κ.2.2.2.1 κ.2.2.2.2.1 κ.2.2.2.2.2.1 κ.2.2.2.2.2.2.1 κ.2.2.2.2.2.2.2 H locs cells slots mc ms (F0 κ.2.2.2.1 pc ls S) rest (Qc (Value.ref a :: As).toArray) free := by
  obtain ⟨c1, c2, c3, c4, c5, c6, c7⟩ := ck
  have hlen : ∀ sig, parseMethodDescriptor y.desc = some sig → np = sig.parameters.length := fun sig h => by
    rw [h] at c7
    exact (Option.some.inj c7).symm
  rcases c5 with c5 | ⟨host, c5⟩
  · exact va_runV (cc := cc) (nL := nL) (Ts := WSg) (own := own) ⟨F.ex, F.hb, F.ml, F.ow, F.ts⟩ hM ⟨⟨hmc, hms, hR.1, hR.2, F.pay c1, List.mem_cons_self, F.ts _ c1, F.ts _ c2, c6, hlen, F.ts _ c5⟩, F.ts _ c3, F.ts _ c4⟩ hp rfl hn hsz hst (lv_room hW) hd hf
  · exact va_runVN (cc := cc) (nL := nL) (Ts := WSg) (own := own) (host := host) ⟨F.ex, F.hb, F.ml, F.ow, F.ts⟩ hM ⟨⟨⟨hmc, hms, hR.1, hR.2, F.pay c1, List.mem_cons_self⟩, F.ts _ c1, F.ts _ c2, c6, hlen, va_Nw.use rfl (F.ev.2.1 _ c5)⟩, F.ts _ c3, F.ts _ c4⟩ hp rfl hn hsz hst (lv_room hW) hd hf
theorem PreC.blind {sz : Nat} : FrameBlind (va_Pc av (PreC D K base σ sz)) := by
  intro a U g mk h
  obtain ⟨h0, h1, h2, h3, h4, h5⟩ := h
  exact ⟨h0, h1, h2, h3, h4, h5.warm (State.WarmedH.refl U) (fun _ _ _ => rfl)⟩
/-- the callee's start holds where the caller's world holds -/
theorem Fx.pre (F : Fx κ A D K base cc own nL) (hP : va_P D cl4 σ H) (hD : va_D A σ) (hS : va_S A κ.2.2.1.heap H locs) : ∀ U : State, U.heap = H → κ.2.2.1.WarmedH U.vm → va_Pc av (PreC D K base σ H.size) av.toArray U := by
  intro U hU hW
  refine ⟨rfl, by rw [hU], by rw [hU]; exact hP, hD.weaken (fun _ _ _ h => F.ab _ h), by rw [hU]; exact Nat.le_trans F.bs hS.1, F.ev.warm hW (fun q h1 h2 => ?_)⟩
  rw [hU]
  exact hS.2.1 q h1 (fun h => by have := F.ab _ h; omega)
theorem Fx.free (F : Fx κ A D K base cc own nL) (hD : va_D A σ) (hS : va_S A κ.2.2.1.heap H locs) : ∀ q, va_A σ H.size q → A q := by
  intro q h
  rcases h with ⟨k, e, h⟩ | h
  · exact hD.2 k (q, e) h
  · exact F.an q (Nat.le_trans hS.1 h)
theorem Fx.recv {q0 ci : Nat} {fs : List Value} {r : vw_C} (F : Fx κ A D K base cc own nL) (hP : va_P D cl4 σ H) (hq : σ[q0]? = some (a, .inr (ci, fs))) (hc : cl4[ci]? = some r) (hr : r.1 = y.cls) : ∃ cellB : Cell, H[a]? = some cellB ∧ cellB.vm.isStatics = false ∧ κ.2.2.1.vm.findClass y.cls = some cellB.cls := by
  rw [← hr]
  exact va_recv F.ev.1 hP hc hq
theorem G.callv {q0 ci : Nat} {fs : List Value} {r : vw_C} (F : Fx κ A D K base cc own nL) (h : CtV l D K base y b n rm (.ref a :: As) σ σ') (ck : CK own idx y b n none np) (hq : σ[q0]? = some (a, .inr (ci, fs))) (hc : cl4[ci]? = some r) (hr : r.1 = y.cls) (hz : rm.cells = 0 ∧ rm.slots = 0) (hR : rm.frames + 1 ≤ R.frames ∧ 8 + (n + 11) + rm.locals ≤ R.locals) (hf : cells ≤ R.cells ∧ slots ≤ R.slots) (hn : As.length = np) (hst : S = As.reverse ++ .ref a :: rest) (hW : (rest.map fun v => v.category).sum ≤ 8) (hd : decode cc pc = .ok (.invokevirtual idx, 3))
    (kk : G κ l R A Q D nL cells slots σ' (pc + 3) L rest) : G κ l R A Q D nL cells slots σ pc L S := by
  intro H locs ls hP hD hS hl
  have hF := F.free hD hS
  have hM := h H.size
  rw [hz.1, hz.2] at hM
  refine va_callv (F.run (np := np) (a := a) (As := As) (rest := rest) ck hM hz.1 hz.2 hR ⟨PreC.blind, F.recv hP hq hc hr, F.pre hP hD hS⟩ hn hl.1 hst hW hd hf) hS (fun q _ h => hF q h) hF (fun u t H1 locs1 ht hvm hp hB hz1 hk1 hS1 => ?_)
  obtain ⟨hP1, hD1⟩ := hB
  rw [ht] at hP1
  exact kk H1 locs1 ls hP1 (hD1.weaken (fun _ _ _ h => hF _ h)) hS1 hl
theorem G.calli {q0 ci : Nat} {fs : List Value} {r : vw_C} {ty : FieldType} {v : Int32} (F : Fx κ A D K base cc own nL) (h : CtI l D K base y b n ty rm (.ref a :: As) σ v σ') (ck : CK own idx y b n (some ty) np) (hq : σ[q0]? = some (a, .inr (ci, fs))) (hc : cl4[ci]? = some r) (hr : r.1 = y.cls) (hz : rm.cells = 0 ∧ rm.slots = 0) (hR : rm.frames + 1 ≤ R.frames ∧ 8 + (n + 11) + rm.locals ≤ R.locals) (hf : cells ≤ R.cells ∧ slots ≤ R.slots) (hn : As.length = np) (hst : S = As.reverse ++ .ref a :: rest) (hW : (rest.map fun v => v.category).sum ≤ 8) (hd : decode cc pc = .ok (.invokevirtual idx, 3))
    (kk : G κ l R A Q D nL cells slots σ' (pc + 3) L (.int v :: rest)) : G κ l R A Q D nL cells slots σ pc L S := by
  intro H locs ls hP hD hS hl
  have hF := F.free hD hS
  have hM := h H.size
  rw [hz.1, hz.2] at hM
  refine va_calli (F.run (np := np) (a := a) (As := As) (rest := rest) ck hM hz.1 hz.2 hR ⟨PreC.blind, F.recv hP hq hc hr, F.pre hP hD hS⟩ hn hl.1 hst hW hd hf) hS (fun q _ h => hF q h) hF (fun x u t H1 locs1 ht hvm hp hB hz1 hk1 hS1 => ?_)
  obtain ⟨hP1, hD1⟩ := hB
  rw [ht] at hP1
  subst hp
  exact kk H1 locs1 ls hP1 (hD1.weaken (fun _ _ _ h => hF _ h)) hS1 hl
theorem G.callr {q0 ci : Nat} {fs : List Value} {r : vw_C} {C : String} {v : Nat} (F : Fx κ A D K base cc own nL) (h : CtR l D K base y b n C rm (.ref a :: As) σ v σ') (ck : CK own idx y b n (some (.object C)) np) (hq : σ[q0]? = some (a, .inr (ci, fs))) (hc : cl4[ci]? = some r) (hr : r.1 = y.cls) (hz : rm.cells = 0 ∧ rm.slots = 0) (hR : rm.frames + 1 ≤ R.frames ∧ 8 + (n + 11) + rm.locals ≤ R.locals) (hf : cells ≤ R.cells ∧ slots ≤ R.slots) (hn : As.length = np) (hst : S = As.reverse ++ .ref a :: rest) (hW : (rest.map fun v => v.category).sum ≤ 8) (hd : decode cc pc = .ok (.invokevirtual idx, 3))
    (kk : G κ l R A Q D nL cells slots σ' (pc + 3) L (.ref v :: rest)) : G κ l R A Q D nL cells slots σ pc L S := by
  intro H locs ls hP hD hS hl
  have hF := F.free hD hS
  have hM := h H.size
  rw [hz.1, hz.2] at hM
  refine va_callr (F.run (np := np) (a := a) (As := As) (rest := rest) ck hM hz.1 hz.2 hR ⟨PreC.blind, F.recv hP hq hc hr, F.pre hP hD hS⟩ hn hl.1 hst hW hd hf) hS (fun q _ h => hF q h) hF (fun u x t H1 locs1 ht hvm hp hB hz1 hk1 hS1 => ?_)
  obtain ⟨rfl, hP1, hD1⟩ := hB
  rw [ht] at hP1
  exact kk H1 locs1 ls hP1 (hD1.weaken (fun _ _ _ h => hF _ h)) hS1 hl
/-- .. of a static method of the class itself -/
theorem Fx.runs {Pc : Array Value → State → Prop} {Qc : Array Value → State → Outcome → State → Prop} {mc ms : Nat} {free : Addr → Prop} (F : Fx κ A D K base cc own nL) (ck : CKs own idx y b n ret np) (hM : Met l y (.code y b n ret :: WSg) rm Pc Qc mc ms free) (hmc : rm.cells = mc) (hms : rm.slots = ms) (hR : rm.frames + 1 ≤ R.frames ∧ 8 + (n + 11) + rm.locals ≤ R.locals)
    (hp : PreS κ.2.2.1 H Pc As) (hn : As.length = np) (hsz : ls.size = nL) (hst : S = As.reverse ++ rest) (hW : (rest.map fun v => v.category).sum ≤ 8) (hd : decode cc pc = .ok (.invokestatic idx, 3)) (hf : cells + mc ≤ R.cells ∧ slots + ms ≤ R.slots) :
    va_Run κ.1 l κ.2.1 R κ.2.2.1 κ.2.2.2.1 κ.2.2.2.2.1 κ.2.2.2.2.2.1 κ.2.2.2.2.2.2.1 κ.2.2.2.2.2.2.2 H locs cells slots mc ms (F0 κ.2.2.2.1 pc ls S) rest (Qc As.toArray) free := by
  obtain ⟨c1, c2, c3, c5, c6, c7⟩ := ck
  have hlen : ∀ sig, parseMethodDescriptor y.desc = some sig → np = sig.parameters.length := fun sig h => by
    rw [h] at c7
    exact (Option.some.inj c7).symm
  exact va_runS (cc := cc) (nL := nL) (Ts := WSg) (own := own) ⟨F.ex, F.hb, F.ml, F.ow, F.ts⟩ hM ⟨⟨hmc, hms, hR.1, hR.2, F.pay c1, List.mem_cons_self, F.ts _ c1, F.ts _ c2, c6, hlen, F.ts _ c5⟩, F.ts _ c3⟩ hp rfl hn hsz hst (lv_room hW) hd hf
theorem G.callsi {ty : FieldType} {v : Int32} (F : Fx κ A D K base cc own nL) (h : CtI l D K base y b n ty rm As σ v σ') (ck : CKs own idx y b n (some ty) np) (hz : rm.cells = 0 ∧ rm.slots = 0) (hR : rm.frames + 1 ≤ R.frames ∧ 8 + (n + 11) + rm.locals ≤ R.locals) (hf : cells ≤ R.cells ∧ slots ≤ R.slots) (hn : As.length = np) (hst : S = As.reverse ++ rest) (hW : (rest.map fun v => v.category).sum ≤ 8) (hd : decode cc pc = .ok (.invokestatic idx, 3))
    (kk : G κ l R A Q D nL cells slots σ' (pc + 3) L (.int v :: rest)) : G κ l R A Q D nL cells slots σ pc L S := by
  intro H locs ls hP hD hS hl
  have hF := F.free hD hS
  have hM := h H.size
  rw [hz.1, hz.2] at hM
  refine va_calli (F.runs (np := np) (As := As) (rest := rest) ck hM hz.1 hz.2 hR ⟨PreC.blind, F.pre hP hD hS⟩ hn hl.1 hst hW hd hf) hS (fun q _ h => hF q h) hF (fun x u t H1 locs1 ht hvm hp hB hz1 hk1 hS1 => ?_)
  obtain ⟨hP1, hD1⟩ := hB
  rw [ht] at hP1
  subst hp
  exact kk H1 locs1 ls hP1 (hD1.weaken (fun _ _ _ h => hF _ h)) hS1 hl
end CAL
end

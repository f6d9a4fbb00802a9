section
-- ===== PART A: goes FIRST, ahead of the names: the tables' words, and 'selects' of the private methods out of them =====
/-- a private method of a class that the tables say can be made, by its rows of tables_1 -/
def lw_okq (q : MethodName × Nat) : Prop := (q.1.cls ≠ "java/lang/invoke/MethodHandle" ∧ q.1.cls ≠ "java/lang/invoke/VarHandle") ∧ Cond.instantiable q.1.cls q.2 ∈ tables_1 ∧ Cond.privateMethod q.1 ∈ tables_1 ∧ Cond.instanceMethod q.1 ∈ tables_1
theorem lw_p0 : lw_okq (⟨"SteppedList", "workerOf", "(I)LSteppedList$Worker;"⟩, 5) := ⟨⟨by decide +kernel, by decide +kernel⟩, List.mem_of_getElem? (i := 14) (by decide +kernel), List.mem_of_getElem? (i := 169) (by decide +kernel), List.mem_of_getElem? (i := 170) (by decide +kernel)⟩
theorem lw_p1 : lw_okq (⟨"java/lang/Throwable", "fillInStackTrace", "(I)Ljava/lang/Throwable;"⟩, 6) := ⟨⟨by decide +kernel, by decide +kernel⟩, List.mem_of_getElem? (i := 213) (by decide +kernel), List.mem_of_getElem? (i := 211) (by decide +kernel), List.mem_of_getElem? (i := 212) (by decide +kernel)⟩
theorem lw_p2 : lw_okq (⟨"SteppedList$Worker", "forget", "()V"⟩, 16) := ⟨⟨by decide +kernel, by decide +kernel⟩, List.mem_of_getElem? (i := 55) (by decide +kernel), List.mem_of_getElem? (i := 276) (by decide +kernel), List.mem_of_getElem? (i := 277) (by decide +kernel)⟩
theorem lw_p3 : lw_okq (⟨"SteppedList", "busyWorkerOf", "(I)LSteppedList$Worker;"⟩, 5) := ⟨⟨by decide +kernel, by decide +kernel⟩, List.mem_of_getElem? (i := 14) (by decide +kernel), List.mem_of_getElem? (i := 287) (by decide +kernel), List.mem_of_getElem? (i := 288) (by decide +kernel)⟩
theorem lw_p4 : lw_okq (⟨"SteppedList", "perform", "(LSteppedList$Worker;)V"⟩, 5) := ⟨⟨by decide +kernel, by decide +kernel⟩, List.mem_of_getElem? (i := 14) (by decide +kernel), List.mem_of_getElem? (i := 292) (by decide +kernel), List.mem_of_getElem? (i := 293) (by decide +kernel)⟩
theorem lw_p5 : lw_okq (⟨"SteppedList", "startWork", "(LSteppedList$Worker;)V"⟩, 5) := ⟨⟨by decide +kernel, by decide +kernel⟩, List.mem_of_getElem? (i := 14) (by decide +kernel), List.mem_of_getElem? (i := 296) (by decide +kernel), List.mem_of_getElem? (i := 297) (by decide +kernel)⟩
theorem lw_p6 : lw_okq (⟨"SteppedList", "goToHead", "(LSteppedList$Worker;)V"⟩, 5) := ⟨⟨by decide +kernel, by decide +kernel⟩, List.mem_of_getElem? (i := 14) (by decide +kernel), List.mem_of_getElem? (i := 300) (by decide +kernel), List.mem_of_getElem? (i := 301) (by decide +kernel)⟩
theorem lw_p7 : lw_okq (⟨"SteppedList", "moveHereTo", "(LSteppedList$Worker;I)V"⟩, 5) := ⟨⟨by decide +kernel, by decide +kernel⟩, List.mem_of_getElem? (i := 14) (by decide +kernel), List.mem_of_getElem? (i := 304) (by decide +kernel), List.mem_of_getElem? (i := 305) (by decide +kernel)⟩
theorem lw_p8 : lw_okq (⟨"SteppedList", "nameHere", "(LSteppedList$Worker;)V"⟩, 5) := ⟨⟨by decide +kernel, by decide +kernel⟩, List.mem_of_getElem? (i := 14) (by decide +kernel), List.mem_of_getElem? (i := 308) (by decide +kernel), List.mem_of_getElem? (i := 309) (by decide +kernel)⟩
theorem lw_p9 : lw_okq (⟨"SteppedList", "checkBack", "(LSteppedList$Worker;)V"⟩, 5) := ⟨⟨by decide +kernel, by decide +kernel⟩, List.mem_of_getElem? (i := 14) (by decide +kernel), List.mem_of_getElem? (i := 312) (by decide +kernel), List.mem_of_getElem? (i := 313) (by decide +kernel)⟩
theorem lw_p10 : lw_okq (⟨"SteppedList", "lookAtBack", "(LSteppedList$Worker;)V"⟩, 5) := ⟨⟨by decide +kernel, by decide +kernel⟩, List.mem_of_getElem? (i := 14) (by decide +kernel), List.mem_of_getElem? (i := 316) (by decide +kernel), List.mem_of_getElem? (i := 317) (by decide +kernel)⟩
theorem lw_p11 : lw_okq (⟨"SteppedList", "countFault", "(LSteppedList$Block;I)V"⟩, 5) := ⟨⟨by decide +kernel, by decide +kernel⟩, List.mem_of_getElem? (i := 14) (by decide +kernel), List.mem_of_getElem? (i := 320) (by decide +kernel), List.mem_of_getElem? (i := 321) (by decide +kernel)⟩
theorem lw_p12 : lw_okq (⟨"SteppedList$Block", "leadsTo", "(I)Z"⟩, 6) := ⟨⟨by decide +kernel, by decide +kernel⟩, List.mem_of_getElem? (i := 23) (by decide +kernel), List.mem_of_getElem? (i := 324) (by decide +kernel), List.mem_of_getElem? (i := 325) (by decide +kernel)⟩
theorem lw_p13 : lw_okq (⟨"SteppedList", "readHere", "(LSteppedList$Worker;)V"⟩, 5) := ⟨⟨by decide +kernel, by decide +kernel⟩, List.mem_of_getElem? (i := 14) (by decide +kernel), List.mem_of_getElem? (i := 328) (by decide +kernel), List.mem_of_getElem? (i := 329) (by decide +kernel)⟩
theorem lw_p14 : lw_okq (⟨"SteppedList", "lookAtHere", "(LSteppedList$Worker;)V"⟩, 5) := ⟨⟨by decide +kernel, by decide +kernel⟩, List.mem_of_getElem? (i := 14) (by decide +kernel), List.mem_of_getElem? (i := 332) (by decide +kernel), List.mem_of_getElem? (i := 333) (by decide +kernel)⟩
theorem lw_p15 : lw_okq (⟨"SteppedList", "cutHere", "(LSteppedList$Worker;)V"⟩, 5) := ⟨⟨by decide +kernel, by decide +kernel⟩, List.mem_of_getElem? (i := 14) (by decide +kernel), List.mem_of_getElem? (i := 336) (by decide +kernel), List.mem_of_getElem? (i := 337) (by decide +kernel)⟩
def lw_privs_1 : List (MethodName × Nat) := [(⟨"SteppedList", "workerOf", "(I)LSteppedList$Worker;"⟩, 5), (⟨"java/lang/Throwable", "fillInStackTrace", "(I)Ljava/lang/Throwable;"⟩, 6), (⟨"SteppedList$Worker", "forget", "()V"⟩, 16), (⟨"SteppedList", "busyWorkerOf", "(I)LSteppedList$Worker;"⟩, 5), (⟨"SteppedList", "perform", "(LSteppedList$Worker;)V"⟩, 5), (⟨"SteppedList", "startWork", "(LSteppedList$Worker;)V"⟩, 5), (⟨"SteppedList", "goToHead", "(LSteppedList$Worker;)V"⟩, 5), (⟨"SteppedList", "moveHereTo", "(LSteppedList$Worker;I)V"⟩, 5), (⟨"SteppedList", "nameHere", "(LSteppedList$Worker;)V"⟩, 5), (⟨"SteppedList", "checkBack", "(LSteppedList$Worker;)V"⟩, 5), (⟨"SteppedList", "lookAtBack", "(LSteppedList$Worker;)V"⟩, 5), (⟨"SteppedList", "countFault", "(LSteppedList$Block;I)V"⟩, 5), (⟨"SteppedList$Block", "leadsTo", "(I)Z"⟩, 6), (⟨"SteppedList", "readHere", "(LSteppedList$Worker;)V"⟩, 5), (⟨"SteppedList", "lookAtHere", "(LSteppedList$Worker;)V"⟩, 5), (⟨"SteppedList", "cutHere", "(LSteppedList$Worker;)V"⟩, 5)]
theorem lw_r1 : ∀ q ∈ lw_privs_1, lw_okq q := List.forall_mem_cons.mpr ⟨lw_p0, List.forall_mem_cons.mpr ⟨lw_p1, List.forall_mem_cons.mpr ⟨lw_p2, List.forall_mem_cons.mpr ⟨lw_p3, List.forall_mem_cons.mpr ⟨lw_p4, List.forall_mem_cons.mpr ⟨lw_p5, List.forall_mem_cons.mpr ⟨lw_p6, List.forall_mem_cons.mpr ⟨lw_p7, List.forall_mem_cons.mpr ⟨lw_p8, List.forall_mem_cons.mpr ⟨lw_p9, List.forall_mem_cons.mpr ⟨lw_p10, List.forall_mem_cons.mpr ⟨lw_p11, List.forall_mem_cons.mpr ⟨lw_p12, List.forall_mem_cons.mpr ⟨lw_p13, List.forall_mem_cons.mpr ⟨lw_p14, List.forall_mem_cons.mpr ⟨lw_p15, fun _ h => absurd h List.not_mem_nil⟩⟩⟩⟩⟩⟩⟩⟩⟩⟩⟩⟩⟩⟩⟩⟩
theorem lw_p16 : lw_okq (⟨"SteppedList", "takeOutHere", "(LSteppedList$Worker;)Z"⟩, 5) := ⟨⟨by decide +kernel, by decide +kernel⟩, List.mem_of_getElem? (i := 14) (by decide +kernel), List.mem_of_getElem? (i := 340) (by decide +kernel), List.mem_of_getElem? (i := 341) (by decide +kernel)⟩
theorem lw_p17 : lw_okq (⟨"SteppedList$Block", "lead", "(I)V"⟩, 6) := ⟨⟨by decide +kernel, by decide +kernel⟩, List.mem_of_getElem? (i := 23) (by decide +kernel), List.mem_of_getElem? (i := 344) (by decide +kernel), List.mem_of_getElem? (i := 345) (by decide +kernel)⟩
theorem lw_p18 : lw_okq (⟨"SteppedList", "retireHere", "(LSteppedList$Worker;)V"⟩, 5) := ⟨⟨by decide +kernel, by decide +kernel⟩, List.mem_of_getElem? (i := 14) (by decide +kernel), List.mem_of_getElem? (i := 348) (by decide +kernel), List.mem_of_getElem? (i := 349) (by decide +kernel)⟩
theorem lw_p19 : lw_okq (⟨"SteppedList$Block", "setFree", "()V"⟩, 6) := ⟨⟨by decide +kernel, by decide +kernel⟩, List.mem_of_getElem? (i := 23) (by decide +kernel), List.mem_of_getElem? (i := 352) (by decide +kernel), List.mem_of_getElem? (i := 353) (by decide +kernel)⟩
theorem lw_p20 : lw_okq (⟨"SteppedList$Block", "retireWith", "(I)V"⟩, 6) := ⟨⟨by decide +kernel, by decide +kernel⟩, List.mem_of_getElem? (i := 23) (by decide +kernel), List.mem_of_getElem? (i := 356) (by decide +kernel), List.mem_of_getElem? (i := 357) (by decide +kernel)⟩
theorem lw_p21 : lw_okq (⟨"SteppedList", "countRetiredBy", "(LSteppedList$Worker;)I"⟩, 5) := ⟨⟨by decide +kernel, by decide +kernel⟩, List.mem_of_getElem? (i := 14) (by decide +kernel), List.mem_of_getElem? (i := 360) (by decide +kernel), List.mem_of_getElem? (i := 361) (by decide +kernel)⟩
theorem lw_p22 : lw_okq (⟨"SteppedList", "isRetiredBy", "(LSteppedList$Worker;I)Z"⟩, 5) := ⟨⟨by decide +kernel, by decide +kernel⟩, List.mem_of_getElem? (i := 14) (by decide +kernel), List.mem_of_getElem? (i := 364) (by decide +kernel), List.mem_of_getElem? (i := 365) (by decide +kernel)⟩
theorem lw_p23 : lw_okq (⟨"SteppedList", "freeUnnamed", "(LSteppedList$Worker;)I"⟩, 5) := ⟨⟨by decide +kernel, by decide +kernel⟩, List.mem_of_getElem? (i := 14) (by decide +kernel), List.mem_of_getElem? (i := 368) (by decide +kernel), List.mem_of_getElem? (i := 369) (by decide +kernel)⟩
theorem lw_p24 : lw_okq (⟨"SteppedList", "isNamed", "(I)Z"⟩, 5) := ⟨⟨by decide +kernel, by decide +kernel⟩, List.mem_of_getElem? (i := 14) (by decide +kernel), List.mem_of_getElem? (i := 372) (by decide +kernel), List.mem_of_getElem? (i := 373) (by decide +kernel)⟩
theorem lw_p25 : lw_okq (⟨"SteppedList", "doOperation", "(LSteppedList$Worker;)V"⟩, 5) := ⟨⟨by decide +kernel, by decide +kernel⟩, List.mem_of_getElem? (i := 14) (by decide +kernel), List.mem_of_getElem? (i := 376) (by decide +kernel), List.mem_of_getElem? (i := 377) (by decide +kernel)⟩
theorem lw_p26 : lw_okq (⟨"SteppedList", "prepareInsert", "(LSteppedList$Worker;)V"⟩, 5) := ⟨⟨by decide +kernel, by decide +kernel⟩, List.mem_of_getElem? (i := 14) (by decide +kernel), List.mem_of_getElem? (i := 380) (by decide +kernel), List.mem_of_getElem? (i := 381) (by decide +kernel)⟩
theorem lw_p27 : lw_okq (⟨"SteppedList", "giveNewBlockBack", "(LSteppedList$Worker;)V"⟩, 5) := ⟨⟨by decide +kernel, by decide +kernel⟩, List.mem_of_getElem? (i := 14) (by decide +kernel), List.mem_of_getElem? (i := 384) (by decide +kernel), List.mem_of_getElem? (i := 385) (by decide +kernel)⟩
theorem lw_p28 : lw_okq (⟨"SteppedList", "conclude", "(LSteppedList$Worker;I)V"⟩, 5) := ⟨⟨by decide +kernel, by decide +kernel⟩, List.mem_of_getElem? (i := 14) (by decide +kernel), List.mem_of_getElem? (i := 388) (by decide +kernel), List.mem_of_getElem? (i := 389) (by decide +kernel)⟩
theorem lw_p29 : lw_okq (⟨"SteppedList", "takeFreeBlock", "()I"⟩, 5) := ⟨⟨by decide +kernel, by decide +kernel⟩, List.mem_of_getElem? (i := 14) (by decide +kernel), List.mem_of_getElem? (i := 392) (by decide +kernel), List.mem_of_getElem? (i := 393) (by decide +kernel)⟩
theorem lw_p30 : lw_okq (⟨"SteppedList", "markForRemoval", "(LSteppedList$Worker;)V"⟩, 5) := ⟨⟨by decide +kernel, by decide +kernel⟩, List.mem_of_getElem? (i := 14) (by decide +kernel), List.mem_of_getElem? (i := 396) (by decide +kernel), List.mem_of_getElem? (i := 397) (by decide +kernel)⟩
theorem lw_p31 : lw_okq (⟨"SteppedList", "hangNewBlock", "(LSteppedList$Worker;)V"⟩, 5) := ⟨⟨by decide +kernel, by decide +kernel⟩, List.mem_of_getElem? (i := 14) (by decide +kernel), List.mem_of_getElem? (i := 400) (by decide +kernel), List.mem_of_getElem? (i := 401) (by decide +kernel)⟩
def lw_privs_2 : List (MethodName × Nat) := [(⟨"SteppedList", "takeOutHere", "(LSteppedList$Worker;)Z"⟩, 5), (⟨"SteppedList$Block", "lead", "(I)V"⟩, 6), (⟨"SteppedList", "retireHere", "(LSteppedList$Worker;)V"⟩, 5), (⟨"SteppedList$Block", "setFree", "()V"⟩, 6), (⟨"SteppedList$Block", "retireWith", "(I)V"⟩, 6), (⟨"SteppedList", "countRetiredBy", "(LSteppedList$Worker;)I"⟩, 5), (⟨"SteppedList", "isRetiredBy", "(LSteppedList$Worker;I)Z"⟩, 5), (⟨"SteppedList", "freeUnnamed", "(LSteppedList$Worker;)I"⟩, 5), (⟨"SteppedList", "isNamed", "(I)Z"⟩, 5), (⟨"SteppedList", "doOperation", "(LSteppedList$Worker;)V"⟩, 5), (⟨"SteppedList", "prepareInsert", "(LSteppedList$Worker;)V"⟩, 5), (⟨"SteppedList", "giveNewBlockBack", "(LSteppedList$Worker;)V"⟩, 5), (⟨"SteppedList", "conclude", "(LSteppedList$Worker;I)V"⟩, 5), (⟨"SteppedList", "takeFreeBlock", "()I"⟩, 5), (⟨"SteppedList", "markForRemoval", "(LSteppedList$Worker;)V"⟩, 5), (⟨"SteppedList", "hangNewBlock", "(LSteppedList$Worker;)V"⟩, 5)]
theorem lw_r2 : ∀ q ∈ lw_privs_2, lw_okq q := List.forall_mem_cons.mpr ⟨lw_p16, List.forall_mem_cons.mpr ⟨lw_p17, List.forall_mem_cons.mpr ⟨lw_p18, List.forall_mem_cons.mpr ⟨lw_p19, List.forall_mem_cons.mpr ⟨lw_p20, List.forall_mem_cons.mpr ⟨lw_p21, List.forall_mem_cons.mpr ⟨lw_p22, List.forall_mem_cons.mpr ⟨lw_p23, List.forall_mem_cons.mpr ⟨lw_p24, List.forall_mem_cons.mpr ⟨lw_p25, List.forall_mem_cons.mpr ⟨lw_p26, List.forall_mem_cons.mpr ⟨lw_p27, List.forall_mem_cons.mpr ⟨lw_p28, List.forall_mem_cons.mpr ⟨lw_p29, List.forall_mem_cons.mpr ⟨lw_p30, List.forall_mem_cons.mpr ⟨lw_p31, fun _ h => absurd h List.not_mem_nil⟩⟩⟩⟩⟩⟩⟩⟩⟩⟩⟩⟩⟩⟩⟩⟩
theorem lw_p32 : lw_okq (⟨"SteppedList", "endWork", "(LSteppedList$Worker;)V"⟩, 5) := ⟨⟨by decide +kernel, by decide +kernel⟩, List.mem_of_getElem? (i := 14) (by decide +kernel), List.mem_of_getElem? (i := 404) (by decide +kernel), List.mem_of_getElem? (i := 405) (by decide +kernel)⟩
theorem lw_p33 : lw_okq (⟨"SteppedList", "unhangHere", "(LSteppedList$Worker;)V"⟩, 5) := ⟨⟨by decide +kernel, by decide +kernel⟩, List.mem_of_getElem? (i := 14) (by decide +kernel), List.mem_of_getElem? (i := 408) (by decide +kernel), List.mem_of_getElem? (i := 409) (by decide +kernel)⟩
theorem lw_p34 : lw_okq (⟨"SteppedList", "allAnnounceCurrentEpoch", "()Z"⟩, 5) := ⟨⟨by decide +kernel, by decide +kernel⟩, List.mem_of_getElem? (i := 14) (by decide +kernel), List.mem_of_getElem? (i := 490) (by decide +kernel), List.mem_of_getElem? (i := 491) (by decide +kernel)⟩
theorem lw_p35 : lw_okq (⟨"SteppedList", "freeOldEpochs", "()V"⟩, 5) := ⟨⟨by decide +kernel, by decide +kernel⟩, List.mem_of_getElem? (i := 14) (by decide +kernel), List.mem_of_getElem? (i := 494) (by decide +kernel), List.mem_of_getElem? (i := 495) (by decide +kernel)⟩
theorem lw_p36 : lw_okq (⟨"SteppedList$Block", "tell", "(I)I"⟩, 6) := ⟨⟨by decide +kernel, by decide +kernel⟩, List.mem_of_getElem? (i := 23) (by decide +kernel), List.mem_of_getElem? (i := 515) (by decide +kernel), List.mem_of_getElem? (i := 516) (by decide +kernel)⟩
theorem lw_p37 : lw_okq (⟨"SteppedListModel", "sweep", "(I)I"⟩, 24) := ⟨⟨by decide +kernel, by decide +kernel⟩, List.mem_of_getElem? (i := 519) (by decide +kernel), List.mem_of_getElem? (i := 619) (by decide +kernel), List.mem_of_getElem? (i := 620) (by decide +kernel)⟩
theorem lw_p38 : lw_okq (⟨"SteppedListModel", "isNamed", "(I)Z"⟩, 24) := ⟨⟨by decide +kernel, by decide +kernel⟩, List.mem_of_getElem? (i := 519) (by decide +kernel), List.mem_of_getElem? (i := 623) (by decide +kernel), List.mem_of_getElem? (i := 624) (by decide +kernel)⟩
theorem lw_p39 : lw_okq (⟨"SteppedListModel", "advanceThread", "(I)V"⟩, 24) := ⟨⟨by decide +kernel, by decide +kernel⟩, List.mem_of_getElem? (i := 519) (by decide +kernel), List.mem_of_getElem? (i := 631) (by decide +kernel), List.mem_of_getElem? (i := 632) (by decide +kernel)⟩
theorem lw_p40 : lw_okq (⟨"SteppedListModel", "head", "(I)I"⟩, 24) := ⟨⟨by decide +kernel, by decide +kernel⟩, List.mem_of_getElem? (i := 519) (by decide +kernel), List.mem_of_getElem? (i := 635) (by decide +kernel), List.mem_of_getElem? (i := 636) (by decide +kernel)⟩
theorem lw_p41 : lw_okq (⟨"SteppedListModel", "come", "(II)I"⟩, 24) := ⟨⟨by decide +kernel, by decide +kernel⟩, List.mem_of_getElem? (i := 519) (by decide +kernel), List.mem_of_getElem? (i := 639) (by decide +kernel), List.mem_of_getElem? (i := 640) (by decide +kernel)⟩
theorem lw_p42 : lw_okq (⟨"SteppedListModel", "name", "(I)I"⟩, 24) := ⟨⟨by decide +kernel, by decide +kernel⟩, List.mem_of_getElem? (i := 519) (by decide +kernel), List.mem_of_getElem? (i := 643) (by decide +kernel), List.mem_of_getElem? (i := 644) (by decide +kernel)⟩
theorem lw_p43 : lw_okq (⟨"SteppedListModel", "check", "(I)I"⟩, 24) := ⟨⟨by decide +kernel, by decide +kernel⟩, List.mem_of_getElem? (i := 519) (by decide +kernel), List.mem_of_getElem? (i := 647) (by decide +kernel), List.mem_of_getElem? (i := 648) (by decide +kernel)⟩
theorem lw_p44 : lw_okq (⟨"SteppedListModel", "lookBack", "(I)V"⟩, 24) := ⟨⟨by decide +kernel, by decide +kernel⟩, List.mem_of_getElem? (i := 519) (by decide +kernel), List.mem_of_getElem? (i := 651) (by decide +kernel), List.mem_of_getElem? (i := 652) (by decide +kernel)⟩
theorem lw_p45 : lw_okq (⟨"SteppedListModel", "look", "(II)V"⟩, 24) := ⟨⟨by decide +kernel, by decide +kernel⟩, List.mem_of_getElem? (i := 519) (by decide +kernel), List.mem_of_getElem? (i := 655) (by decide +kernel), List.mem_of_getElem? (i := 656) (by decide +kernel)⟩
theorem lw_p46 : lw_okq (⟨"SteppedListModel", "linked", "(I)Z"⟩, 24) := ⟨⟨by decide +kernel, by decide +kernel⟩, List.mem_of_getElem? (i := 519) (by decide +kernel), List.mem_of_getElem? (i := 659) (by decide +kernel), List.mem_of_getElem? (i := 660) (by decide +kernel)⟩
theorem lw_p47 : lw_okq (⟨"SteppedListModel", "read", "(I)I"⟩, 24) := ⟨⟨by decide +kernel, by decide +kernel⟩, List.mem_of_getElem? (i := 519) (by decide +kernel), List.mem_of_getElem? (i := 663) (by decide +kernel), List.mem_of_getElem? (i := 664) (by decide +kernel)⟩
def lw_privs_3 : List (MethodName × Nat) := [(⟨"SteppedList", "endWork", "(LSteppedList$Worker;)V"⟩, 5), (⟨"SteppedList", "unhangHere", "(LSteppedList$Worker;)V"⟩, 5), (⟨"SteppedList", "allAnnounceCurrentEpoch", "()Z"⟩, 5), (⟨"SteppedList", "freeOldEpochs", "()V"⟩, 5), (⟨"SteppedList$Block", "tell", "(I)I"⟩, 6), (⟨"SteppedListModel", "sweep", "(I)I"⟩, 24), (⟨"SteppedListModel", "isNamed", "(I)Z"⟩, 24), (⟨"SteppedListModel", "advanceThread", "(I)V"⟩, 24), (⟨"SteppedListModel", "head", "(I)I"⟩, 24), (⟨"SteppedListModel", "come", "(II)I"⟩, 24), (⟨"SteppedListModel", "name", "(I)I"⟩, 24), (⟨"SteppedListModel", "check", "(I)I"⟩, 24), (⟨"SteppedListModel", "lookBack", "(I)V"⟩, 24), (⟨"SteppedListModel", "look", "(II)V"⟩, 24), (⟨"SteppedListModel", "linked", "(I)Z"⟩, 24), (⟨"SteppedListModel", "read", "(I)I"⟩, 24)]
theorem lw_r3 : ∀ q ∈ lw_privs_3, lw_okq q := List.forall_mem_cons.mpr ⟨lw_p32, List.forall_mem_cons.mpr ⟨lw_p33, List.forall_mem_cons.mpr ⟨lw_p34, List.forall_mem_cons.mpr ⟨lw_p35, List.forall_mem_cons.mpr ⟨lw_p36, List.forall_mem_cons.mpr ⟨lw_p37, List.forall_mem_cons.mpr ⟨lw_p38, List.forall_mem_cons.mpr ⟨lw_p39, List.forall_mem_cons.mpr ⟨lw_p40, List.forall_mem_cons.mpr ⟨lw_p41, List.forall_mem_cons.mpr ⟨lw_p42, List.forall_mem_cons.mpr ⟨lw_p43, List.forall_mem_cons.mpr ⟨lw_p44, List.forall_mem_cons.mpr ⟨lw_p45, List.forall_mem_cons.mpr ⟨lw_p46, List.forall_mem_cons.mpr ⟨lw_p47, fun _ h => absurd h List.not_mem_nil⟩⟩⟩⟩⟩⟩⟩⟩⟩⟩⟩⟩⟩⟩⟩⟩
theorem lw_p48 : lw_okq (⟨"SteppedListModel", "cut", "(I)I"⟩, 24) := ⟨⟨by decide +kernel, by decide +kernel⟩, List.mem_of_getElem? (i := 519) (by decide +kernel), List.mem_of_getElem? (i := 667) (by decide +kernel), List.mem_of_getElem? (i := 668) (by decide +kernel)⟩
theorem lw_p49 : lw_okq (⟨"SteppedListModel", "link", "(IIZ)V"⟩, 24) := ⟨⟨by decide +kernel, by decide +kernel⟩, List.mem_of_getElem? (i := 519) (by decide +kernel), List.mem_of_getElem? (i := 671) (by decide +kernel), List.mem_of_getElem? (i := 672) (by decide +kernel)⟩
theorem lw_p50 : lw_okq (⟨"SteppedListModel", "retire", "(II)V"⟩, 24) := ⟨⟨by decide +kernel, by decide +kernel⟩, List.mem_of_getElem? (i := 519) (by decide +kernel), List.mem_of_getElem? (i := 675) (by decide +kernel), List.mem_of_getElem? (i := 676) (by decide +kernel)⟩
theorem lw_p51 : lw_okq (⟨"SteppedListModel", "act", "(I)I"⟩, 24) := ⟨⟨by decide +kernel, by decide +kernel⟩, List.mem_of_getElem? (i := 519) (by decide +kernel), List.mem_of_getElem? (i := 679) (by decide +kernel), List.mem_of_getElem? (i := 680) (by decide +kernel)⟩
theorem lw_p52 : lw_okq (⟨"SteppedListModel", "insert", "(I)I"⟩, 24) := ⟨⟨by decide +kernel, by decide +kernel⟩, List.mem_of_getElem? (i := 519) (by decide +kernel), List.mem_of_getElem? (i := 683) (by decide +kernel), List.mem_of_getElem? (i := 684) (by decide +kernel)⟩
theorem lw_p53 : lw_okq (⟨"SteppedListModel", "remove", "(I)I"⟩, 24) := ⟨⟨by decide +kernel, by decide +kernel⟩, List.mem_of_getElem? (i := 519) (by decide +kernel), List.mem_of_getElem? (i := 687) (by decide +kernel), List.mem_of_getElem? (i := 688) (by decide +kernel)⟩
theorem lw_p54 : lw_okq (⟨"SteppedListModel", "hang", "(I)I"⟩, 24) := ⟨⟨by decide +kernel, by decide +kernel⟩, List.mem_of_getElem? (i := 519) (by decide +kernel), List.mem_of_getElem? (i := 691) (by decide +kernel), List.mem_of_getElem? (i := 692) (by decide +kernel)⟩
theorem lw_p55 : lw_okq (⟨"SteppedListModel", "end", "(I)I"⟩, 24) := ⟨⟨by decide +kernel, by decide +kernel⟩, List.mem_of_getElem? (i := 519) (by decide +kernel), List.mem_of_getElem? (i := 695) (by decide +kernel), List.mem_of_getElem? (i := 696) (by decide +kernel)⟩
theorem lw_p56 : lw_okq (⟨"SteppedListModel", "unhang", "(I)I"⟩, 24) := ⟨⟨by decide +kernel, by decide +kernel⟩, List.mem_of_getElem? (i := 519) (by decide +kernel), List.mem_of_getElem? (i := 699) (by decide +kernel), List.mem_of_getElem? (i := 700) (by decide +kernel)⟩
theorem lw_p57 : lw_okq (⟨"SteppedListModel", "count", "(II)I"⟩, 24) := ⟨⟨by decide +kernel, by decide +kernel⟩, List.mem_of_getElem? (i := 519) (by decide +kernel), List.mem_of_getElem? (i := 731) (by decide +kernel), List.mem_of_getElem? (i := 732) (by decide +kernel)⟩
def lw_privs_4 : List (MethodName × Nat) := [(⟨"SteppedListModel", "cut", "(I)I"⟩, 24), (⟨"SteppedListModel", "link", "(IIZ)V"⟩, 24), (⟨"SteppedListModel", "retire", "(II)V"⟩, 24), (⟨"SteppedListModel", "act", "(I)I"⟩, 24), (⟨"SteppedListModel", "insert", "(I)I"⟩, 24), (⟨"SteppedListModel", "remove", "(I)I"⟩, 24), (⟨"SteppedListModel", "hang", "(I)I"⟩, 24), (⟨"SteppedListModel", "end", "(I)I"⟩, 24), (⟨"SteppedListModel", "unhang", "(I)I"⟩, 24), (⟨"SteppedListModel", "count", "(II)I"⟩, 24)]
theorem lw_r4 : ∀ q ∈ lw_privs_4, lw_okq q := List.forall_mem_cons.mpr ⟨lw_p48, List.forall_mem_cons.mpr ⟨lw_p49, List.forall_mem_cons.mpr ⟨lw_p50, List.forall_mem_cons.mpr ⟨lw_p51, List.forall_mem_cons.mpr ⟨lw_p52, List.forall_mem_cons.mpr ⟨lw_p53, List.forall_mem_cons.mpr ⟨lw_p54, List.forall_mem_cons.mpr ⟨lw_p55, List.forall_mem_cons.mpr ⟨lw_p56, List.forall_mem_cons.mpr ⟨lw_p57, fun _ h => absurd h List.not_mem_nil⟩⟩⟩⟩⟩⟩⟩⟩⟩⟩
def lw_privs : List (MethodName × Nat) := lw_privs_1 ++ (lw_privs_2 ++ (lw_privs_3 ++ (lw_privs_4)))
def lw_tbl : List Cond := k2_sels lw_privs ++ tables_1
theorem lw_privs_ok : ∀ q ∈ lw_privs, lw_okq q := by
  show ∀ q ∈ lw_privs_1 ++ (lw_privs_2 ++ (lw_privs_3 ++ (lw_privs_4))), lw_okq q
  exact List.forall_mem_append.mpr ⟨lw_r1, List.forall_mem_append.mpr ⟨lw_r2, List.forall_mem_append.mpr ⟨lw_r3, lw_r4⟩⟩⟩
end
section
/-! ===== BEGIN words of one list among another's, by their places ===== -/
theorem goodIn_r {big : List Cond} (ws : List Cond) (ps : List Nat) (hp : ws = ps.filterMap (fun i => big[i]?)) (h : ws.all goodWord = true) : GoodIn big ws := by
  intro w hw
  have h1 := List.all_eq_true.mp h w hw
  rw [hp] at hw
  obtain ⟨i, -, hi⟩ := List.mem_filterMap.mp hw
  have hm : w ∈ big := by first | exact List.mem_of_getElem? hi | exact List.getElem?_mem hi
  exact ⟨hm, good_of_word h1⟩
theorem goodIn_app {big a b : List Cond} (ha : GoodIn big a) (hb : GoodIn big b) : GoodIn big (a ++ b) := fun w h => (List.mem_append.mp h).elim (ha w) (hb w)
theorem goodIn_ca {big a b : List Cond} {c : Cond} (ha : GoodIn big (c :: a)) (hb : GoodIn big b) : GoodIn big (c :: (a ++ b)) := fun w h => (List.mem_cons.mp h).elim (fun e => ha w (List.mem_cons.mpr (Or.inl e))) (fun h => (List.mem_append.mp h).elim (fun h => ha w (List.mem_cons.mpr (Or.inr h))) (hb w))
theorem goodIn_sub {big ws : List Cond} (hm : ∀ w ∈ ws, w ∈ big) (h : ws.all goodWord = true) : GoodIn big ws := fun w hw => ⟨hm w hw, good_of_word (List.all_eq_true.mp h w hw)⟩
/-! ===== END ===== -/

/-! ===== BEGIN exceptions that leave a method, and their catching by the caller (launches without stack traces) ===== -/
section VXA
/-! The laws vx_back, vx_callV, vx_callS, vx_callSW, vx_throw0, vx_throwS follow proofs of the library, with one case more: JvmDerived/Free/Laws.lean (Back.of_free), Shelf42/LK1.lean (callV, callS), Shelf/KitTraced.lean (throwNew0V, throwNewS). -/
/-- where a method has thrown q: the class by its name, the cell, what was written, the world -/
def vx_T (XC : String → State → State → Prop) (st : State) (q : Addr) (t : State) (mc ms : Nat) (free : Addr → Prop) : Prop :=
  ∃ (E : String) (ce : Cell) (L : List Loc), XC E st t ∧ t.heap[q]? = some ce ∧ ce.vm = .none ∧ st.vm.findClass E = some ce.cls ∧ st.WarmedH t.vm ∧ st.sameButNew ({ t with vm := st.vm } : State) L mc ms ∧ ∀ z ∈ L, free z.base
def vx_Q (Qc : Array Value → State → Outcome → State → Prop) (XC : String → State → State → Prop) (mc ms : Nat) (free : Addr → Prop) : Array Value → State → Outcome → State → Prop := fun a st o t =>
  (Qc a st o t ∧ ∃ L, FrameEnd st o t L mc ms ∧ ∀ q ∈ L, free q.base) ∨ ∃ q, o = .threw q ∧ vx_T XC st q t mc ms free
/-- a callee that returns or throws -/
def vx_Met (l : Launch) (y : MethodName) (ws : List Cond) (rm : Room) (Pc : Array Value → State → Prop) (Qc : Array Value → State → Outcome → State → Prop) (XC : String → State → State → Prop) (mc ms : Nat) (free : Addr → Prop) : Prop :=
  MetFree l y (headSpec ws rm) Pc (fun _ _ _ _ _ => True) (vx_Q Qc XC mc ms free)
def vx_Post (XC : String → State → State → Prop) (mc ms : Nat) (free : Addr → Prop) : Pt → Array Value → Addr → Pt → Prop := fun A a q B =>
  ∃ (g : JFrame) (mk : MethodId) (t : State) (L : List Loc) (E : String) (ce : Cell), B.U.heap = t.heap ∧ B.U.vm = t.vm ∧ XC E (A.U.calling g mk a) t ∧ t.heap[q]? = some ce ∧ ce.vm = .none ∧ A.U.vm.findClass E = some ce.cls ∧ B.locs = A.locs ++ L ∧ (∀ z ∈ L, free z.base) ∧ B.cells = A.cells + mc ∧ B.slots = A.slots + ms
def vx_Back (l : Launch) (R : Room) (p : Program) (e : Env) (below : List Frame) (s : State) (sargs : Array Value) (y : MethodName) (len W9 : Nat)
    (Pre : Pt → Array Value → Prop) (Post : Pt → Array Value → Option Value → Pt → Prop) (PostX : Pt → Array Value → Addr → Pt → Prop) : Prop :=
  ∀ (m : MethodId) (meth : Method) (c : Code) (A : Pt) (g : JFrame) (ig : Instr) (mk : MethodId) (a : Array Value),
    Stand p l e R s m sargs below meth c A.U A.locs A.cells A.slots → g.method = m → g.locals.size = c.maxLocals → decode c.code g.pc = .ok (ig, len) →
    2 * g.monitorRoom + (g.stack.map fun v => v.category).sum ≤ W9 → A.U.methodNamed? y = some mk → Pre A a →
    (∃ (v : Option Value) (B : Pt), Stand p l e R s m sargs below meth c B.U B.locs B.cells B.slots ∧ Post A a v B ∧
      Steps p.tables e below (doInvoke e (A.U.setTop g) [] mk a).1 (B.U.setTop { g with pc := g.pc + len, stack := v.toList ++ g.stack })) ∨
    (∃ (q : Addr) (B : Pt), Stand p l e R s m sargs below meth c B.U B.locs B.cells B.slots ∧ PostX A a q B ∧
      Steps p.tables e below (doInvoke e (A.U.setTop g) [] mk a).1 ((B.U.setTop g).pushFrame (.throwing q)))
section Payer
variable {l : Launch} {R : Room} {p : Program} {e : Env} {below : List Frame} {s : State} {sargs : Array Value} {y : MethodName} {len W9 : Nat}
theorem vx_back {ws : List Cond} {rm : Room} {Pc : Array Value → State → Prop} {Qc : Array Value → State → Outcome → State → Prop} {XC : String → State → State → Prop} {mc ms : Nat} {free : Addr → Prop} {bytes : ByteArray} {maxL : Nat} {ret : Option FieldType}
    (hM : vx_Met l y ws rm Pc Qc XC mc ms free) (hblind : FrameBlind Pc) (hrc : rm.cells = mc) (hrs : rm.slots = ms)
    (hframes : rm.frames + 1 ≤ R.frames) (hlocals : W9 + (maxL + 11) + rm.locals ≤ R.locals)
    (hws : ∀ w ∈ ws, ∀ a' U, s.WarmedH U.vm → w.before a' U = true) (hcode : Cond.code y bytes maxL ret ∈ ws) (hinit : ∀ a' U, s.WarmedH U.vm → (Cond.initialized y.cls).before a' U = true) :
    vx_Back l R p e below s sargs y len W9 (PreOf R mc ms Pc) (PostOf Qc mc ms free) (vx_Post XC mc ms free) := by
  intro m meth c A g ig mk a X hg hsize hdg hW hn hp
  have h1 : (headSpec ws rm).pre.before a A.U = true := atoms_intro fun w hw => hws w hw _ _ X.warmed
  have h2 : (Cond.code y bytes maxL ret).before a A.U = true := hws _ hcode _ _ X.warmed
  have h3 : (Cond.initialized y.cls).before a A.U = true := hinit _ _ X.warmed
  have h4 : A.cells + (headSpec ws rm).room.cells ≤ R.cells := by rw [show (headSpec ws rm).room.cells = mc from hrc]; exact hp.1
  have h5 : A.slots + (headSpec ws rm).room.slots ≤ R.slots := by rw [show (headSpec ws rm).room.slots = ms from hrs]; exact hp.2.1
  have hPc : Pc a (A.U.calling g mk a) := hblind _ _ _ _ hp.2.2
  obtain ⟨U, Ls, c0, s0⟩ := A
  dsimp only [Pt.U, Pt.locs, Pt.cells, Pt.slots] at h1 h2 h3 h4 h5 X hn hPc ⊢
  obtain ⟨methY, cY, hmY, hcY, -, hlY, -, -, -, -⟩ := Cond.code_spec hn h2
  obtain ⟨kY, hkY, -⟩ := className_of_methodNamed hn
  have hinitY : kY.init = .initialized := Cond.initialized_spec (findClass_of_methodNamed hn) hkY h3
  have h : At U g.method c below := by rw [hg]; exact X.here
  have hlocals9 : W9 + (maxL + 11) + (headSpec ws rm).room.locals ≤ R.locals := hlocals
  have happ : (headSpec ws rm).appliesLoose y e.platform (U.calling g mk a) = true :=
    Spec.appliesLoose_calling (g := g) h hdg hn hkY hinitY
      (X.room_calling (g := g) (R' := (headSpec ws rm).room) hsize hmY hcY hframes (by rw [hlY]; omega) h4 h5) h1
  obtain ⟨mid, hmid⟩ := h.above
  have hfr : (U.setTop g).frames = (.java g :: mid) ++ below := by rw [State.frames_setTop' g h.top, hmid]; rfl
  obtain ⟨o, s₂, hsteps, -, hend, hq⟩ := Steps.callFree hM p X.admits X.cas X.clock (acts := []) hfr happ hPc trivial
  have hq' : vx_Q Qc XC mc ms free a (U.calling g mk a) o s₂ := hq
  rw [State.frames_setTop' g h.top] at hend
  obtain ⟨g₀, hg0⟩ := Option.isSome_iff_exists.mp h.top
  obtain ⟨r, hr⟩ := State.topJava?_eq_some.mp hg0
  have hr' : (({ U with heap := s₂.heap, slotsUsed := s₂.slotsUsed } : State).setVm s₂.vm).frames = .java g₀ :: r := hr
  rcases hq' with ⟨hqc, L, hfe, hL⟩ | ⟨q, rfl, E, ce, L, hx, hce, hcv, hcl, hW₂, hsm, hL⟩
  · obtain ⟨⟨v, rfl⟩, hW₂, e2, q2, q3, q4, q5, q6⟩ := id hfe
    have e3 : s₂ = ({ (U.calling g mk a).setFrames s₂.frames with heap := s₂.heap, slotsUsed := s₂.slotsUsed } : State).setVm s₂.vm := by
      have : s₂ = ({ s₂ with vm := (U.calling g mk a).vm } : State).setVm s₂.vm := rfl
      rw [e2] at this
      exact this
    obtain ⟨c₂, i₂, len₂, hc₂, hd₂, hf₂⟩ := hend
    have hW' : U.WarmedH s₂.vm := hW₂
    have hcc : c₂ = c := by
      have h1 : s₂.code? g.method = U.code? g.method := by
        rw [State.code?_eq, State.code?_eq, hW'.alike.method?]
      exact Option.some.inj (hc₂.symm.trans (h1.trans h.code))
    subst hcc
    have hlen : len₂ = len := by rw [hdg] at hd₂; cases hd₂; rfl
    subst hlen
    have hs₂ : s₂ = (({ U with heap := s₂.heap, slotsUsed := s₂.slotsUsed } : State).setVm s₂.vm).setTop { g with pc := g.pc + len₂, stack := v.toList ++ g.stack } := by
      refine e3.trans ?_
      rw [hf₂, State.calling_eq h.top, State.setFrames_setFrames, State.setTop_of_frames _ hr', hr]
      rfl
    have hsame : U.sameButNew ({ U with heap := s₂.heap, slotsUsed := s₂.slotsUsed } : State) L mc ms := by
      refine ⟨?_, q2, q3, q4, q5, q6⟩
      obtain ⟨t, ht, -⟩ := State.frames_cons hr
      show ({ U with heap := s₂.heap, slotsUsed := s₂.slotsUsed } : State) = { U.setFrames U.frames with heap := s₂.heap, slotsUsed := s₂.slotsUsed }
      rw [State.setFrames_self ht]
    subst hg
    refine Or.inl ⟨v, ⟨(({ U with heap := s₂.heap, slotsUsed := s₂.slotsUsed } : State).setVm s₂.vm), Ls ++ L, c0 + mc, s0 + ms⟩,
      ⟨X.admits, X.cas, X.clock, X.frames, X.room, X.hears, X.method, X.code, (X.here.setHeapUsed s₂.heap s₂.slotsUsed).setVm hW'.alike, X.tail, State.WarmedH.trans X.warmed hW', X.limits, X.bytes, X.same.trans (hsame.setVm s.vm)⟩,
      ⟨g, mk, s₂, L, rfl, rfl, hqc, rfl, hL, rfl, rfl⟩, ?_⟩
    show Steps p.tables e below _ ((({ U with heap := s₂.heap, slotsUsed := s₂.slotsUsed } : State).setVm s₂.vm).setTop { g with pc := g.pc + len₂, stack := v.toList ++ g.stack })
    rw [← hs₂]
    exact hsteps
  · obtain ⟨e2, q2, q3, q4, q5, q6⟩ := id hsm
    have e3 : s₂ = ({ (U.calling g mk a).setFrames s₂.frames with heap := s₂.heap, slotsUsed := s₂.slotsUsed } : State).setVm s₂.vm := by
      have : s₂ = ({ s₂ with vm := (U.calling g mk a).vm } : State).setVm s₂.vm := rfl
      rw [e2] at this
      exact this
    have hf₂ : s₂.frames = .throwing q :: .java g :: U.frames.tail := hend
    have hW' : U.WarmedH s₂.vm := hW₂
    have hs₂ : s₂ = ((({ U with heap := s₂.heap, slotsUsed := s₂.slotsUsed } : State).setVm s₂.vm).setTop g).pushFrame (.throwing q) := by
      refine e3.trans ?_
      rw [hf₂, State.calling_eq h.top, State.setFrames_setFrames, State.pushFrame, State.frames_setTop _ hr', State.setTop_of_frames _ hr', State.setFrames_setFrames, hr]
      rfl
    have hsame : U.sameButNew ({ U with heap := s₂.heap, slotsUsed := s₂.slotsUsed } : State) L mc ms := by
      refine ⟨?_, q2, q3, q4, q5, q6⟩
      obtain ⟨t, ht, -⟩ := State.frames_cons hr
      show ({ U with heap := s₂.heap, slotsUsed := s₂.slotsUsed } : State) = { U.setFrames U.frames with heap := s₂.heap, slotsUsed := s₂.slotsUsed }
      rw [State.setFrames_self ht]
    subst hg
    refine Or.inr ⟨q, ⟨(({ U with heap := s₂.heap, slotsUsed := s₂.slotsUsed } : State).setVm s₂.vm), Ls ++ L, c0 + mc, s0 + ms⟩,
      ⟨X.admits, X.cas, X.clock, X.frames, X.room, X.hears, X.method, X.code, (X.here.setHeapUsed s₂.heap s₂.slotsUsed).setVm hW'.alike, X.tail, State.WarmedH.trans X.warmed hW', X.limits, X.bytes, X.same.trans (hsame.setVm s.vm)⟩,
      ⟨g, mk, s₂, L, E, ce, rfl, rfl, hx, hce, hcv, hcl, rfl, hL, rfl, rfl⟩, ?_⟩
    show Steps p.tables e below _ (((({ U with heap := s₂.heap, slotsUsed := s₂.slotsUsed } : State).setVm s₂.vm).setTop g).pushFrame (.throwing q))
    rw [← hs₂]
    exact hsteps
end Payer
section Calls
variable {p : Program} {l : Launch} {e : Env} {R : Room} {s : State} {m : MethodId} {args : Array Value} {below : List Frame} {meth : Method} {c : Code} {T : State} {locs : List Loc} {cells slots : Nat}
theorem vx_callV (X : Stand p l e R s m args below meth c T locs cells slots) (hexec : p.tables.exec = Jvm.exec) {own C : String} {index : Nat} {y : MethodName} {bytes : ByteArray} {maxL : Nat} {ret : Option FieldType}
    (hown : s.vm.findClass own = some m.cls) (hlink : (Cond.methodLink own index y).before args s = true) (hinst : (Cond.instanceMethod y).before args s = true) (hsel : (Cond.selects C y y).before args s = true)
    (hcode : (Cond.code y bytes maxL ret).before args s = true) (hy : y.cls ≠ "java/lang/invoke/MethodHandle" ∧ y.cls ≠ "java/lang/invoke/VarHandle")
    {W9 : Nat} {Pre : Pt → Array Value → Prop} {Post : Pt → Array Value → Option Value → Pt → Prop} {PostX : Pt → Array Value → Addr → Pt → Prop} (hK : vx_Back l R p e below s args y 3 W9 Pre Post PostX)
    {b : Addr} {cellB : Cell} (hcell : T.heap[b]? = some cellB) (hobj : cellB.vm.isStatics = false) (hcls : s.vm.findClass C = some cellB.cls)
    {g : JFrame} (hg : g.method = m) (hsize : g.locals.size = c.maxLocals) {argsL rest : List Value} (hlen : ∀ sig, parseMethodDescriptor y.desc = some sig → argsL.length = sig.parameters.length)
    (hstack : g.stack = argsL.reverse ++ .ref b :: rest) (hW : 2 * g.monitorRoom + (rest.map fun v => v.category).sum ≤ W9) (hdg : decode c.code g.pc = .ok (.invokevirtual index, 3))
    (hpre : ∀ vm₁, s.WarmedH vm₁ → Pre ⟨T.setVm vm₁, locs, cells, slots⟩ (Value.ref b :: argsL).toArray) :
    (∃ (v : Option Value) (vm₁ : Vm) (B : Pt), s.WarmedH vm₁ ∧ Stand p l e R s m args below meth c B.U B.locs B.cells B.slots ∧ Post ⟨T.setVm vm₁, locs, cells, slots⟩ (Value.ref b :: argsL).toArray v B ∧
      ∀ target, Steps p.tables e below (B.U.setTop { g with pc := g.pc + 3, stack := v.toList ++ rest }) target → Steps p.tables e below (T.setTop g) target) ∨
    (∃ (q : Addr) (vm₁ : Vm) (B : Pt), s.WarmedH vm₁ ∧ Stand p l e R s m args below meth c B.U B.locs B.cells B.slots ∧ PostX ⟨T.setVm vm₁, locs, cells, slots⟩ (Value.ref b :: argsL).toArray q B ∧
      Steps p.tables e below (T.setTop g) ((B.U.setTop { g with stack := rest }).pushFrame (.throwing q))) := by
  obtain ⟨mk, methM, hnamed, hmethM, hstM, habM⟩ := Cond.instanceMethod_spec hinst
  obtain ⟨methM', cM, hmethM', -, -, -, -, -, -, hsigM⟩ := Cond.code_spec hnamed hcode
  cases hmethM.symm.trans hmethM'
  obtain ⟨c2, r2, m2, q1, q2, q3, q4, kP, hkP, hkPi⟩ := Cond.selects_spec hsel
  cases hcls.symm.trans q1
  cases (State.methodFound?_of_named hnamed hy).symm.trans q2
  cases hnamed.symm.trans q3
  have hselP : selectMethod e.platform s.vm cellB.cls mk = .method mk := by rw [Launch.admits_selectMethod X.admits]; exact q4
  obtain ⟨vm₁, X₁, hstep₁⟩ := X.invokevirtual hexec hown hlink hnamed hmethM hstM hkP hkPi hy (a := b) (cell := cellB) hcell
    (fun z h => by rw [h] at hobj; cases hobj) hselP hmethM habM hkP hkPi (g := g) hg (argsL := argsL) (rest := rest) (hlen _ hsigM) hstack hdg
  rcases hK m meth c ⟨T.setVm vm₁, locs, cells, slots⟩ { g with stack := rest } (.invokevirtual index) mk (Value.ref b :: argsL).toArray X₁ hg hsize hdg hW (X₁.named hnamed) (hpre vm₁ X₁.warmed) with ⟨v, B, X', hpost, hsteps⟩ | ⟨q, B, X', hpost, hsteps⟩
  · exact Or.inl ⟨v, vm₁, B, X₁.warmed, X', hpost, fun target h => hstep₁ _ fun acts => by rw [doInvoke_state]; exact hsteps.trans h⟩
  · exact Or.inr ⟨q, vm₁, B, X₁.warmed, X', hpost, hstep₁ _ fun acts => by rw [doInvoke_state]; exact hsteps⟩
theorem vx_callS (X : Stand p l e R s m args below meth c T locs cells slots) (hexec : p.tables.exec = Jvm.exec) {own : String} {index : Nat} {y : MethodName} {bytes : ByteArray} {maxL : Nat} {ret : Option FieldType}
    (hown : s.vm.findClass own = some m.cls) (hlink : (Cond.methodLink own index y).before args s = true) (hstat : (Cond.static y).before args s = true) (hinit : (Cond.initialized y.cls).before args s = true)
    (hcode : (Cond.code y bytes maxL ret).before args s = true) (hy : y.cls ≠ "java/lang/invoke/MethodHandle" ∧ y.cls ≠ "java/lang/invoke/VarHandle")
    {W9 : Nat} {Pre : Pt → Array Value → Prop} {Post : Pt → Array Value → Option Value → Pt → Prop} {PostX : Pt → Array Value → Addr → Pt → Prop} (hK : vx_Back l R p e below s args y 3 W9 Pre Post PostX)
    {g : JFrame} (hg : g.method = m) (hsize : g.locals.size = c.maxLocals) {argsL rest : List Value} (hlen : ∀ sig, parseMethodDescriptor y.desc = some sig → argsL.length = sig.parameters.length)
    (hstack : g.stack = argsL.reverse ++ rest) (hW : 2 * g.monitorRoom + (rest.map fun v => v.category).sum ≤ W9) (hdg : decode c.code g.pc = .ok (.invokestatic index, 3))
    (hpre : ∀ vm₁, s.WarmedH vm₁ → Pre ⟨T.setVm vm₁, locs, cells, slots⟩ argsL.toArray) :
    (∃ (v : Option Value) (vm₁ : Vm) (B : Pt), s.WarmedH vm₁ ∧ Stand p l e R s m args below meth c B.U B.locs B.cells B.slots ∧ Post ⟨T.setVm vm₁, locs, cells, slots⟩ argsL.toArray v B ∧
      ∀ target, Steps p.tables e below (B.U.setTop { g with pc := g.pc + 3, stack := v.toList ++ rest }) target → Steps p.tables e below (T.setTop g) target) ∨
    (∃ (q : Addr) (vm₁ : Vm) (B : Pt), s.WarmedH vm₁ ∧ Stand p l e R s m args below meth c B.U B.locs B.cells B.slots ∧ PostX ⟨T.setVm vm₁, locs, cells, slots⟩ argsL.toArray q B ∧
      Steps p.tables e below (T.setTop g) ((B.U.setTop { g with stack := rest }).pushFrame (.throwing q))) := by
  obtain ⟨mk, hnamed⟩ := Cond.code_named hcode
  obtain ⟨methM, cM, hmethM, -, -, -, -, -, -, hsigM⟩ := Cond.code_spec hnamed hcode
  have hstatic : methM.isStatic = true := Cond.static_spec hnamed hmethM hstat
  obtain ⟨kP, hkP, -⟩ := className_of_methodNamed hnamed
  have hinitP : kP.init = .initialized := Cond.initialized_spec (findClass_of_methodNamed hnamed) hkP hinit
  obtain ⟨vm₁, X₁, hstep₁⟩ := X.invokestatic hexec hown hlink hnamed hmethM hstatic hkP hinitP hy (g := g) hg (argsL := argsL) (rest := rest) (hlen _ hsigM) hstack hdg
  rcases hK m meth c ⟨T.setVm vm₁, locs, cells, slots⟩ { g with stack := rest } (.invokestatic index) mk argsL.toArray X₁ hg hsize hdg hW (X₁.named hnamed) (hpre vm₁ X₁.warmed) with ⟨v, B, X', hpost, hsteps⟩ | ⟨q, B, X', hpost, hsteps⟩
  · exact Or.inl ⟨v, vm₁, B, X₁.warmed, X', hpost, fun target h => hstep₁ _ fun acts => by rw [doInvoke_state]; exact hsteps.trans h⟩
  · exact Or.inr ⟨q, vm₁, B, X₁.warmed, X', hpost, hstep₁ _ fun acts => by rw [doInvoke_state]; exact hsteps⟩
end Calls
theorem vx_cls {s : State} {T : State} {vm₁ : Vm} {E : String} {k : ClassId} (hW : s.WarmedH vm₁) (h : (T.setVm vm₁).vm.findClass E = some k) : s.vm.findClass E = some k := by
  have h1 : vm₁.findClass E = some k := h
  rw [hW.alike.findClass] at h1
  exact h1
/-- the method's frame g, with q thrown over it -/
def vx_W (p : Program) (l : Launch) (e : Env) (R : Room) (s : State) (m : MethodId) (args : Array Value) (below : List Frame) (meth : Method) (c : Code) (H : Heap) (locs : List Loc) (cells slots : Nat) (Q : State → Prop) (g : JFrame) (q : Addr) : Prop :=
  ∀ T : State, T.heap = H → Stand p l e R s m args below meth c T locs cells slots → ∃ t, Steps p.tables e below ((T.setTop g).pushFrame (.throwing q)) t ∧ Q t
def vx_Run (p : Program) (l : Launch) (e : Env) (R : Room) (s : State) (m : MethodId) (args : Array Value) (below : List Frame) (meth : Method) (c : Code) (H : Heap) (locs : List Loc) (cells slots mc ms : Nat) (g : JFrame) (rest : List Value) (Qa : State → Outcome → State → Prop) (XC : String → State → State → Prop) (free : Addr → Prop) : Prop :=
  ∀ T : State, T.heap = H → Stand p l e R s m args below meth c T locs cells slots →
    (∃ (v : Option Value) (st₀ t T' : State) (L : List Loc), st₀.heap = H ∧ Stand p l e R s m args below meth c T' (locs ++ L) (cells + mc) (slots + ms) ∧ (∀ q ∈ L, free q.base) ∧ T'.heap = t.heap ∧ T'.vm = t.vm ∧ Qa st₀ (.returned v) t ∧
      Goes p e below T g T' { g with pc := g.pc + 3, stack := v.toList ++ rest }) ∨
    (∃ (q : Addr) (st₀ t T' : State) (L : List Loc) (E : String) (ce : Cell), st₀.heap = H ∧ Stand p l e R s m args below meth c T' (locs ++ L) (cells + mc) (slots + ms) ∧ (∀ z ∈ L, free z.base) ∧ T'.heap = t.heap ∧ T'.vm = t.vm ∧ XC E st₀ t ∧ t.heap[q]? = some ce ∧ ce.vm = .none ∧ s.vm.findClass E = some ce.cls ∧
      Steps p.tables e below (T.setTop g) ((T'.setTop { g with stack := rest }).pushFrame (.throwing q)))
def vx_X {S : Type} (px : S → Prop) (B : String → S → State → Prop) (A : Nat → Prop) : String → State → State → Prop := fun E st t => ∃ u : S, px u ∧ B E u t ∧ va_F A st t
section Runs
variable {p : Program} {l : Launch} {e : Env} {R : Room} {s : State} {m : MethodId} {args : Array Value} {below : List Frame} {meth : Method} {c : Code} {H : Heap} {locs : List Loc} {cells slots : Nat}
variable {y : MethodName} {bytes cc : ByteArray} {maxL nL mc ms n index : Nat} {ret : Option FieldType} {ws : List Cond} {rm : Room} {Pc : Array Value → State → Prop} {Qc : Array Value → State → Outcome → State → Prop} {XC : String → State → State → Prop} {free : Addr → Prop} {Ts : List Cond} {own C : String} {b : Addr} {As rest : List Value} {g : JFrame}
theorem vx_callBack (cb : CallB R s args own index y bytes maxL ret ws rm mc ms n) (hM : vx_Met l y ws rm Pc Qc XC mc ms free) (hbl : FrameBlind Pc) : vx_Back l R p e below s args y 3 8 (PreOf R mc ms Pc) (PostOf Qc mc ms free) (vx_Post XC mc ms free) := by
  obtain ⟨hrc, hrs, hfr, hlo, hws, hcw, -, hini, -⟩ := cb
  exact vx_back (bytes := bytes) (maxL := maxL) (ret := ret) hM hbl hrc hrs hfr hlo hws hcw (fun a' U hW => word_at hW (Or.inl (by first | rfl | simp [Cond.onTables, Cond.keeps, Cond.steady])) hini)
theorem vx_runV (S : CallFix p m c cc nL s args Ts own) (hM : vx_Met l y ws rm Pc Qc XC mc ms free) (cw : CallW R s args own C index y bytes maxL ret ws rm mc ms n) (hp : PreV s H C b Pc As)
    (hg : g.method = m) (hn : As.length = n) (hsize : g.locals.size = nL) (hstack : g.stack = As.reverse ++ .ref b :: rest) (hW : 2 * g.monitorRoom + (rest.map fun v => v.category).sum ≤ 8) (hdg : decode cc g.pc = .ok (.invokevirtual index, 3)) (hf : cells + mc ≤ R.cells ∧ slots + ms ≤ R.slots) :
    vx_Run p l e R s m args below meth c H locs cells slots mc ms g rest (Qc (Value.ref b :: As).toArray) XC free := by
  have hK : vx_Back l R p e below s args y 3 8 (PreOf R mc ms Pc) (PostOf Qc mc ms free) (vx_Post XC mc ms free) := vx_callBack cw.1 hM hp.1
  obtain ⟨⟨-, -, -, -, -, -, hcode, -, hy, hlen, hl⟩, hin, hse⟩ := cw
  obtain ⟨hx, hb, hml, ho, -⟩ := S
  obtain ⟨-, ⟨cellB, hcB, hoB, hclB⟩, hPc⟩ := hp
  intro T hT X
  rcases vx_callV X hx (C := C) (bytes := bytes) (maxL := maxL) (ret := ret) ho hl hin hse hcode hy hK (by rw [hT]; exact hcB) hoB hclB hg (hsize.trans hml.symm) (argsL := As) (rest := rest) (fun sig h => hn.trans (hlen sig h)) hstack hW (by rw [hb]; exact hdg)
    (fun vm₁ hW₁ => ⟨hf.1, hf.2, hPc (T.setVm vm₁) hT hW₁⟩) with ⟨v, vm₁, ⟨U', l2, c2, s2⟩, hW₁, X', ⟨g', mk, t, L, e1, e2, hq, h1, hL, h2, h3⟩, st⟩ | ⟨q, vm₁, ⟨U', l2, c2, s2⟩, hW₁, X', ⟨g', mk, t, L, E, ce, e1, e2, hq, hce, hcv, hcl, h1, hL, h2, h3⟩, st⟩
  · dsimp only [Pt.U, Pt.locs, Pt.cells, Pt.slots] at X' e1 e2 h1 h2 h3 st
    subst h1; subst h2; subst h3
    exact Or.inl ⟨v, (T.setVm vm₁).calling g' mk (Value.ref b :: As).toArray, t, U', L, hT, X', hL, e1, e2, hq, st⟩
  · dsimp only [Pt.U, Pt.locs, Pt.cells, Pt.slots] at X' e1 e2 h1 h2 h3 st hcl
    subst h1; subst h2; subst h3
    exact Or.inr ⟨q, (T.setVm vm₁).calling g' mk (Value.ref b :: As).toArray, t, U', L, E, ce, hT, X', hL, e1, e2, hq, hce, hcv, vx_cls hW₁ hcl, st⟩
theorem vx_runS (S : CallFix p m c cc nL s args Ts own) (hM : vx_Met l y ws rm Pc Qc XC mc ms free) (cw : CallB R s args own index y bytes maxL ret ws rm mc ms n ∧ (Cond.static y).before args s = true) (hp : PreS s H Pc As)
    (hg : g.method = m) (hn : As.length = n) (hsize : g.locals.size = nL) (hstack : g.stack = As.reverse ++ rest) (hW : 2 * g.monitorRoom + (rest.map fun v => v.category).sum ≤ 8) (hdg : decode cc g.pc = .ok (.invokestatic index, 3)) (hf : cells + mc ≤ R.cells ∧ slots + ms ≤ R.slots) :
    vx_Run p l e R s m args below meth c H locs cells slots mc ms g rest (Qc As.toArray) XC free := by
  have hK : vx_Back l R p e below s args y 3 8 (PreOf R mc ms Pc) (PostOf Qc mc ms free) (vx_Post XC mc ms free) := vx_callBack cw.1 hM hp.1
  obtain ⟨⟨-, -, -, -, -, -, hcode, hini, hy, hlen, hl⟩, hstt⟩ := cw
  obtain ⟨hx, hb, hml, ho, -⟩ := S
  intro T hT X
  rcases vx_callS X hx (bytes := bytes) (maxL := maxL) (ret := ret) ho hl hstt hini hcode hy hK hg (hsize.trans hml.symm) (argsL := As) (rest := rest) (fun sig h => hn.trans (hlen sig h)) hstack hW (by rw [hb]; exact hdg)
    (fun vm₁ hW₁ => ⟨hf.1, hf.2, hp.2 (T.setVm vm₁) hT hW₁⟩) with ⟨v, vm₁, ⟨U', l2, c2, s2⟩, hW₁, X', ⟨g', mk, t, L, e1, e2, hq, h1, hL, h2, h3⟩, st⟩ | ⟨q, vm₁, ⟨U', l2, c2, s2⟩, hW₁, X', ⟨g', mk, t, L, E, ce, e1, e2, hq, hce, hcv, hcl, h1, hL, h2, h3⟩, st⟩
  · dsimp only [Pt.U, Pt.locs, Pt.cells, Pt.slots] at X' e1 e2 h1 h2 h3 st
    subst h1; subst h2; subst h3
    exact Or.inl ⟨v, (T.setVm vm₁).calling g' mk As.toArray, t, U', L, hT, X', hL, e1, e2, hq, st⟩
  · dsimp only [Pt.U, Pt.locs, Pt.cells, Pt.slots] at X' e1 e2 h1 h2 h3 st hcl
    subst h1; subst h2; subst h3
    exact Or.inr ⟨q, (T.setVm vm₁).calling g' mk As.toArray, t, U', L, E, ce, hT, X', hL, e1, e2, hq, hce, hcv, vx_cls hW₁ hcl, st⟩
end Runs
section Rows
variable {p : Program} {l : Launch} {e : Env} {R : Room} {s : State} {m : MethodId} {args : Array Value} {below : List Frame} {meth : Method} {c : Code} {H : Heap} {locs : List Loc} {cells slots : Nat} {Q : State → Prop}
variable {mc ms : Nat} {free : Addr → Prop} {A0 A1 : Nat → Prop} {H0 : Heap} {a : Array Value} {pc : Nat} {ls : Array Slot} {st0 rest : List Value}
theorem vx_keep {st₀ t T' : State} {L : List Loc} (h0 : st₀.heap = H) (e1 : T'.heap = t.heap) (hS : va_S A0 H0 H locs) (hA : ∀ q, q < H.size → A1 q → A0 q) (hf : ∀ q, free q → A0 q) (hL : ∀ q ∈ L, free q.base) (hF : va_F A1 st₀ t) :
    H.size ≤ T'.heap.size ∧ (∀ q : Nat, q < H.size → ¬ A1 q → T'.heap[q]? = H[q]?) ∧ va_S A0 H0 T'.heap (locs ++ L) := by
  obtain ⟨hz, hk⟩ := hF
  rw [h0] at hz hk
  exact ⟨by rw [e1]; exact hz, fun q h1 h2 => by rw [e1]; exact hk q h1 h2,
    ⟨Nat.le_trans hS.1 (by rw [e1]; exact hz), fun q h1 h2 => by rw [e1, hk q (Nat.lt_of_lt_of_le h1 hS.1) (fun z => h2 (hA q (Nat.lt_of_lt_of_le h1 hS.1) z))]; exact hS.2.1 q h1 h2, fun q hq => by
      rcases List.mem_append.mp hq with h | h
      · exact hS.2.2 q h
      · exact hf _ (hL q h)⟩⟩
theorem vx_calli {S SX : Type} {post : Int32 → S → Prop} {px : SX → Prop} {B : S → State → Prop} {BX : String → SX → State → Prop} {AX : Nat → Prop} (hr : vx_Run p l e R s m args below meth c H locs cells slots mc ms (F0 m pc ls st0) rest (va_Qi post B A1 a) (vx_X px BX AX) free) (hS : va_S A0 H0 H locs) (hA : ∀ q, q < H.size → A1 q → A0 q) (hf : ∀ q, free q → A0 q) (hAX : ∀ q, q < H.size → AX q → A0 q)
    (kx : ∀ (E : String) (ce : Cell) (q9 : Addr) (u : SX) (t : State) (H1 : Heap) (locs1 : List Loc), t.heap = H1 → s.vm.Alike t.vm → px u → BX E u t → H.size ≤ H1.size → (∀ q : Nat, q < H.size → ¬ AX q → H1[q]? = H[q]?) → va_S A0 H0 H1 locs1 → H1[q9]? = some ce → ce.vm = .none → s.vm.findClass E = some ce.cls → vx_W p l e R s m args below meth c H1 locs1 (cells + mc) (slots + ms) Q (F0 m pc ls rest) q9)
    (kk : ∀ (r : Int32) (u : S) (t : State) (H1 : Heap) (locs1 : List Loc), t.heap = H1 → s.vm.Alike t.vm → post r u → B u t → H.size ≤ H1.size → (∀ q : Nat, q < H.size → ¬ A1 q → H1[q]? = H[q]?) → va_S A0 H0 H1 locs1 → W p l e R s m args below meth c H1 locs1 (cells + mc) (slots + ms) Q (F0 m (pc + 3) ls (.int r :: rest))) : W p l e R s m args below meth c H locs cells slots Q (F0 m pc ls st0) := by
  intro T hT X
  rcases hr T hT X with ⟨v, st₀, t, T', L, h0, X', hL, e1, e2, ⟨⟨r, u, hv, hp, hb⟩, hF⟩, st⟩ | ⟨q, st₀, t, T', L, E, ce, h0, X', hL, e1, e2, ⟨u, hp, hb, hF⟩, hce, hcv, hcl, st⟩
  · cases hv
    obtain ⟨k1, k2, k3⟩ := vx_keep h0 e1 hS hA hf hL hF
    obtain ⟨t2, a1, b1⟩ := kk r u t T'.heap (locs ++ L) e1.symm (by rw [← e2]; exact X'.warmed.alike) hp hb k1 k2 k3 T' rfl X'
    exact ⟨t2, st t2 a1, b1⟩
  · obtain ⟨k1, k2, k3⟩ := vx_keep h0 e1 hS hAX hf hL hF
    obtain ⟨t2, a1, b1⟩ := kx E ce q u t T'.heap (locs ++ L) e1.symm (by rw [← e2]; exact X'.warmed.alike) hp hb k1 k2 k3 (by rw [e1]; exact hce) hcv hcl T' rfl X'
    exact ⟨t2, st.trans a1, b1⟩
theorem vx_calll {S SX : Type} {post : Int64 → S → Prop} {px : SX → Prop} {B : S → State → Prop} {BX : String → SX → State → Prop} {AX : Nat → Prop} (hr : vx_Run p l e R s m args below meth c H locs cells slots mc ms (F0 m pc ls st0) rest (va_Ql post B A1 a) (vx_X px BX AX) free) (hS : va_S A0 H0 H locs) (hA : ∀ q, q < H.size → A1 q → A0 q) (hf : ∀ q, free q → A0 q) (hAX : ∀ q, q < H.size → AX q → A0 q)
    (kx : ∀ (E : String) (ce : Cell) (q9 : Addr) (u : SX) (t : State) (H1 : Heap) (locs1 : List Loc), t.heap = H1 → s.vm.Alike t.vm → px u → BX E u t → H.size ≤ H1.size → (∀ q : Nat, q < H.size → ¬ AX q → H1[q]? = H[q]?) → va_S A0 H0 H1 locs1 → H1[q9]? = some ce → ce.vm = .none → s.vm.findClass E = some ce.cls → vx_W p l e R s m args below meth c H1 locs1 (cells + mc) (slots + ms) Q (F0 m pc ls rest) q9)
    (kk : ∀ (r : Int64) (u : S) (t : State) (H1 : Heap) (locs1 : List Loc), t.heap = H1 → s.vm.Alike t.vm → post r u → B u t → H.size ≤ H1.size → (∀ q : Nat, q < H.size → ¬ A1 q → H1[q]? = H[q]?) → va_S A0 H0 H1 locs1 → W p l e R s m args below meth c H1 locs1 (cells + mc) (slots + ms) Q (F0 m (pc + 3) ls (.long r :: rest))) : W p l e R s m args below meth c H locs cells slots Q (F0 m pc ls st0) := by
  intro T hT X
  rcases hr T hT X with ⟨v, st₀, t, T', L, h0, X', hL, e1, e2, ⟨⟨r, u, hv, hp, hb⟩, hF⟩, st⟩ | ⟨q, st₀, t, T', L, E, ce, h0, X', hL, e1, e2, ⟨u, hp, hb, hF⟩, hce, hcv, hcl, st⟩
  · cases hv
    obtain ⟨k1, k2, k3⟩ := vx_keep h0 e1 hS hA hf hL hF
    obtain ⟨t2, a1, b1⟩ := kk r u t T'.heap (locs ++ L) e1.symm (by rw [← e2]; exact X'.warmed.alike) hp hb k1 k2 k3 T' rfl X'
    exact ⟨t2, st t2 a1, b1⟩
  · obtain ⟨k1, k2, k3⟩ := vx_keep h0 e1 hS hAX hf hL hF
    obtain ⟨t2, a1, b1⟩ := kx E ce q u t T'.heap (locs ++ L) e1.symm (by rw [← e2]; exact X'.warmed.alike) hp hb k1 k2 k3 (by rw [e1]; exact hce) hcv hcl T' rfl X'
    exact ⟨t2, st.trans a1, b1⟩
theorem vx_callf {S SX : Type} {post : UInt32 → S → Prop} {px : SX → Prop} {B : S → State → Prop} {BX : String → SX → State → Prop} {AX : Nat → Prop} (hr : vx_Run p l e R s m args below meth c H locs cells slots mc ms (F0 m pc ls st0) rest (va_Qf post B A1 a) (vx_X px BX AX) free) (hS : va_S A0 H0 H locs) (hA : ∀ q, q < H.size → A1 q → A0 q) (hf : ∀ q, free q → A0 q) (hAX : ∀ q, q < H.size → AX q → A0 q)
    (kx : ∀ (E : String) (ce : Cell) (q9 : Addr) (u : SX) (t : State) (H1 : Heap) (locs1 : List Loc), t.heap = H1 → s.vm.Alike t.vm → px u → BX E u t → H.size ≤ H1.size → (∀ q : Nat, q < H.size → ¬ AX q → H1[q]? = H[q]?) → va_S A0 H0 H1 locs1 → H1[q9]? = some ce → ce.vm = .none → s.vm.findClass E = some ce.cls → vx_W p l e R s m args below meth c H1 locs1 (cells + mc) (slots + ms) Q (F0 m pc ls rest) q9)
    (kk : ∀ (r : UInt32) (u : S) (t : State) (H1 : Heap) (locs1 : List Loc), t.heap = H1 → s.vm.Alike t.vm → post r u → B u t → H.size ≤ H1.size → (∀ q : Nat, q < H.size → ¬ A1 q → H1[q]? = H[q]?) → va_S A0 H0 H1 locs1 → W p l e R s m args below meth c H1 locs1 (cells + mc) (slots + ms) Q (F0 m (pc + 3) ls (.float r :: rest))) : W p l e R s m args below meth c H locs cells slots Q (F0 m pc ls st0) := by
  intro T hT X
  rcases hr T hT X with ⟨v, st₀, t, T', L, h0, X', hL, e1, e2, ⟨⟨r, u, hv, hp, hb⟩, hF⟩, st⟩ | ⟨q, st₀, t, T', L, E, ce, h0, X', hL, e1, e2, ⟨u, hp, hb, hF⟩, hce, hcv, hcl, st⟩
  · cases hv
    obtain ⟨k1, k2, k3⟩ := vx_keep h0 e1 hS hA hf hL hF
    obtain ⟨t2, a1, b1⟩ := kk r u t T'.heap (locs ++ L) e1.symm (by rw [← e2]; exact X'.warmed.alike) hp hb k1 k2 k3 T' rfl X'
    exact ⟨t2, st t2 a1, b1⟩
  · obtain ⟨k1, k2, k3⟩ := vx_keep h0 e1 hS hAX hf hL hF
    obtain ⟨t2, a1, b1⟩ := kx E ce q u t T'.heap (locs ++ L) e1.symm (by rw [← e2]; exact X'.warmed.alike) hp hb k1 k2 k3 (by rw [e1]; exact hce) hcv hcl T' rfl X'
    exact ⟨t2, st.trans a1, b1⟩
theorem vx_calld {S SX : Type} {post : UInt64 → S → Prop} {px : SX → Prop} {B : S → State → Prop} {BX : String → SX → State → Prop} {AX : Nat → Prop} (hr : vx_Run p l e R s m args below meth c H locs cells slots mc ms (F0 m pc ls st0) rest (va_Qd post B A1 a) (vx_X px BX AX) free) (hS : va_S A0 H0 H locs) (hA : ∀ q, q < H.size → A1 q → A0 q) (hf : ∀ q, free q → A0 q) (hAX : ∀ q, q < H.size → AX q → A0 q)
    (kx : ∀ (E : String) (ce : Cell) (q9 : Addr) (u : SX) (t : State) (H1 : Heap) (locs1 : List Loc), t.heap = H1 → s.vm.Alike t.vm → px u → BX E u t → H.size ≤ H1.size → (∀ q : Nat, q < H.size → ¬ AX q → H1[q]? = H[q]?) → va_S A0 H0 H1 locs1 → H1[q9]? = some ce → ce.vm = .none → s.vm.findClass E = some ce.cls → vx_W p l e R s m args below meth c H1 locs1 (cells + mc) (slots + ms) Q (F0 m pc ls rest) q9)
    (kk : ∀ (r : UInt64) (u : S) (t : State) (H1 : Heap) (locs1 : List Loc), t.heap = H1 → s.vm.Alike t.vm → post r u → B u t → H.size ≤ H1.size → (∀ q : Nat, q < H.size → ¬ A1 q → H1[q]? = H[q]?) → va_S A0 H0 H1 locs1 → W p l e R s m args below meth c H1 locs1 (cells + mc) (slots + ms) Q (F0 m (pc + 3) ls (.double r :: rest))) : W p l e R s m args below meth c H locs cells slots Q (F0 m pc ls st0) := by
  intro T hT X
  rcases hr T hT X with ⟨v, st₀, t, T', L, h0, X', hL, e1, e2, ⟨⟨r, u, hv, hp, hb⟩, hF⟩, st⟩ | ⟨q, st₀, t, T', L, E, ce, h0, X', hL, e1, e2, ⟨u, hp, hb, hF⟩, hce, hcv, hcl, st⟩
  · cases hv
    obtain ⟨k1, k2, k3⟩ := vx_keep h0 e1 hS hA hf hL hF
    obtain ⟨t2, a1, b1⟩ := kk r u t T'.heap (locs ++ L) e1.symm (by rw [← e2]; exact X'.warmed.alike) hp hb k1 k2 k3 T' rfl X'
    exact ⟨t2, st t2 a1, b1⟩
  · obtain ⟨k1, k2, k3⟩ := vx_keep h0 e1 hS hAX hf hL hF
    obtain ⟨t2, a1, b1⟩ := kx E ce q u t T'.heap (locs ++ L) e1.symm (by rw [← e2]; exact X'.warmed.alike) hp hb k1 k2 k3 (by rw [e1]; exact hce) hcv hcl T' rfl X'
    exact ⟨t2, st.trans a1, b1⟩
theorem vx_callv {S SX : Type} {post : S → Prop} {px : SX → Prop} {B : S → State → Prop} {BX : String → SX → State → Prop} {AX : Nat → Prop} (hr : vx_Run p l e R s m args below meth c H locs cells slots mc ms (F0 m pc ls st0) rest (va_Qv post B A1 a) (vx_X px BX AX) free) (hS : va_S A0 H0 H locs) (hA : ∀ q, q < H.size → A1 q → A0 q) (hf : ∀ q, free q → A0 q) (hAX : ∀ q, q < H.size → AX q → A0 q)
    (kx : ∀ (E : String) (ce : Cell) (q9 : Addr) (u : SX) (t : State) (H1 : Heap) (locs1 : List Loc), t.heap = H1 → s.vm.Alike t.vm → px u → BX E u t → H.size ≤ H1.size → (∀ q : Nat, q < H.size → ¬ AX q → H1[q]? = H[q]?) → va_S A0 H0 H1 locs1 → H1[q9]? = some ce → ce.vm = .none → s.vm.findClass E = some ce.cls → vx_W p l e R s m args below meth c H1 locs1 (cells + mc) (slots + ms) Q (F0 m pc ls rest) q9)
    (kk : ∀ (u : S) (t : State) (H1 : Heap) (locs1 : List Loc), t.heap = H1 → s.vm.Alike t.vm → post u → B u t → H.size ≤ H1.size → (∀ q : Nat, q < H.size → ¬ A1 q → H1[q]? = H[q]?) → va_S A0 H0 H1 locs1 → W p l e R s m args below meth c H1 locs1 (cells + mc) (slots + ms) Q (F0 m (pc + 3) ls (rest))) : W p l e R s m args below meth c H locs cells slots Q (F0 m pc ls st0) := by
  intro T hT X
  rcases hr T hT X with ⟨v, st₀, t, T', L, h0, X', hL, e1, e2, ⟨⟨u, hv, hp, hb⟩, hF⟩, st⟩ | ⟨q, st₀, t, T', L, E, ce, h0, X', hL, e1, e2, ⟨u, hp, hb, hF⟩, hce, hcv, hcl, st⟩
  · cases hv
    obtain ⟨k1, k2, k3⟩ := vx_keep h0 e1 hS hA hf hL hF
    obtain ⟨t2, a1, b1⟩ := kk u t T'.heap (locs ++ L) e1.symm (by rw [← e2]; exact X'.warmed.alike) hp hb k1 k2 k3 T' rfl X'
    exact ⟨t2, st t2 a1, b1⟩
  · obtain ⟨k1, k2, k3⟩ := vx_keep h0 e1 hS hAX hf hL hF
    obtain ⟨t2, a1, b1⟩ := kx E ce q u t T'.heap (locs ++ L) e1.symm (by rw [← e2]; exact X'.warmed.alike) hp hb k1 k2 k3 (by rw [e1]; exact hce) hcv hcl T' rfl X'
    exact ⟨t2, st.trans a1, b1⟩
/-- caught by the row x of this method's table; the rows ahead don't take it -/
theorem vx_catch {own name : String} {E : String} {ce : Cell} {q : Addr} (hown : s.vm.findClass own = some m.cls) (pre : List ExceptionTableEntry) (x : ExceptionTableEntry) (suf : List ExceptionTableEntry) (hsplit : c.exceptionTable.toList = pre ++ x :: suf)
    (hpass : ∀ z ∈ pre, covers z pc = false ∨ (z.catchType ≠ 0 ∧ ∃ nm : String, (Cond.classLink own z.catchType nm).before args s = true ∧ va_Nc E nm s)) (hx : covers x pc = true) (h0 : x.catchType ≠ 0)
    (hlink : (Cond.classLink own x.catchType name).before args s = true) (hcast : (Cond.castable E name).before args s = true) (hcell : H[q]? = some ce) (hv : ce.vm = .none) (hcl : s.vm.findClass E = some ce.cls)
    (kk : W p l e R s m args below meth c H locs cells slots Q (F0 m x.handlerPc ls [.ref q])) : vx_W p l e R s m args below meth c H locs cells slots Q (F0 m pc ls rest) q := by
  intro T hT X
  have hpl : e.platform.magicAccessors = ({} : Platform).magicAccessors := by rw [X.admits.platform]
  obtain ⟨c3, c4, hc3, hc4, hasg⟩ := Cond.castable_spec hcast
  cases Option.some.inj (hc3.symm.trans hcl)
  obtain ⟨c5, hc5, hcl5⟩ := Cond.classLink_spec hown hlink e.platform hpl
  cases Option.some.inj (hc4.symm.trans hc5)
  obtain ⟨vm', X', st⟩ := X.thenCaughtThrough q (g := F0 m pc ls rest) rfl (Steps.refl _) (by rw [hT]; exact hcell) (by rw [hv]; rfl) (by obtain ⟨k9, h9, -⟩ := Vm.findClass_spec hcl; exact ⟨k9, h9⟩) pre x suf hsplit
    (fun z hz => by
      rcases hpass z hz with h | ⟨hz0, nm, hl1, hn1⟩
      · exact Or.inl h
      · obtain ⟨c6, hc6, hcl6⟩ := Cond.classLink_spec hown hl1 e.platform hpl
        obtain ⟨a8, b8, h1, h2, h3⟩ := hn1
        cases Option.some.inj (h1.symm.trans hcl)
        cases Option.some.inj (h2.symm.trans hc6)
        exact Or.inr ⟨hz0, _, hcl6, h3⟩) hx (Or.inr ⟨h0, c4, hcl5, hasg⟩)
  obtain ⟨t, a1, b1⟩ := kk (T.setVm vm') hT X'
  exact ⟨t, st.trans a1, b1⟩
end Rows
section Ends
variable {p : Program} {l : Launch} {e : Env} {R : Room} {s : State} {m : MethodId} {args : Array Value} {below : List Frame} {meth : Method} {c : Code} {H : Heap} {locs : List Loc} {cells slots : Nat} {Q : State → Prop}
variable {mc ms : Nat} {free : Addr → Prop} {A0 A1 : Nat → Prop} {H0 : Heap} {a : Array Value} {ls : Array Slot} {st0 rest : List Value}
variable {Qc : Array Value → State → Outcome → State → Prop} {XC : String → State → State → Prop}
/-- what a body that may throw owes at its end -/
def vx_MQ (below : List Frame) (Qc : Array Value → State → Outcome → State → Prop) (XC : String → State → State → Prop) (a : Array Value) (s : State) (mc ms : Nat) (free : Addr → Prop) : State → Prop := fun t =>
  ∃ o, t.status = .running ∧ Ended t below o ∧ vx_Q Qc XC mc ms free a s o t
theorem vx_ret {g : JFrame} {mc ms : Nat} (k : W p l e R s m args below meth c H locs cells slots (MQ below Qc args s mc ms free) g) : W p l e R s m args below meth c H locs cells slots (vx_MQ below Qc XC args s mc ms free) g := by
  intro T hT X
  obtain ⟨t, a1, o, b1, b2, b3, b4⟩ := k T hT X
  exact ⟨t, a1, o, b1, b2, Or.inl ⟨b3, b4⟩⟩
/-- not caught here: it goes on to the caller -/
theorem vx_widen {g : JFrame} {q : Addr} {k n : Nat} (h1 : cells ≤ k) (h2 : slots ≤ n) (kk : vx_W p l e R s m args below meth c H locs k n Q g q) : vx_W p l e R s m args below meth c H locs cells slots Q g q := fun T hT X => kk T hT (stand_widen X h1 h2)
theorem vx_out {pc : Nat} {E : String} {ce : Cell} {q : Addr} {mc ms : Nat} (hout : ∀ x ∈ c.exceptionTable.toList, covers x pc = false) (hlocks : meth.locks = false) (hcell : H[q]? = some ce) (hv : ce.vm = .none) (hcl : s.vm.findClass E = some ce.cls)
    (hx : ∀ t : State, t.heap = H → s.vm.Alike t.vm → XC E s t) (hf : ∀ z ∈ locs, free z.base) (hc : cells ≤ mc) (hs : slots ≤ ms) :
    vx_W p l e R s m args below meth c H locs cells slots (vx_MQ below Qc XC args s mc ms free) (F0 m pc ls rest) q := by
  intro T hT X
  obtain ⟨st1, hrun, hend, hW, hsm⟩ := X.leaveThrown q (g := F0 m pc ls rest) rfl rfl rfl hout hlocks
  have hcell9 : (T.setFrames (.throwing q :: below)).heap[q]? = some ce := by
    show T.heap[q]? = some ce
    rw [hT]; exact hcell
  exact ⟨_, st1, .threw q, hrun, hend, Or.inr ⟨q, rfl, E, ce, locs, hx _ hT hW.alike, hcell9, hv, hcl, hW, hsm.mono hc hs, hf⟩⟩
theorem vx_frame {U : State} {k n : Nat} (h : s.sameButNew ({ U with vm := s.vm } : State) locs k n) : s.heap.size ≤ U.heap.size ∧ ∀ q : Nat, q < s.heap.size → (∀ z ∈ locs, z.base ≠ q) → U.heap[q]? = s.heap[q]? := by
  obtain ⟨-, h2, -, -, -, h6⟩ := h
  refine ⟨h2, fun q hq hz => ?_⟩
  obtain ⟨c9, e1, e2, e3, e4⟩ := h6 q _ (Array.getElem?_eq_getElem hq)
  have hs : c9.slots = (s.heap[q]).slots := Array.ext_getElem? fun i => e4 i fun hm => hz _ hm rfl
  have h9 : c9 = s.heap[q] := by
    rw [hs] at e2
    exact e2
  have e5 : U.heap[q]? = some c9 := e1
  rw [e5, h9, Array.getElem?_eq_getElem hq]
/-- the words of a throw but the four that speak of the heap -/
def vx_no (w : Cond) : Bool := decide (w ≠ .isRef (.static Bundle.tN "UNASSIGNED_STACK" Bundle.steD)) && decide (w ≠ .isRef (.static Bundle.tN "SUPPRESSED_SENTINEL" Bundle.listD)) && decide (w ≠ .laysStatic Bundle.tN "UNASSIGNED_STACK" Bundle.steD) && decide (w ≠ .laysStatic Bundle.tN "SUPPRESSED_SENTINEL" Bundle.listD)
def vx_at0 (own : String) (ic : Nat) (X : String) (names : List String) : List Cond := (Bundle.ownAtoms0 own ic X names).filter vx_no
def vx_atS (own : String) (ic : Nat) (X : String) (names : List String) : List Cond := (Bundle.ownAtoms own ic X names).filter vx_no
/-- a word that the tables alone decide, or a good one -/
def vx_ot (w : Cond) : Bool := w.onTables || goodWord w
theorem vx_ot_at {args a' : Array Value} {s U : State} {w : Cond} (hW : s.WarmedH U.vm) (hvm : s.vm = U.vm) (hg : vx_ot w = true) (h : w.before args s = true) : w.before a' U = true := by
  simp only [vx_ot, Bool.or_eq_true] at hg
  rcases hg with hg | hg
  · exact va_tabs hg hvm h
  · exact word_at hW (good_of_word hg) h
/-- a list's words: the good ones out of the method's own list, the others by premises of their own -/
theorem vx_hat {args : Array Value} {s : State} {L B : List Cond} (h1 : ∀ w ∈ L.filter goodWord, w.before args s = true) (h2 : ∀ w ∈ L.filter (fun w => !goodWord w), w ∈ B) (h3 : ∀ w ∈ B, w.before args s = true) : ∀ w ∈ L, w.before args s = true := by
  intro w hw
  by_cases g : goodWord w = true
  · exact h1 w (List.mem_filter.mpr ⟨hw, g⟩)
  · refine h3 w (h2 w (List.mem_filter.mpr ⟨hw, ?_⟩))
    show (!goodWord w) = true
    cases hgw : goodWord w
    · rfl
    · exact absurd hgw g
theorem vx_c {args : Array Value} {s : State} {w : Cond} {B : List Cond} (h : w.before args s = true) (t : ∀ w ∈ B, w.before args s = true) : ∀ w' ∈ w :: B, w'.before args s = true := fun w' h' => (List.mem_cons.mp h').elim (fun e => by rw [e]; exact h) (t w')
theorem vx_n {args : Array Value} {s : State} : ∀ w ∈ ([] : List Cond), w.before args s = true := fun _ h => nomatch h
theorem vx_own {args : Array Value} {s : State} {L : List Cond} (h1 : ∀ w ∈ L.filter vx_no, w.before args s = true)
    (hU : (Cond.isRef (.static Bundle.tN "UNASSIGNED_STACK" Bundle.steD)).before args s = true) (hN : (Cond.isRef (.static Bundle.tN "SUPPRESSED_SENTINEL" Bundle.listD)).before args s = true)
    (lU : (Cond.laysStatic Bundle.tN "UNASSIGNED_STACK" Bundle.steD).before args s = true) (lN : (Cond.laysStatic Bundle.tN "SUPPRESSED_SENTINEL" Bundle.listD).before args s = true) : ∀ w ∈ L, w.before args s = true := by
  intro w hw
  by_cases e1 : w = .isRef (.static Bundle.tN "UNASSIGNED_STACK" Bundle.steD)
  · rw [e1]; exact hU
  · by_cases e2 : w = .isRef (.static Bundle.tN "SUPPRESSED_SENTINEL" Bundle.listD)
    · rw [e2]; exact hN
    · by_cases e3 : w = .laysStatic Bundle.tN "UNASSIGNED_STACK" Bundle.steD
      · rw [e3]; exact lU
      · by_cases e4 : w = .laysStatic Bundle.tN "SUPPRESSED_SENTINEL" Bundle.listD
        · rw [e4]; exact lN
        · exact h1 w (List.mem_filter.mpr ⟨hw, by unfold vx_no; rw [decide_eq_true e1, decide_eq_true e2, decide_eq_true e3, decide_eq_true e4]; rfl⟩)
/-- where a static field lies, its class's statics cell in H -/
def vx_L (C n d : String) (A : Nat → Prop) (U : State) (H : Heap) : Prop := ∃ (c : ClassId) (k : Class) (i : Nat) (f : Field) (a : Nat) (cell : Cell), U.vm.findClass C = some c ∧ U.fieldFound? C n d = some (c, k, i, f) ∧ f.isStatic = true ∧ k.statics = some a ∧ H[a]? = some cell ∧ cell.vm.isStatics = true ∧ cell.cls = c ∧ f.slot < cell.slots.size ∧ k.staticTypes[f.slot]? = some f.type ∧ ¬ A a
theorem vx_L.moved {C n d : String} {A : Nat → Prop} {u U : State} {H : Heap} (hvm : u.vm.Alike U.vm) (h : vx_L C n d A u H) : vx_L C n d A U H := by
  obtain ⟨c, k, i, f, a, cell, h1, h2, h3, h4, h5, h6, h7, h8, h9, h10⟩ := h
  obtain ⟨k', hi', he⟩ := State.fieldFound?_setVm hvm h2
  exact ⟨c, k', i, f, a, cell, by rw [hvm.findClass]; exact h1, hi', h3, by rw [he]; exact h4, h5, h6, h7, h8, by rw [he]; exact h9, h10⟩
theorem vx_L.kept {C n d : String} {A : Nat → Prop} {U : State} {H H1 : Heap} (h : vx_L C n d A U H) (hq : ∀ a : Nat, a < H.size → ¬ A a → H1[a]? = H[a]?) : vx_L C n d A U H1 := by
  obtain ⟨c, k, i, f, a, cell, h1, h2, h3, h4, h5, h6, h7, h8, h9, h10⟩ := h
  exact ⟨c, k, i, f, a, cell, h1, h2, h3, h4, by rw [hq a (Array.getElem?_eq_some_iff.mp h5).1 h10]; exact h5, h6, h7, h8, h9, h10⟩
theorem vx_L.narrow {C n d : String} {A B : Nat → Prop} {U : State} {H : Heap} (h : vx_L C n d A U H) (hAB : ∀ q, B q → A q) : vx_L C n d B U H := by
  obtain ⟨c, k, i, f, a, cell, h1, h2, h3, h4, h5, h6, h7, h8, h9, h10⟩ := h
  exact ⟨c, k, i, f, a, cell, h1, h2, h3, h4, h5, h6, h7, h8, h9, fun z => h10 (hAB _ z)⟩
theorem vx_L.word {C n d : String} {A : Nat → Prop} {s : State} {args : Array Value} (h : vx_L C n d A s s.heap) : (Cond.laysStatic C n d).before args s = true := by
  obtain ⟨c, k, i, f, a, cell, h1, h2, h3, h4, h5, h6, h7, h8, h9, -⟩ := h
  show (Cond.laysStatic C n d).holds args s none s [] = true
  exact Cond.laysStatic_of h1 h2 h3 h4 h5 h6 h7 h8 h9
/-- .. and what it holds: null or some reference -/
def vx_Zq (C n d : String) (A : Nat → Prop) (U : State) (H : Heap) : Prop := va_Zq C n d A U H ∧ vx_L C n d A U H
theorem vx_Zq.moved {C n d : String} {A : Nat → Prop} {u U : State} {H : Heap} (hvm : u.vm.Alike U.vm) (h : vx_Zq C n d A u H) : vx_Zq C n d A U H := ⟨va_Zq.moved hvm h.1, vx_L.moved hvm h.2⟩
theorem vx_Zq.kept {C n d : String} {A : Nat → Prop} {U : State} {H H1 : Heap} (h : vx_Zq C n d A U H) (hq : ∀ a : Nat, a < H.size → ¬ A a → H1[a]? = H[a]?) : vx_Zq C n d A U H1 := ⟨va_Zq.kept h.1 hq, vx_L.kept h.2 hq⟩
theorem vx_Zq.narrow {C n d : String} {A B : Nat → Prop} {U : State} {H : Heap} (h : vx_Zq C n d A U H) (hAB : ∀ q, B q → A q) : vx_Zq C n d B U H := ⟨va_Zq.narrow h.1 hAB, vx_L.narrow h.2 hAB⟩
theorem vx_Zqof {args : Array Value} {s : State} {C n d : String} {A : Nat → Prop} (hl : (Cond.laysStatic C n d).before args s = true) (hini : (Cond.initialized C).before args s = true) (h : (Cond.isRef (.static C n d)).before args s = true) (hA : ∀ a : Nat, a < s.heap.size → ¬ A a) : vx_Zq C n d A s s.heap := by
  refine ⟨va_Zqof hl hini h hA, ?_⟩
  obtain ⟨c, k, i, f, a, cell, h1, h2, h3, h4, h5, h6, h7, h8, h9⟩ := Cond.laysStatic_spec hl
  exact ⟨c, k, i, f, a, cell, h1, h2, h3, h4, h5, h6, h7, h8, h9, hA a (Array.getElem?_eq_some_iff.mp h5).1⟩
theorem vx_isRef {C n d : String} {v : Value} {A : Nat → Prop} {s : State} {args : Array Value} (h : va_Z C n d v A s s.heap) (hv : v.isRef = true) : (Cond.isRef (.static C n d)).before args s = true := by
  obtain ⟨cf, kf, fi, f, a, cell, h1, h2, h3, h4, h5, h6, h7, -⟩ := h
  have he : (Term.static C n d).eval args s none [] s = some v := by
    simp [Term.eval, State.fieldNamed?, h1, h2, h4, h5, h6, h7]
  simp only [Cond.before, Cond.holds, Cond.value, he]
  cases v <;> simp_all [Value.isRef]
theorem vx_isRefq {C n d : String} {A : Nat → Prop} {s : State} {args : Array Value} (h : va_Zq C n d A s s.heap) : (Cond.isRef (.static C n d)).before args s = true := by
  rcases h with h | ⟨t, h⟩
  · exact vx_isRef h rfl
  · exact vx_isRef h rfl
/-- the same frame, seen from here: as if the method were called anew in this heap -/
theorem vx_rebase {T : State} (X : Stand p l e R s m args below meth c T locs cells slots) {R' : Room} (hf : R'.frames ≤ R.frames) (hl : R'.locals ≤ R.locals) (hc : cells + R'.cells ≤ R.cells) (hs : slots + R'.slots ≤ R.slots) :
    Stand p l e R' ((T.setVm s.vm).setFrames (.invoking m args :: below)) m args below meth c T [] 0 0 := by
  have htop : (T.setVm s.vm).topJava?.isSome := X.here.top
  have hF : ((T.setVm s.vm).setFrames (.invoking m args :: below)).frames = .invoking m args :: below := State.frames_setFrames _ (State.cur_lt_of_top htop)
  obtain ⟨g₀, hg0⟩ := Option.isSome_iff_exists.mp htop
  obtain ⟨r, hr⟩ := State.topJava?_eq_some.mp hg0
  have hl9 : e.platform.stackLimits (T.setVm s.vm).me = e.platform.stackLimits s.me := X.limits
  have hb9 : (T.setVm s.vm).me.stackBytes = s.me.stackBytes := X.bytes
  refine ⟨X.admits, X.cas, X.clock, hF, ?_, X.hears, X.method, X.code, X.here, X.tail, X.warmed, ?_, ?_, ?_⟩
  · have h := X.room
    have hU : ((T.setVm s.vm).setFrames (.invoking m args :: below)).localsInUse = s.localsInUse := by
      rw [State.localsInUse_invoking hF (meth := meth) (c := c) X.method X.code, State.localsInUse_invoking X.frames X.method X.code]
    simp only [State.hasRoom, Bool.and_eq_true, decide_eq_true_eq] at h ⊢
    obtain ⟨⟨⟨⟨h1, h2, h3, h4, h5, h6⟩, h7⟩, h8⟩, h9⟩ := h
    rw [X.frames, List.length_cons] at h2 h3
    have q1 := X.heapSize
    have q2 := X.used
    simp only [hF, hU, List.length_cons, State.stackLimits_setFrames, State.stackBytes_setFrames, hl9, hb9]
    refine ⟨⟨⟨⟨by omega, by omega, by omega, by omega, by omega, h6⟩, ?_⟩, ?_⟩, X.book⟩
    · show T.heap.size + R'.cells ≤ e.platform.maxCells
      omega
    · show T.slotsUsed + R'.slots ≤ e.platform.maxSlots
      omega
  · rw [State.stackLimits_setFrames]; rfl
  · rw [State.stackBytes_setFrames]; rfl
  · refine ⟨?_, Nat.le_refl _, Nat.le_refl _, ?_, ?_, fun a c9 h9 => ⟨c9, h9, rfl, rfl, fun _ _ => rfl⟩⟩
    · obtain ⟨t, ht, -⟩ := State.frames_cons hr
      show T.setVm s.vm = { ((T.setVm s.vm).setFrames (.invoking m args :: below)).setFrames (T.setVm s.vm).frames with heap := T.heap, slotsUsed := T.slotsUsed }
      rw [State.setFrames_setFrames, State.setFrames_self ht]
      rfl
    · show T.slotsUsed = T.slotsUsed + ((T.heap.toList.drop T.heap.size).map (·.slots.size)).sum
      rw [List.drop_eq_nil_of_le (Nat.le_of_eq Array.length_toList)]
      rfl
    · show ((T.heap.toList.drop T.heap.size).map (·.slots.size)).sum ≤ 0
      rw [List.drop_eq_nil_of_le (Nat.le_of_eq Array.length_toList)]
      exact Nat.le_refl _
/-- 'throw new E()': new; dup; invokespecial; athrow -/
theorem vx_throw0 {cc : ByteArray} {pc : Nat} (hexec : p.tables.exec = Jvm.exec) (hb : c.code = cc) (hl : l.stackTraces = false) {own cls : String} {names : List String} {ik ic mc ms : Nat} {A : Nat → Prop}
    (hown : s.vm.findClass own = some m.cls) (hcls : Bundle.fit cls = true) (hnames : ∀ n ∈ names, Bundle.fit n = true)
    (hk : (Cond.classLink own ik cls).before args s = true) (hini : (Cond.initialized cls).before args s = true) (hat : ∀ w ∈ vx_at0 own ic cls names, w.before args s = true)
    (hgood : ∀ w ∈ Cond.classLink own ik cls :: Cond.initialized cls :: vx_at0 own ic cls names, vx_ot w = true)
    (hU : vx_Zq Bundle.tN "UNASSIGNED_STACK" Bundle.steD A s s.heap) (hN : vx_Zq Bundle.tN "SUPPRESSED_SENTINEL" Bundle.listD A s s.heap) (hS : va_S A s.heap H locs) (hsize : ls.size = c.maxLocals)
    (d0 : decode cc pc = .ok (.new ik, 3)) (d3 : decode cc (pc + 3) = .ok (.dup, 1)) (d4 : decode cc (pc + 4) = .ok (.invokespecial ic, 3)) (d7 : decode cc (pc + 7) = .ok (.athrow, 1))
    (hout : ∀ x ∈ c.exceptionTable.toList, covers x (pc + 7) = false)
    (hRframes : names.length + 3 < R.frames) (hRlocals : (rest.map fun v => v.category).sum + (13 * (names.length + 1) + 42) ≤ R.locals) (hRcells : cells + 1 ≤ R.cells) (hRslots : slots + 6 ≤ R.slots) (hlocks : meth.locks = false)
    (hx : ∀ t : State, s.vm.Alike t.vm → H.size ≤ t.heap.size → (∀ q : Nat, q < H.size → t.heap[q]? = H[q]?) → XC cls s t)
    (hf : ∀ z ∈ locs, free z.base) (hc : cells + 1 ≤ mc) (hs : slots + 6 ≤ ms) :
    W p l e R s m args below meth c H locs cells slots (vx_MQ below Qc XC args s mc ms free) (F0 m pc ls rest) := by
  intro T hT X
  have htr : e.platform.stackTraces = false := (show e.platform.stackTraces = l.stackTraces by rw [X.admits.platform]).trans hl
  have Y := vx_rebase X (R' := { frames := R.frames, locals := R.locals, cells := 1, slots := 6 }) (Nat.le_refl _) (Nat.le_refl _) hRcells hRslots
  obtain ⟨s', hA⟩ : ∃ z, z = (T.setVm s.vm).setFrames (.invoking m args :: below) := ⟨_, rfl⟩
  rw [← hA] at Y
  have hvm : s'.vm = s.vm := by rw [hA]; rfl
  have hhp : s'.heap = H := by rw [hA]; exact hT
  have hW0 : s.WarmedH s'.vm := by rw [hvm]; exact State.WarmedH.refl s
  have hat' : ∀ w ∈ vx_at0 own ic cls names, w.before args s' = true := fun w hw => vx_ot_at hW0 hvm.symm (hgood w (List.mem_cons_of_mem _ (List.mem_cons_of_mem _ hw))) (hat w hw)
  have hk' : (Cond.classLink own ik cls).before args s' = true := vx_ot_at hW0 hvm.symm (hgood _ List.mem_cons_self) hk
  have hini' : (Cond.initialized cls).before args s' = true := vx_ot_at hW0 hvm.symm (hgood _ (List.mem_cons_of_mem _ List.mem_cons_self)) hini
  have hU' : vx_Zq Bundle.tN "UNASSIGNED_STACK" Bundle.steD A s' s'.heap := by rw [hhp]; exact vx_Zq.moved hW0.alike (hU.kept hS.2.1)
  have hN' : vx_Zq Bundle.tN "SUPPRESSED_SENTINEL" Bundle.listD A s' s'.heap := by rw [hhp]; exact vx_Zq.moved hW0.alike (hN.kept hS.2.1)
  have h : ∀ w ∈ Bundle.ownAtoms0 own ic cls names, w.before args s' = true := vx_own hat' (vx_isRefq hU'.1) (vx_isRefq hN'.1) hU'.2.word hN'.2.word
  have hown' : s'.vm.findClass own = some m.cls := by rw [hvm]; exact hown
  have hins : (Cond.instantiable cls 6).before args s' = true := h _ (by simp [Bundle.ownAtoms0])
  obtain ⟨vm₁, cX, kX, hfX, hkX, -, -, X₁, st1⟩ := Y.newCold hexec (own := own) (C := cls) (index := ik) (n := 6) hown' hk' hins hini'
    (g := F0 m pc ls rest) rfl (by rw [hb]; exact d0) (Nat.le_refl _) (Nat.le_refl _)
  generalize hT1 : (T.setVm vm₁).pushCell { cls := cX, slots := kX.instanceTypes.map defaultValue, vm := .none } = T1 at X₁ st1
  have hcat : (Value.ref T.heap.size).category = 1 := rfl
  have hcellA : T1.heap[T.heap.size]? = some (freshCell cX kX) := by rw [← hT1]; exact State.heap_pushCell_size _ _
  have d3' : decode c.code (pc + 3) = .ok (.dup, 1) := by rw [hb]; exact d3
  obtain ⟨U, hsteps, hrun, hend, hW, hsame, ce, hce, hO⟩ := X₁.ctorThrow0 hexec htr (own := own) (cls := cls) (names := names) (ic := ic) hown' hcls hnames h (fun x hx => nomatch hx) hfX hkX hcellA (by rw [hhp, hT]; exact Nat.le_refl _)
    (g := { method := m, pc := pc + 4, locals := ls, stack := .ref T.heap.size :: .ref T.heap.size :: rest, locked := none }) rfl hsize rfl rfl (rest := rest) rfl
    (by rw [hb]; exact d4) (by rw [hb]; exact d7) hout hRframes (by simp only [List.map_cons, List.sum_cons, hcat]; omega) hlocks
  obtain ⟨f1, f2⟩ := vx_frame hsame
  rw [hhp] at f1 f2
  have hWs : s.WarmedH U.vm := State.WarmedH.trans hW0 hW
  have hcl : s.vm.findClass cls = some ce.cls := by
    have h9 := hO.cls
    rw [hvm] at h9
    exact h9
  have hall : s.sameButNew ({ U with vm := s.vm } : State) locs mc ms := by
    subst hA
    obtain ⟨e1, e2⟩ := hsame
    rw [State.setFrames_setFrames] at e1
    have h2 : (T.setVm s.vm).sameButNew ({ U with vm := s.vm } : State) [] (0 + 1) (0 + 6) := ⟨e1, e2⟩
    have h3 := X.same.trans h2
    rw [List.append_nil] at h3
    exact h3.mono hc hs
  refine ⟨U, ?_, .threw T.heap.size, hrun, hend, Or.inr ⟨T.heap.size, rfl, cls, ce, locs, hx U hWs.alike f1 (fun q hq => f2 q hq (fun z hz => nomatch hz)), hce, hO.vm, hcl, hWs, hall, hf⟩⟩
  refine st1 _ ?_
  show Steps p.tables e below (T1.setTop { method := m, pc := pc + 3, locals := ls, stack := .ref T.heap.size :: rest, locked := none }) _
  jvm_step X₁.here [X₁.here.top, hexec, d3', Value.category]
  exact hsteps
/-- 'throw new E("text")': new; dup; ldc; invokespecial; athrow -/
theorem vx_throwS {cc : ByteArray} {pc : Nat} (hexec : p.tables.exec = Jvm.exec) (hb : c.code = cc) (hl : l.stackTraces = false) {own cls text : String} {names : List String} {ik is ic mc ms sa : Nat} {A : Nat → Prop}
    (hown : s.vm.findClass own = some m.cls) (hcls : Bundle.fit cls = true) (hnames : ∀ n ∈ names, Bundle.fit n = true)
    (hk : (Cond.classLink own ik cls).before args s = true) (hini : (Cond.initialized cls).before args s = true) (hstr : vk_R own is text sa s) (hat : ∀ w ∈ vx_atS own ic cls names, w.before args s = true)
    (hgood : ∀ w ∈ Cond.classLink own ik cls :: Cond.initialized cls :: vx_atS own ic cls names, vx_ot w = true)
    (hU : vx_Zq Bundle.tN "UNASSIGNED_STACK" Bundle.steD A s s.heap) (hN : vx_Zq Bundle.tN "SUPPRESSED_SENTINEL" Bundle.listD A s s.heap) (hS : va_S A s.heap H locs) (hsize : ls.size = c.maxLocals)
    (d0 : decode cc pc = .ok (.new ik, 3)) (d3 : decode cc (pc + 3) = .ok (.dup, 1)) (d4 : decode cc (pc + 4) = .ok (.ldc is, 2)) (d6 : decode cc (pc + 6) = .ok (.invokespecial ic, 3)) (d9 : decode cc (pc + 9) = .ok (.athrow, 1))
    (hout : ∀ x ∈ c.exceptionTable.toList, covers x (pc + 9) = false)
    (hRframes : names.length + 3 < R.frames) (hRlocals : (rest.map fun v => v.category).sum + (13 * (names.length + 1) + 43) ≤ R.locals) (hRcells : cells + 1 ≤ R.cells) (hRslots : slots + 6 ≤ R.slots) (hlocks : meth.locks = false)
    (hx : ∀ t : State, s.vm.Alike t.vm → H.size ≤ t.heap.size → (∀ q : Nat, q < H.size → t.heap[q]? = H[q]?) → XC cls s t)
    (hf : ∀ z ∈ locs, free z.base) (hc : cells + 1 ≤ mc) (hs : slots + 6 ≤ ms) :
    W p l e R s m args below meth c H locs cells slots (vx_MQ below Qc XC args s mc ms free) (F0 m pc ls rest) := by
  intro T hT X
  have htr : e.platform.stackTraces = false := (show e.platform.stackTraces = l.stackTraces by rw [X.admits.platform]).trans hl
  have Y := vx_rebase X (R' := { frames := R.frames, locals := R.locals, cells := 1, slots := 6 }) (Nat.le_refl _) (Nat.le_refl _) hRcells hRslots
  obtain ⟨s', hA⟩ : ∃ z, z = (T.setVm s.vm).setFrames (.invoking m args :: below) := ⟨_, rfl⟩
  rw [← hA] at Y
  have hvm : s'.vm = s.vm := by rw [hA]; rfl
  have hhp : s'.heap = H := by rw [hA]; exact hT
  have hW0 : s.WarmedH s'.vm := by rw [hvm]; exact State.WarmedH.refl s
  have hat' : ∀ w ∈ vx_atS own ic cls names, w.before args s' = true := fun w hw => vx_ot_at hW0 hvm.symm (hgood w (List.mem_cons_of_mem _ (List.mem_cons_of_mem _ hw))) (hat w hw)
  have hk' : (Cond.classLink own ik cls).before args s' = true := vx_ot_at hW0 hvm.symm (hgood _ List.mem_cons_self) hk
  have hini' : (Cond.initialized cls).before args s' = true := vx_ot_at hW0 hvm.symm (hgood _ (List.mem_cons_of_mem _ List.mem_cons_self)) hini
  have hU' : vx_Zq Bundle.tN "UNASSIGNED_STACK" Bundle.steD A s' s'.heap := by rw [hhp]; exact vx_Zq.moved hW0.alike (hU.kept hS.2.1)
  have hN' : vx_Zq Bundle.tN "SUPPRESSED_SENTINEL" Bundle.listD A s' s'.heap := by rw [hhp]; exact vx_Zq.moved hW0.alike (hN.kept hS.2.1)
  have h : ∀ w ∈ Bundle.ownAtoms own ic cls names, w.before args s' = true := vx_own hat' (vx_isRefq hU'.1) (vx_isRefq hN'.1) hU'.2.word hN'.2.word
  have hown' : s'.vm.findClass own = some m.cls := by rw [hvm]; exact hown
  have hins : (Cond.instantiable cls 6).before args s' = true := h _ (by simp [Bundle.ownAtoms])
  obtain ⟨vm₁, cX, kX, hfX, hkX, -, -, X₁, st1⟩ := Y.newCold hexec (own := own) (C := cls) (index := ik) (n := 6) hown' hk' hins hini'
    (g := F0 m pc ls rest) rfl (by rw [hb]; exact d0) (Nat.le_refl _) (Nat.le_refl _)
  generalize hT1 : (T.setVm vm₁).pushCell { cls := cX, slots := kX.instanceTypes.map defaultValue, vm := .none } = T1 at X₁ st1
  have hcat : (Value.ref T.heap.size).category = 1 := rfl
  have hcellA : T1.heap[T.heap.size]? = some (freshCell cX kX) := by rw [← hT1]; exact State.heap_pushCell_size _ _
  have d3' : decode c.code (pc + 3) = .ok (.dup, 1) := by rw [hb]; exact d3
  have d4' : decode c.code (pc + 4) = .ok (.ldc is, 2) := by rw [hb]; exact d4
  have hstr' : vk_R own is text sa s' := vk_R.warm hW0 hstr
  obtain ⟨U, hsteps, hrun, hend, hW, hsame, ce, hce, hO⟩ := X₁.ctorThrowS hexec htr (own := own) (cls := cls) (names := names) (ic := ic) hown' hcls hnames h (fun x hx => nomatch hx) hfX hkX hcellA (by rw [hhp, hT]; exact Nat.le_refl _) (msg := .ref sa) rfl
    (g := { method := m, pc := pc + 6, locals := ls, stack := .ref sa :: .ref T.heap.size :: .ref T.heap.size :: rest, locked := none }) rfl hsize rfl rfl (rest := rest) rfl
    (by rw [hb]; exact d6) (by rw [hb]; exact d9) hout hRframes (by simp only [List.map_cons, List.sum_cons, hcat]; omega) hlocks
  obtain ⟨f1, f2⟩ := vx_frame hsame
  rw [hhp] at f1 f2
  have hWs : s.WarmedH U.vm := State.WarmedH.trans hW0 hW
  have hcl : s.vm.findClass cls = some ce.cls := by
    have h9 := hO.cls
    rw [hvm] at h9
    exact h9
  have hall : s.sameButNew ({ U with vm := s.vm } : State) locs mc ms := by
    subst hA
    obtain ⟨e1, e2⟩ := hsame
    rw [State.setFrames_setFrames] at e1
    have h2 : (T.setVm s.vm).sameButNew ({ U with vm := s.vm } : State) [] (0 + 1) (0 + 6) := ⟨e1, e2⟩
    have h3 := X.same.trans h2
    rw [List.append_nil] at h3
    exact h3.mono hc hs
  refine ⟨U, ?_, .threw T.heap.size, hrun, hend, Or.inr ⟨T.heap.size, rfl, cls, ce, locs, hx U hWs.alike f1 (fun q hq => f2 q hq (fun z hz => nomatch hz)), hce, hO.vm, hcl, hWs, hall, hf⟩⟩
  refine st1 _ ?_
  show Steps p.tables e below (T1.setTop { method := m, pc := pc + 3, locals := ls, stack := .ref T.heap.size :: rest, locked := none }) _
  jvm_step X₁.here [X₁.here.top, hexec, d3', Value.category]
  exact X₁.ldcString hexec (own := own) (text := text) (index := is) (a := sa) hown' hstr'.1 hstr'.2
    (g := { method := m, pc := pc + 4, locals := ls, stack := .ref T.heap.size :: .ref T.heap.size :: rest, locked := none }) rfl d4' _ hsteps
/-- 'throw new E("text")', the text by a wide index -/
theorem vx_throwSW {cc : ByteArray} {pc : Nat} (hexec : p.tables.exec = Jvm.exec) (hb : c.code = cc) (hl : l.stackTraces = false) {own cls text : String} {names : List String} {ik is ic mc ms sa : Nat} {A : Nat → Prop}
    (hown : s.vm.findClass own = some m.cls) (hcls : Bundle.fit cls = true) (hnames : ∀ n ∈ names, Bundle.fit n = true)
    (hk : (Cond.classLink own ik cls).before args s = true) (hini : (Cond.initialized cls).before args s = true) (hstr : vk_R own is text sa s) (hat : ∀ w ∈ vx_atS own ic cls names, w.before args s = true)
    (hgood : ∀ w ∈ Cond.classLink own ik cls :: Cond.initialized cls :: vx_atS own ic cls names, vx_ot w = true)
    (hU : vx_Zq Bundle.tN "UNASSIGNED_STACK" Bundle.steD A s s.heap) (hN : vx_Zq Bundle.tN "SUPPRESSED_SENTINEL" Bundle.listD A s s.heap) (hS : va_S A s.heap H locs) (hsize : ls.size = c.maxLocals)
    (d0 : decode cc pc = .ok (.new ik, 3)) (d3 : decode cc (pc + 3) = .ok (.dup, 1)) (d4 : decode cc (pc + 4) = .ok (.ldc_w is, 3)) (d7 : decode cc (pc + 7) = .ok (.invokespecial ic, 3)) (d10 : decode cc (pc + 10) = .ok (.athrow, 1))
    (hout : ∀ x ∈ c.exceptionTable.toList, covers x (pc + 10) = false)
    (hRframes : names.length + 3 < R.frames) (hRlocals : (rest.map fun v => v.category).sum + (13 * (names.length + 1) + 43) ≤ R.locals) (hRcells : cells + 1 ≤ R.cells) (hRslots : slots + 6 ≤ R.slots) (hlocks : meth.locks = false)
    (hx : ∀ t : State, s.vm.Alike t.vm → H.size ≤ t.heap.size → (∀ q : Nat, q < H.size → t.heap[q]? = H[q]?) → XC cls s t)
    (hf : ∀ z ∈ locs, free z.base) (hc : cells + 1 ≤ mc) (hs : slots + 6 ≤ ms) :
    W p l e R s m args below meth c H locs cells slots (vx_MQ below Qc XC args s mc ms free) (F0 m pc ls rest) := by
  intro T hT X
  have htr : e.platform.stackTraces = false := (show e.platform.stackTraces = l.stackTraces by rw [X.admits.platform]).trans hl
  have Y := vx_rebase X (R' := { frames := R.frames, locals := R.locals, cells := 1, slots := 6 }) (Nat.le_refl _) (Nat.le_refl _) hRcells hRslots
  obtain ⟨s', hA⟩ : ∃ z, z = (T.setVm s.vm).setFrames (.invoking m args :: below) := ⟨_, rfl⟩
  rw [← hA] at Y
  have hvm : s'.vm = s.vm := by rw [hA]; rfl
  have hhp : s'.heap = H := by rw [hA]; exact hT
  have hW0 : s.WarmedH s'.vm := by rw [hvm]; exact State.WarmedH.refl s
  have hat' : ∀ w ∈ vx_atS own ic cls names, w.before args s' = true := fun w hw => vx_ot_at hW0 hvm.symm (hgood w (List.mem_cons_of_mem _ (List.mem_cons_of_mem _ hw))) (hat w hw)
  have hk' : (Cond.classLink own ik cls).before args s' = true := vx_ot_at hW0 hvm.symm (hgood _ List.mem_cons_self) hk
  have hini' : (Cond.initialized cls).before args s' = true := vx_ot_at hW0 hvm.symm (hgood _ (List.mem_cons_of_mem _ List.mem_cons_self)) hini
  have hU' : vx_Zq Bundle.tN "UNASSIGNED_STACK" Bundle.steD A s' s'.heap := by rw [hhp]; exact vx_Zq.moved hW0.alike (hU.kept hS.2.1)
  have hN' : vx_Zq Bundle.tN "SUPPRESSED_SENTINEL" Bundle.listD A s' s'.heap := by rw [hhp]; exact vx_Zq.moved hW0.alike (hN.kept hS.2.1)
  have h : ∀ w ∈ Bundle.ownAtoms own ic cls names, w.before args s' = true := vx_own hat' (vx_isRefq hU'.1) (vx_isRefq hN'.1) hU'.2.word hN'.2.word
  have hown' : s'.vm.findClass own = some m.cls := by rw [hvm]; exact hown
  have hins : (Cond.instantiable cls 6).before args s' = true := h _ (by simp [Bundle.ownAtoms])
  obtain ⟨vm₁, cX, kX, hfX, hkX, -, -, X₁, st1⟩ := Y.newCold hexec (own := own) (C := cls) (index := ik) (n := 6) hown' hk' hins hini'
    (g := F0 m pc ls rest) rfl (by rw [hb]; exact d0) (Nat.le_refl _) (Nat.le_refl _)
  generalize hT1 : (T.setVm vm₁).pushCell { cls := cX, slots := kX.instanceTypes.map defaultValue, vm := .none } = T1 at X₁ st1
  have hcat : (Value.ref T.heap.size).category = 1 := rfl
  have hcellA : T1.heap[T.heap.size]? = some (freshCell cX kX) := by rw [← hT1]; exact State.heap_pushCell_size _ _
  have d3' : decode c.code (pc + 3) = .ok (.dup, 1) := by rw [hb]; exact d3
  have d4' : decode c.code (pc + 4) = .ok (.ldc_w is, 3) := by rw [hb]; exact d4
  have hstr' : vk_R own is text sa s' := vk_R.warm hW0 hstr
  obtain ⟨U, hsteps, hrun, hend, hW, hsame, ce, hce, hO⟩ := X₁.ctorThrowS hexec htr (own := own) (cls := cls) (names := names) (ic := ic) hown' hcls hnames h (fun x hx => nomatch hx) hfX hkX hcellA (by rw [hhp, hT]; exact Nat.le_refl _) (msg := .ref sa) rfl
    (g := { method := m, pc := pc + 7, locals := ls, stack := .ref sa :: .ref T.heap.size :: .ref T.heap.size :: rest, locked := none }) rfl hsize rfl rfl (rest := rest) rfl
    (by rw [hb]; exact d7) (by rw [hb]; exact d10) hout hRframes (by simp only [List.map_cons, List.sum_cons, hcat]; omega) hlocks
  obtain ⟨f1, f2⟩ := vx_frame hsame
  rw [hhp] at f1 f2
  have hWs : s.WarmedH U.vm := State.WarmedH.trans hW0 hW
  have hcl : s.vm.findClass cls = some ce.cls := by
    have h9 := hO.cls
    rw [hvm] at h9
    exact h9
  have hall : s.sameButNew ({ U with vm := s.vm } : State) locs mc ms := by
    subst hA
    obtain ⟨e1, e2⟩ := hsame
    rw [State.setFrames_setFrames] at e1
    have h2 : (T.setVm s.vm).sameButNew ({ U with vm := s.vm } : State) [] (0 + 1) (0 + 6) := ⟨e1, e2⟩
    have h3 := X.same.trans h2
    rw [List.append_nil] at h3
    exact h3.mono hc hs
  refine ⟨U, ?_, .threw T.heap.size, hrun, hend, Or.inr ⟨T.heap.size, rfl, cls, ce, locs, hx U hWs.alike f1 (fun q hq => f2 q hq (fun z hz => nomatch hz)), hce, hO.vm, hcl, hWs, hall, hf⟩⟩
  refine st1 _ ?_
  show Steps p.tables e below (T1.setTop { method := m, pc := pc + 3, locals := ls, stack := .ref T.heap.size :: rest, locked := none }) _
  jvm_step X₁.here [X₁.here.top, hexec, d3', Value.category]
  exact X₁.ldcStringW hexec (own := own) (text := text) (index := is) (a := sa) hown' hstr'.1 hstr'.2
    (g := { method := m, pc := pc + 4, locals := ls, stack := .ref T.heap.size :: .ref T.heap.size :: rest, locked := none }) rfl d4' _ hsteps
end Ends
section Bodies
variable {l : Launch}
theorem vx_ofW {y : MethodName} {ws ws' : List Cond} {rm : Room} {Pc : Array Value → State → Prop} {Qc : Array Value → State → Outcome → State → Prop} {XC : String → State → State → Prop} {mc ms : Nat} {free : Addr → Prop} {cc : ByteArray} {maxL : Nat} {ret : Option FieldType}
    (hy : plainName y.cls = true) (hw : ws = Cond.code y cc maxL ret :: ws')
    (body : ∀ p e s m args below meth c s₁, BodyLoose p l y (headSpec ws rm) cc maxL ret e s m args below meth c s₁ → c.maxLocals = maxL → (∀ x ∈ c.exceptionTable.toList, False) → Pc args s →
      W p l e (headSpec ws rm).room s m args below meth c s.heap [] 0 0 (vx_MQ below Qc XC args s mc ms free) (entryFrame m args maxL)) : vx_Met l y ws rm Pc Qc XC mc ms free := by
  refine MetFree.of_bodyS (code := cc) (maxLocals := maxL) (ret := ret) hy ?_ ?_
  · intro args s m h hn
    obtain ⟨meth, c, h1, h2, h3, h4, h5, h6, -, -⟩ := Cond.code_spec hn (atoms_spec (ws := ws) h _ (by rw [hw]; exact List.mem_cons_self))
    exact ⟨meth, c, h1, h2, h3, h4, h5, h6⟩
  · intro p e s m args below meth c s₁ B hml hP _
    have hh0 : s₁.heap = s.heap := by rw [B.state]; rfl
    have ht : ∀ x ∈ c.exceptionTable.toList, False := by
      obtain ⟨meth9, c9, h1, h2, -, -, -, -, h7, -⟩ := Cond.code_spec B.named (atoms_spec (ws := ws) B.pre _ (by rw [hw]; exact List.mem_cons_self))
      cases Option.some.inj (h1.symm.trans B.method)
      cases Option.some.inj (h2.symm.trans (Stand.of_body B).code)
      intro x hx
      rw [Array.isEmpty_iff.mp h7] at hx
      cases hx
    obtain ⟨t, a1, o, b1, b2, b3⟩ := body p e s m args below meth c s₁ B hml ht hP s₁ hh0 (Stand.of_body B)
    exact ⟨t, o, a1, b1, b2, b3⟩
/-- the table of a body with handlers -/
theorem vx_table {p : Program} {x y : MethodName} {S : Spec} {cc bytes : ByteArray} {maxL maxL' : Nat} {ret ret' : Option FieldType} {e : Env} {s s₁ : State} {m : MethodId} {args : Array Value} {below : List Frame} {meth : Method} {c : Code} {hh : List (Nat × Nat × Nat × Nat)}
    (B : BodyLoose p l y S cc maxL ret e s m args below meth c s₁) (h : (Cond.codeWith y bytes maxL' ret' hh).before args s = true) : c.exceptionTable.toList = tableOf hh := by
  obtain ⟨m9, meth9, c9, hn9, h1, h2, -, -, h6, -⟩ := Cond.codeWith_spec h
  cases Option.some.inj (hn9.symm.trans B.named)
  cases Option.some.inj (h1.symm.trans B.method)
  cases Option.some.inj (h2.symm.trans (Stand.of_body B).code)
  rw [← h6, table_eq]
end Bodies
end VXA
/-! ===== END ===== -/
/-! ===== BEGIN a static call of a method with an exception table ===== -/
section VXS
variable {p : Program} {l : Launch} {e : Env} {R : Room} {s : State} {m : MethodId} {args : Array Value} {below : List Frame} {meth : Method} {c : Code} {T : State} {H : Heap} {locs : List Loc} {cells slots : Nat}
abbrev vx_CSW (R : Room) (s : State) (args : Array Value) (own : String) (index : Nat) (y : MethodName) (bytes : ByteArray) (maxL : Nat) (ret : Option FieldType) (hh : List (Nat × Nat × Nat × Nat)) (ws : List Cond) (rm : Room) (mc ms n : Nat) : Prop :=
  (rm.cells = mc ∧ rm.slots = ms ∧ rm.frames + 1 ≤ R.frames ∧ 8 + (maxL + 11) + rm.locals ≤ R.locals ∧ (∀ w ∈ ws, ∀ (a' : Array Value) (U : State), s.WarmedH U.vm → w.before a' U = true) ∧ Cond.codeWith y bytes maxL ret hh ∈ ws) ∧
  (Cond.codeWith y bytes maxL ret hh).before args s = true ∧ (Cond.initialized y.cls).before args s = true ∧ (y.cls ≠ "java/lang/invoke/MethodHandle" ∧ y.cls ≠ "java/lang/invoke/VarHandle") ∧
  (∀ sig, parseMethodDescriptor y.desc = some sig → n = sig.parameters.length) ∧ (Cond.methodLink own index y).before args s = true ∧ (Cond.static y).before args s = true
theorem vx_cwSW {own : String} {index maxL mc ms : Nat} {y : MethodName} {bytes : ByteArray} {ret : Option FieldType} {hh : List (Nat × Nat × Nat × Nat)} {Ts ws ws' : List Cond} {rm : Room} (n : Nat) (ht : ∀ w ∈ Ts, w.before args s = true) (hT : GoodIn Ts (va_wsS own index y ws)) (hw : ws = Cond.codeWith y bytes maxL ret hh :: ws') (hrc : rm.cells = mc) (hrs : rm.slots = ms)
    (hd : y.cls ≠ "java/lang/invoke/MethodHandle" ∧ y.cls ≠ "java/lang/invoke/VarHandle" ∧ (parseMethodDescriptor y.desc).map (fun d => d.parameters.length) = some n) (hR : rm.frames + 1 ≤ R.frames ∧ 8 + (maxL + 11) + rm.locals ≤ R.locals) :
    vx_CSW R s args own index y bytes maxL ret hh ws rm mc ms n := by
  have ok : ∀ w ∈ va_wsS own index y ws, w.before args s = true := fun w h => ht w (hT w h).1
  have hG : GoodIn Ts ws := fun w h => hT w (by unfold va_wsS; exact List.mem_append_right _ h)
  have hc : Cond.codeWith y bytes maxL ret hh ∈ ws := by rw [hw]; exact List.mem_cons_self
  refine ⟨⟨hrc, hrs, hR.1, hR.2, pay_in ht hG, hc⟩, ht _ (hG _ hc).1, ok _ (by simp [va_wsS]), ⟨hd.1, hd.2.1⟩, fun sig h => ?_, ok _ (by simp [va_wsS]), ok _ (by simp [va_wsS])⟩
  have h2 := hd.2.2
  rw [h] at h2
  exact (Option.some.inj h2).symm
theorem vx_callSW (X : Stand p l e R s m args below meth c T locs cells slots) (hexec : p.tables.exec = Jvm.exec) {own : String} {index : Nat} {y : MethodName} {bytes : ByteArray} {maxL : Nat} {ret : Option FieldType} {hh : List (Nat × Nat × Nat × Nat)}
    (hown : s.vm.findClass own = some m.cls) (hlink : (Cond.methodLink own index y).before args s = true) (hstat : (Cond.static y).before args s = true) (hinit : (Cond.initialized y.cls).before args s = true)
    (hcode : (Cond.codeWith y bytes maxL ret hh).before args s = true) (hy : y.cls ≠ "java/lang/invoke/MethodHandle" ∧ y.cls ≠ "java/lang/invoke/VarHandle")
    {W9 : Nat} {Pre : Pt → Array Value → Prop} {Post : Pt → Array Value → Option Value → Pt → Prop} (hK : Back l R p e below s args y 3 W9 Pre Post)
    {g : JFrame} (hg : g.method = m) (hsize : g.locals.size = c.maxLocals) {argsL rest : List Value} (hlen : ∀ sig, parseMethodDescriptor y.desc = some sig → argsL.length = sig.parameters.length)
    (hstack : g.stack = argsL.reverse ++ rest) (hW : 2 * g.monitorRoom + (rest.map fun v => v.category).sum ≤ W9) (hdg : decode c.code g.pc = .ok (.invokestatic index, 3))
    (hpre : ∀ vm₁, s.WarmedH vm₁ → Pre ⟨T.setVm vm₁, locs, cells, slots⟩ argsL.toArray) :
    ∃ (v : Option Value) (vm₁ : Vm) (B : Pt), s.WarmedH vm₁ ∧ Stand p l e R s m args below meth c B.U B.locs B.cells B.slots ∧ Post ⟨T.setVm vm₁, locs, cells, slots⟩ argsL.toArray v B ∧
      ∀ target, Steps p.tables e below (B.U.setTop { g with pc := g.pc + 3, stack := v.toList ++ rest }) target → Steps p.tables e below (T.setTop g) target := by
  obtain ⟨mk, methM, cM, hnamed, hmethM, -, -, -, -, -, -, hsigM⟩ := Cond.codeWith_spec hcode
  have hstatic : methM.isStatic = true := Cond.static_spec hnamed hmethM hstat
  obtain ⟨kP, hkP, -⟩ := className_of_methodNamed hnamed
  have hinitP : kP.init = .initialized := Cond.initialized_spec (findClass_of_methodNamed hnamed) hkP hinit
  obtain ⟨vm₁, X₁, hstep₁⟩ := X.invokestatic hexec hown hlink hnamed hmethM hstatic hkP hinitP hy (g := g) hg (argsL := argsL) (rest := rest) (hlen _ hsigM) hstack hdg
  obtain ⟨v, B, X', hpost, hsteps⟩ := hK m meth c ⟨T.setVm vm₁, locs, cells, slots⟩ { g with stack := rest } (.invokestatic index) mk argsL.toArray X₁ hg hsize hdg hW (X₁.named hnamed) (hpre vm₁ X₁.warmed)
  exact ⟨v, vm₁, B, X₁.warmed, X', hpost, fun target h => hstep₁ _ fun acts => by rw [doInvoke_state]; exact hsteps.trans h⟩
theorem vx_runSW {y : MethodName} {bytes cc : ByteArray} {maxL nL mc ms n index : Nat} {ret : Option FieldType} {hh : List (Nat × Nat × Nat × Nat)} {ws : List Cond} {rm : Room} {Pc : Array Value → State → Prop} {Qc : Array Value → State → Outcome → State → Prop} {free : Addr → Prop} {Ts : List Cond} {own : String} {As rest : List Value} {g : JFrame}
    (S : CallFix p m c cc nL s args Ts own) (hM : Met l y ws rm Pc Qc mc ms free) (cw : vx_CSW R s args own index y bytes maxL ret hh ws rm mc ms n) (hp : PreS s H Pc As)
    (hg : g.method = m) (hn : As.length = n) (hsize : g.locals.size = nL) (hstack : g.stack = As.reverse ++ rest) (hW : 2 * g.monitorRoom + (rest.map fun v => v.category).sum ≤ 8) (hdg : decode cc g.pc = .ok (.invokestatic index, 3)) (hf : cells + mc ≤ R.cells ∧ slots + ms ≤ R.slots) :
    va_Run p l e R s m args below meth c H locs cells slots mc ms g rest (Qc As.toArray) (free) := by
  obtain ⟨⟨hrc, hrs, hfr, hlo, hws, hcw⟩, hcode, hini, hy, hlen, hl, hstt⟩ := cw
  have hK : Back l R p e below s args y 3 8 (PreOf R mc ms Pc) (PostOf Qc mc ms free) := va_backW (hh := hh) (bytes := bytes) (maxL := maxL) (ret := ret) hM hp.1 hrc hrs hfr hlo hws hcw (fun a' U hW => word_at hW (Or.inl (by first | rfl | simp [Cond.onTables, Cond.keeps, Cond.steady])) hini)
  obtain ⟨hx, hb, hml, ho, -⟩ := S
  intro T hT X
  obtain ⟨v, vm₁, ⟨U', l2, c2, s2⟩, hW₁, X', ⟨g', mk, t, L, e1, e2, hq, h1, hL, h2, h3⟩, st⟩ := vx_callSW X hx (hh := hh) (bytes := bytes) (maxL := maxL) (ret := ret) ho hl hstt hini hcode hy hK hg (hsize.trans hml.symm) (argsL := As) (rest := rest) (fun sig h => hn.trans (hlen sig h)) hstack hW (by rw [hb]; exact hdg)
    (fun vm₁ hW₁ => ⟨hf.1, hf.2, hp.2 (T.setVm vm₁) hT hW₁⟩)
  dsimp only [Pt.U, Pt.locs, Pt.cells, Pt.slots] at X' e1 e2 h1 h2 h3 st
  subst h1; subst h2; subst h3
  exact ⟨v, (T.setVm vm₁).calling g' mk As.toArray, t, U', L, hT, X', hL, e1, e2, hq, st⟩
/-- not caught here, past rows that name other classes: it goes on to the caller -/
theorem vx_outP {p : Program} {l : Launch} {e : Env} {R : Room} {s : State} {m : MethodId} {args : Array Value} {below : List Frame} {meth : Method} {c : Code} {H : Heap} {locs : List Loc} {cells slots : Nat} {free : Addr → Prop} {ls : Array Slot} {rest : List Value} {Qc : Array Value → State → Outcome → State → Prop} {XC : String → State → State → Prop}
    {pc : Nat} {own E : String} {ce : Cell} {q : Addr} {mc ms : Nat} (hown : s.vm.findClass own = some m.cls) (hlocks : meth.locks = false)
    (hpass : ∀ z ∈ c.exceptionTable.toList, covers z pc = false ∨ (z.catchType ≠ 0 ∧ ∃ nm : String, (Cond.classLink own z.catchType nm).before args s = true ∧ va_Nc E nm s)) (hcell : H[q]? = some ce) (hv : ce.vm = .none) (hcl : s.vm.findClass E = some ce.cls)
    (hx : ∀ t : State, t.heap = H → s.vm.Alike t.vm → XC E s t) (hf : ∀ z ∈ locs, free z.base) (hc : cells ≤ mc) (hs : slots ≤ ms) :
    vx_W p l e R s m args below meth c H locs cells slots (vx_MQ below Qc XC args s mc ms free) (F0 m pc ls rest) q := by
  intro T hT X
  have hpl : e.platform.magicAccessors = ({} : Platform).magicAccessors := by rw [X.admits.platform]
  obtain ⟨vm', hW', X', st⟩ := X.outThrough hlocks q (g := F0 m pc ls rest) rfl rfl rfl (cell := ce) (by rw [hT]; exact hcell) (by rw [hv]; rfl)
    (by obtain ⟨k9, h9, -⟩ := Vm.findClass_spec hcl; exact ⟨k9, h9⟩) (fun z hz => by
      rcases hpass z hz with h | ⟨hz0, nm, hl1, hn1⟩
      · exact Or.inl h
      · obtain ⟨c6, hc6, hcl6⟩ := Cond.classLink_spec hown hl1 e.platform hpl
        obtain ⟨a8, b8, h1, h2, h3⟩ := hn1
        cases Option.some.inj (h1.symm.trans hcl)
        cases Option.some.inj (h2.symm.trans hc6)
        exact Or.inr ⟨hz0, _, hcl6, h3⟩)
  obtain ⟨g₀, hfr⟩ := X'.frames_eq
  have hcell9 : ((T.setVm vm').setFrames (.throwing q :: below)).heap[q]? = some ce := by
    show T.heap[q]? = some ce
    rw [hT]; exact hcell
  have hend : Ended ((T.setVm vm').setFrames (.throwing q :: below)) below (.threw q) := State.frames_setFrames _ (State.cur_lt_of_frames hfr)
  refine ⟨(T.setVm vm').setFrames (.throwing q :: below), ?_, .threw q, X'.here.running, hend, Or.inr ⟨q, rfl, E, ce, locs, hx _ hT (X'.ends _).1.alike, hcell9, hv, hcl, (X'.ends _).1, (X'.ends _).2.mono hc hs, hf⟩⟩
  rw [X.pushThrowing_eq]
  exact st
/-- a thing of a world lies in the heap -/
theorem vx_lt {D : va_G} {cl : List vw_C} {ws : va_W} {H1 : Heap} (h : va_P D cl ws H1) {k : Nat} {q : Nat × va_E} (hk : ws[k]? = some q) : q.1 < H1.size := (h k q hk).lt
end VXS
/-! ===== END ===== -/
/-! ===== BEGIN methods with a table of their own: called by a name, returning or throwing ===== -/
section VXH
/-! vx_backW, vx_callVX, vx_callSX, vx_callVW, vx_runVW, vx_runVX, vx_runSX, vx_ofWH follow the same proofs as their sisters above (Free/Laws.lean, Shelf42/LK1.lean); vx_outP calls Shelf42/NT130.lean (outThrough). -/
section
variable {l : Launch} {R : Room} {p : Program} {e : Env} {below : List Frame} {s : State} {sargs : Array Value} {y : MethodName} {len W9 : Nat}
theorem vx_backW {ws : List Cond} {rm : Room} {Pc : Array Value → State → Prop} {Qc : Array Value → State → Outcome → State → Prop} {XC : String → State → State → Prop} {mc ms : Nat} {free : Addr → Prop} {bytes : ByteArray} {maxL : Nat} {ret : Option FieldType} {hh : List (Nat × Nat × Nat × Nat)}
    (hM : vx_Met l y ws rm Pc Qc XC mc ms free) (hblind : FrameBlind Pc) (hrc : rm.cells = mc) (hrs : rm.slots = ms)
    (hframes : rm.frames + 1 ≤ R.frames) (hlocals : W9 + (maxL + 11) + rm.locals ≤ R.locals)
    (hws : ∀ w ∈ ws, ∀ a' U, s.WarmedH U.vm → w.before a' U = true) (hcode : Cond.codeWith y bytes maxL ret hh ∈ ws) (hinit : ∀ a' U, s.WarmedH U.vm → (Cond.initialized y.cls).before a' U = true) :
    vx_Back l R p e below s sargs y len W9 (PreOf R mc ms Pc) (PostOf Qc mc ms free) (vx_Post XC mc ms free) := by
  intro m meth c A g ig mk a X hg hsize hdg hW hn hp
  have h1 : (headSpec ws rm).pre.before a A.U = true := atoms_intro fun w hw => hws w hw _ _ X.warmed
  have h2 : (Cond.codeWith y bytes maxL ret hh).before a A.U = true := hws _ hcode _ _ X.warmed
  have h3 : (Cond.initialized y.cls).before a A.U = true := hinit _ _ X.warmed
  have h4 : A.cells + (headSpec ws rm).room.cells ≤ R.cells := by rw [show (headSpec ws rm).room.cells = mc from hrc]; exact hp.1
  have h5 : A.slots + (headSpec ws rm).room.slots ≤ R.slots := by rw [show (headSpec ws rm).room.slots = ms from hrs]; exact hp.2.1
  have hPc : Pc a (A.U.calling g mk a) := hblind _ _ _ _ hp.2.2
  obtain ⟨U, Ls, c0, s0⟩ := A
  dsimp only [Pt.U, Pt.locs, Pt.cells, Pt.slots] at h1 h2 h3 h4 h5 X hn hPc ⊢
  obtain ⟨m9, methY, cY, hn9, hmY, hcY, -, hlY, -⟩ := Cond.codeWith_spec h2
  cases Option.some.inj (hn9.symm.trans hn)
  obtain ⟨kY, hkY, -⟩ := className_of_methodNamed hn
  have hinitY : kY.init = .initialized := Cond.initialized_spec (findClass_of_methodNamed hn) hkY h3
  have h : At U g.method c below := by rw [hg]; exact X.here
  have hlocals9 : W9 + (maxL + 11) + (headSpec ws rm).room.locals ≤ R.locals := hlocals
  have happ : (headSpec ws rm).appliesLoose y e.platform (U.calling g mk a) = true :=
    Spec.appliesLoose_calling (g := g) h hdg hn hkY hinitY
      (X.room_calling (g := g) (R' := (headSpec ws rm).room) hsize hmY hcY hframes (by rw [hlY]; omega) h4 h5) h1
  obtain ⟨mid, hmid⟩ := h.above
  have hfr : (U.setTop g).frames = (.java g :: mid) ++ below := by rw [State.frames_setTop' g h.top, hmid]; rfl
  obtain ⟨o, s₂, hsteps, -, hend, hq⟩ := Steps.callFree hM p X.admits X.cas X.clock (acts := []) hfr happ hPc trivial
  have hq' : vx_Q Qc XC mc ms free a (U.calling g mk a) o s₂ := hq
  rw [State.frames_setTop' g h.top] at hend
  obtain ⟨g₀, hg0⟩ := Option.isSome_iff_exists.mp h.top
  obtain ⟨r, hr⟩ := State.topJava?_eq_some.mp hg0
  have hr' : (({ U with heap := s₂.heap, slotsUsed := s₂.slotsUsed } : State).setVm s₂.vm).frames = .java g₀ :: r := hr
  rcases hq' with ⟨hqc, L, hfe, hL⟩ | ⟨q, rfl, E, ce, L, hx, hce, hcv, hcl, hW₂, hsm, hL⟩
  · obtain ⟨⟨v, rfl⟩, hW₂, e2, q2, q3, q4, q5, q6⟩ := id hfe
    have e3 : s₂ = ({ (U.calling g mk a).setFrames s₂.frames with heap := s₂.heap, slotsUsed := s₂.slotsUsed } : State).setVm s₂.vm := by
      have : s₂ = ({ s₂ with vm := (U.calling g mk a).vm } : State).setVm s₂.vm := rfl
      rw [e2] at this
      exact this
    obtain ⟨c₂, i₂, len₂, hc₂, hd₂, hf₂⟩ := hend
    have hW' : U.WarmedH s₂.vm := hW₂
    have hcc : c₂ = c := by
      have h1 : s₂.code? g.method = U.code? g.method := by
        rw [State.code?_eq, State.code?_eq, hW'.alike.method?]
      exact Option.some.inj (hc₂.symm.trans (h1.trans h.code))
    subst hcc
    have hlen : len₂ = len := by rw [hdg] at hd₂; cases hd₂; rfl
    subst hlen
    have hs₂ : s₂ = (({ U with heap := s₂.heap, slotsUsed := s₂.slotsUsed } : State).setVm s₂.vm).setTop { g with pc := g.pc + len₂, stack := v.toList ++ g.stack } := by
      refine e3.trans ?_
      rw [hf₂, State.calling_eq h.top, State.setFrames_setFrames, State.setTop_of_frames _ hr', hr]
      rfl
    have hsame : U.sameButNew ({ U with heap := s₂.heap, slotsUsed := s₂.slotsUsed } : State) L mc ms := by
      refine ⟨?_, q2, q3, q4, q5, q6⟩
      obtain ⟨t, ht, -⟩ := State.frames_cons hr
      show ({ U with heap := s₂.heap, slotsUsed := s₂.slotsUsed } : State) = { U.setFrames U.frames with heap := s₂.heap, slotsUsed := s₂.slotsUsed }
      rw [State.setFrames_self ht]
    subst hg
    refine Or.inl ⟨v, ⟨(({ U with heap := s₂.heap, slotsUsed := s₂.slotsUsed } : State).setVm s₂.vm), Ls ++ L, c0 + mc, s0 + ms⟩,
      ⟨X.admits, X.cas, X.clock, X.frames, X.room, X.hears, X.method, X.code, (X.here.setHeapUsed s₂.heap s₂.slotsUsed).setVm hW'.alike, X.tail, State.WarmedH.trans X.warmed hW', X.limits, X.bytes, X.same.trans (hsame.setVm s.vm)⟩,
      ⟨g, mk, s₂, L, rfl, rfl, hqc, rfl, hL, rfl, rfl⟩, ?_⟩
    show Steps p.tables e below _ ((({ U with heap := s₂.heap, slotsUsed := s₂.slotsUsed } : State).setVm s₂.vm).setTop { g with pc := g.pc + len₂, stack := v.toList ++ g.stack })
    rw [← hs₂]
    exact hsteps
  · obtain ⟨e2, q2, q3, q4, q5, q6⟩ := id hsm
    have e3 : s₂ = ({ (U.calling g mk a).setFrames s₂.frames with heap := s₂.heap, slotsUsed := s₂.slotsUsed } : State).setVm s₂.vm := by
      have : s₂ = ({ s₂ with vm := (U.calling g mk a).vm } : State).setVm s₂.vm := rfl
      rw [e2] at this
      exact this
    have hf₂ : s₂.frames = .throwing q :: .java g :: U.frames.tail := hend
    have hW' : U.WarmedH s₂.vm := hW₂
    have hs₂ : s₂ = ((({ U with heap := s₂.heap, slotsUsed := s₂.slotsUsed } : State).setVm s₂.vm).setTop g).pushFrame (.throwing q) := by
      refine e3.trans ?_
      rw [hf₂, State.calling_eq h.top, State.setFrames_setFrames, State.pushFrame, State.frames_setTop _ hr', State.setTop_of_frames _ hr', State.setFrames_setFrames, hr]
      rfl
    have hsame : U.sameButNew ({ U with heap := s₂.heap, slotsUsed := s₂.slotsUsed } : State) L mc ms := by
      refine ⟨?_, q2, q3, q4, q5, q6⟩
      obtain ⟨t, ht, -⟩ := State.frames_cons hr
      show ({ U with heap := s₂.heap, slotsUsed := s₂.slotsUsed } : State) = { U.setFrames U.frames with heap := s₂.heap, slotsUsed := s₂.slotsUsed }
      rw [State.setFrames_self ht]
    subst hg
    refine Or.inr ⟨q, ⟨(({ U with heap := s₂.heap, slotsUsed := s₂.slotsUsed } : State).setVm s₂.vm), Ls ++ L, c0 + mc, s0 + ms⟩,
      ⟨X.admits, X.cas, X.clock, X.frames, X.room, X.hears, X.method, X.code, (X.here.setHeapUsed s₂.heap s₂.slotsUsed).setVm hW'.alike, X.tail, State.WarmedH.trans X.warmed hW', X.limits, X.bytes, X.same.trans (hsame.setVm s.vm)⟩,
      ⟨g, mk, s₂, L, E, ce, rfl, rfl, hx, hce, hcv, hcl, rfl, hL, rfl, rfl⟩, ?_⟩
    show Steps p.tables e below _ (((({ U with heap := s₂.heap, slotsUsed := s₂.slotsUsed } : State).setVm s₂.vm).setTop g).pushFrame (.throwing q))
    rw [← hs₂]
    exact hsteps
end
variable {p : Program} {l : Launch} {e : Env} {R : Room} {s : State} {m : MethodId} {args : Array Value} {below : List Frame} {meth : Method} {c : Code} {T : State} {H : Heap} {locs : List Loc} {cells slots : Nat}
theorem vx_callVX (X : Stand p l e R s m args below meth c T locs cells slots) (hexec : p.tables.exec = Jvm.exec) {own C : String} {index : Nat} {y : MethodName} {bytes : ByteArray} {maxL : Nat} {ret : Option FieldType} {hh : List (Nat × Nat × Nat × Nat)}
    (hown : s.vm.findClass own = some m.cls) (hlink : (Cond.methodLink own index y).before args s = true) (hinst : (Cond.instanceMethod y).before args s = true) (hsel : (Cond.selects C y y).before args s = true)
    (hcode : (Cond.codeWith y bytes maxL ret hh).before args s = true) (hy : y.cls ≠ "java/lang/invoke/MethodHandle" ∧ y.cls ≠ "java/lang/invoke/VarHandle")
    {W9 : Nat} {Pre : Pt → Array Value → Prop} {Post : Pt → Array Value → Option Value → Pt → Prop} {PostX : Pt → Array Value → Addr → Pt → Prop} (hK : vx_Back l R p e below s args y 3 W9 Pre Post PostX)
    {b : Addr} {cellB : Cell} (hcell : T.heap[b]? = some cellB) (hobj : cellB.vm.isStatics = false) (hcls : s.vm.findClass C = some cellB.cls)
    {g : JFrame} (hg : g.method = m) (hsize : g.locals.size = c.maxLocals) {argsL rest : List Value} (hlen : ∀ sig, parseMethodDescriptor y.desc = some sig → argsL.length = sig.parameters.length)
    (hstack : g.stack = argsL.reverse ++ .ref b :: rest) (hW : 2 * g.monitorRoom + (rest.map fun v => v.category).sum ≤ W9) (hdg : decode c.code g.pc = .ok (.invokevirtual index, 3))
    (hpre : ∀ vm₁, s.WarmedH vm₁ → Pre ⟨T.setVm vm₁, locs, cells, slots⟩ (Value.ref b :: argsL).toArray) :
    (∃ (v : Option Value) (vm₁ : Vm) (B : Pt), s.WarmedH vm₁ ∧ Stand p l e R s m args below meth c B.U B.locs B.cells B.slots ∧ Post ⟨T.setVm vm₁, locs, cells, slots⟩ (Value.ref b :: argsL).toArray v B ∧
      ∀ target, Steps p.tables e below (B.U.setTop { g with pc := g.pc + 3, stack := v.toList ++ rest }) target → Steps p.tables e below (T.setTop g) target) ∨
    (∃ (q : Addr) (vm₁ : Vm) (B : Pt), s.WarmedH vm₁ ∧ Stand p l e R s m args below meth c B.U B.locs B.cells B.slots ∧ PostX ⟨T.setVm vm₁, locs, cells, slots⟩ (Value.ref b :: argsL).toArray q B ∧
      Steps p.tables e below (T.setTop g) ((B.U.setTop { g with stack := rest }).pushFrame (.throwing q))) := by
  obtain ⟨mk, methM, hnamed, hmethM, hstM, habM⟩ := Cond.instanceMethod_spec hinst
  obtain ⟨m8, methM', cM, hn8, hmethM', -, -, -, -, -, -, hsigM⟩ := Cond.codeWith_spec hcode
  cases Option.some.inj (hn8.symm.trans hnamed)
  cases hmethM.symm.trans hmethM'
  obtain ⟨c2, r2, m2, q1, q2, q3, q4, kP, hkP, hkPi⟩ := Cond.selects_spec hsel
  cases hcls.symm.trans q1
  cases (State.methodFound?_of_named hnamed hy).symm.trans q2
  cases hnamed.symm.trans q3
  have hselP : selectMethod e.platform s.vm cellB.cls mk = .method mk := by rw [Launch.admits_selectMethod X.admits]; exact q4
  obtain ⟨vm₁, X₁, hstep₁⟩ := X.invokevirtual hexec hown hlink hnamed hmethM hstM hkP hkPi hy (a := b) (cell := cellB) hcell
    (fun z h => by rw [h] at hobj; cases hobj) hselP hmethM habM hkP hkPi (g := g) hg (argsL := argsL) (rest := rest) (hlen _ hsigM) hstack hdg
  rcases hK m meth c ⟨T.setVm vm₁, locs, cells, slots⟩ { g with stack := rest } (.invokevirtual index) mk (Value.ref b :: argsL).toArray X₁ hg hsize hdg hW (X₁.named hnamed) (hpre vm₁ X₁.warmed) with ⟨v, B, X', hpost, hsteps⟩ | ⟨q, B, X', hpost, hsteps⟩
  · exact Or.inl ⟨v, vm₁, B, X₁.warmed, X', hpost, fun target h => hstep₁ _ fun acts => by rw [doInvoke_state]; exact hsteps.trans h⟩
  · exact Or.inr ⟨q, vm₁, B, X₁.warmed, X', hpost, hstep₁ _ fun acts => by rw [doInvoke_state]; exact hsteps⟩
theorem vx_callSX (X : Stand p l e R s m args below meth c T locs cells slots) (hexec : p.tables.exec = Jvm.exec) {own : String} {index : Nat} {y : MethodName} {bytes : ByteArray} {maxL : Nat} {ret : Option FieldType} {hh : List (Nat × Nat × Nat × Nat)}
    (hown : s.vm.findClass own = some m.cls) (hlink : (Cond.methodLink own index y).before args s = true) (hstat : (Cond.static y).before args s = true) (hinit : (Cond.initialized y.cls).before args s = true)
    (hcode : (Cond.codeWith y bytes maxL ret hh).before args s = true) (hy : y.cls ≠ "java/lang/invoke/MethodHandle" ∧ y.cls ≠ "java/lang/invoke/VarHandle")
    {W9 : Nat} {Pre : Pt → Array Value → Prop} {Post : Pt → Array Value → Option Value → Pt → Prop} {PostX : Pt → Array Value → Addr → Pt → Prop} (hK : vx_Back l R p e below s args y 3 W9 Pre Post PostX)
    {g : JFrame} (hg : g.method = m) (hsize : g.locals.size = c.maxLocals) {argsL rest : List Value} (hlen : ∀ sig, parseMethodDescriptor y.desc = some sig → argsL.length = sig.parameters.length)
    (hstack : g.stack = argsL.reverse ++ rest) (hW : 2 * g.monitorRoom + (rest.map fun v => v.category).sum ≤ W9) (hdg : decode c.code g.pc = .ok (.invokestatic index, 3))
    (hpre : ∀ vm₁, s.WarmedH vm₁ → Pre ⟨T.setVm vm₁, locs, cells, slots⟩ argsL.toArray) :
    (∃ (v : Option Value) (vm₁ : Vm) (B : Pt), s.WarmedH vm₁ ∧ Stand p l e R s m args below meth c B.U B.locs B.cells B.slots ∧ Post ⟨T.setVm vm₁, locs, cells, slots⟩ argsL.toArray v B ∧
      ∀ target, Steps p.tables e below (B.U.setTop { g with pc := g.pc + 3, stack := v.toList ++ rest }) target → Steps p.tables e below (T.setTop g) target) ∨
    (∃ (q : Addr) (vm₁ : Vm) (B : Pt), s.WarmedH vm₁ ∧ Stand p l e R s m args below meth c B.U B.locs B.cells B.slots ∧ PostX ⟨T.setVm vm₁, locs, cells, slots⟩ argsL.toArray q B ∧
      Steps p.tables e below (T.setTop g) ((B.U.setTop { g with stack := rest }).pushFrame (.throwing q))) := by
  obtain ⟨mk, methM, cM, hnamed, hmethM, -, -, -, -, -, -, hsigM⟩ := Cond.codeWith_spec hcode
  have hstatic : methM.isStatic = true := Cond.static_spec hnamed hmethM hstat
  obtain ⟨kP, hkP, -⟩ := className_of_methodNamed hnamed
  have hinitP : kP.init = .initialized := Cond.initialized_spec (findClass_of_methodNamed hnamed) hkP hinit
  obtain ⟨vm₁, X₁, hstep₁⟩ := X.invokestatic hexec hown hlink hnamed hmethM hstatic hkP hinitP hy (g := g) hg (argsL := argsL) (rest := rest) (hlen _ hsigM) hstack hdg
  rcases hK m meth c ⟨T.setVm vm₁, locs, cells, slots⟩ { g with stack := rest } (.invokestatic index) mk argsL.toArray X₁ hg hsize hdg hW (X₁.named hnamed) (hpre vm₁ X₁.warmed) with ⟨v, B, X', hpost, hsteps⟩ | ⟨q, B, X', hpost, hsteps⟩
  · exact Or.inl ⟨v, vm₁, B, X₁.warmed, X', hpost, fun target h => hstep₁ _ fun acts => by rw [doInvoke_state]; exact hsteps.trans h⟩
  · exact Or.inr ⟨q, vm₁, B, X₁.warmed, X', hpost, hstep₁ _ fun acts => by rw [doInvoke_state]; exact hsteps⟩
theorem vx_callVW (X : Stand p l e R s m args below meth c T locs cells slots) (hexec : p.tables.exec = Jvm.exec) {own C : String} {index : Nat} {y : MethodName} {bytes : ByteArray} {maxL : Nat} {ret : Option FieldType} {hh : List (Nat × Nat × Nat × Nat)}
    (hown : s.vm.findClass own = some m.cls) (hlink : (Cond.methodLink own index y).before args s = true) (hinst : (Cond.instanceMethod y).before args s = true) (hsel : (Cond.selects C y y).before args s = true)
    (hcode : (Cond.codeWith y bytes maxL ret hh).before args s = true) (hy : y.cls ≠ "java/lang/invoke/MethodHandle" ∧ y.cls ≠ "java/lang/invoke/VarHandle")
    {W9 : Nat} {Pre : Pt → Array Value → Prop} {Post : Pt → Array Value → Option Value → Pt → Prop} (hK : Back l R p e below s args y 3 W9 Pre Post)
    {b : Addr} {cellB : Cell} (hcell : T.heap[b]? = some cellB) (hobj : cellB.vm.isStatics = false) (hcls : s.vm.findClass C = some cellB.cls)
    {g : JFrame} (hg : g.method = m) (hsize : g.locals.size = c.maxLocals) {argsL rest : List Value} (hlen : ∀ sig, parseMethodDescriptor y.desc = some sig → argsL.length = sig.parameters.length)
    (hstack : g.stack = argsL.reverse ++ .ref b :: rest) (hW : 2 * g.monitorRoom + (rest.map fun v => v.category).sum ≤ W9) (hdg : decode c.code g.pc = .ok (.invokevirtual index, 3))
    (hpre : ∀ vm₁, s.WarmedH vm₁ → Pre ⟨T.setVm vm₁, locs, cells, slots⟩ (Value.ref b :: argsL).toArray) :
    ∃ (v : Option Value) (vm₁ : Vm) (B : Pt), s.WarmedH vm₁ ∧ Stand p l e R s m args below meth c B.U B.locs B.cells B.slots ∧ Post ⟨T.setVm vm₁, locs, cells, slots⟩ (Value.ref b :: argsL).toArray v B ∧
      ∀ target, Steps p.tables e below (B.U.setTop { g with pc := g.pc + 3, stack := v.toList ++ rest }) target → Steps p.tables e below (T.setTop g) target := by
  obtain ⟨mk, methM, hnamed, hmethM, hstM, habM⟩ := Cond.instanceMethod_spec hinst
  obtain ⟨m8, methM', cM, hn8, hmethM', -, -, -, -, -, -, hsigM⟩ := Cond.codeWith_spec hcode
  cases Option.some.inj (hn8.symm.trans hnamed)
  cases hmethM.symm.trans hmethM'
  obtain ⟨c2, r2, m2, q1, q2, q3, q4, kP, hkP, hkPi⟩ := Cond.selects_spec hsel
  cases hcls.symm.trans q1
  cases (State.methodFound?_of_named hnamed hy).symm.trans q2
  cases hnamed.symm.trans q3
  have hselP : selectMethod e.platform s.vm cellB.cls mk = .method mk := by rw [Launch.admits_selectMethod X.admits]; exact q4
  obtain ⟨vm₁, X₁, hstep₁⟩ := X.invokevirtual hexec hown hlink hnamed hmethM hstM hkP hkPi hy (a := b) (cell := cellB) hcell
    (fun z h => by rw [h] at hobj; cases hobj) hselP hmethM habM hkP hkPi (g := g) hg (argsL := argsL) (rest := rest) (hlen _ hsigM) hstack hdg
  obtain ⟨v, B, X', hpost, hsteps⟩ := hK m meth c ⟨T.setVm vm₁, locs, cells, slots⟩ { g with stack := rest } (.invokevirtual index) mk (Value.ref b :: argsL).toArray X₁ hg hsize hdg hW (X₁.named hnamed) (hpre vm₁ X₁.warmed)
  exact ⟨v, vm₁, B, X₁.warmed, X', hpost, fun target h => hstep₁ _ fun acts => by rw [doInvoke_state]; exact hsteps.trans h⟩
abbrev vx_CVW (R : Room) (s : State) (args : Array Value) (own C : String) (index : Nat) (y : MethodName) (bytes : ByteArray) (maxL : Nat) (ret : Option FieldType) (hh : List (Nat × Nat × Nat × Nat)) (ws : List Cond) (rm : Room) (mc ms n : Nat) : Prop :=
  (rm.cells = mc ∧ rm.slots = ms ∧ rm.frames + 1 ≤ R.frames ∧ 8 + (maxL + 11) + rm.locals ≤ R.locals ∧ (∀ w ∈ ws, ∀ (a' : Array Value) (U : State), s.WarmedH U.vm → w.before a' U = true) ∧ Cond.codeWith y bytes maxL ret hh ∈ ws) ∧
  (Cond.codeWith y bytes maxL ret hh).before args s = true ∧ (Cond.initialized y.cls).before args s = true ∧ (y.cls ≠ "java/lang/invoke/MethodHandle" ∧ y.cls ≠ "java/lang/invoke/VarHandle") ∧
  (∀ sig, parseMethodDescriptor y.desc = some sig → n = sig.parameters.length) ∧ (Cond.methodLink own index y).before args s = true ∧ (Cond.instanceMethod y).before args s = true ∧ (Cond.selects C y y).before args s = true
theorem vx_cwVW {own C : String} {index maxL mc ms : Nat} {y : MethodName} {bytes : ByteArray} {ret : Option FieldType} {hh : List (Nat × Nat × Nat × Nat)} {Ts ws ws' : List Cond} {rm : Room} (n : Nat) (ht : ∀ w ∈ Ts, w.before args s = true) (hT : GoodIn Ts (wsV own index C y ws)) (hw : ws = Cond.codeWith y bytes maxL ret hh :: ws') (hrc : rm.cells = mc) (hrs : rm.slots = ms)
    (hd : y.cls = C ∧ y.cls ≠ "java/lang/invoke/MethodHandle" ∧ y.cls ≠ "java/lang/invoke/VarHandle" ∧ (parseMethodDescriptor y.desc).map (fun d => d.parameters.length) = some n) (hR : rm.frames + 1 ≤ R.frames ∧ 8 + (maxL + 11) + rm.locals ≤ R.locals) :
    vx_CVW R s args own C index y bytes maxL ret hh ws rm mc ms n := by
  obtain ⟨hC, hd⟩ := hd
  subst hC
  have ok : ∀ w ∈ wsV own index y.cls y ws, w.before args s = true := fun w h => ht w (hT w h).1
  have hG : GoodIn Ts ws := fun w h => hT w (by unfold wsV; exact List.mem_append_right _ h)
  have hc : Cond.codeWith y bytes maxL ret hh ∈ ws := by rw [hw]; exact List.mem_cons_self
  refine ⟨⟨hrc, hrs, hR.1, hR.2, pay_in ht hG, hc⟩, ht _ (hG _ hc).1, ok _ (by simp [wsV]), ⟨hd.1, hd.2.1⟩, fun sig h => ?_, ok _ (by simp [wsV]), ok _ (by simp [wsV]), ok _ (by simp [wsV])⟩
  have h2 := hd.2.2
  rw [h] at h2
  exact (Option.some.inj h2).symm
theorem vx_runVW {y : MethodName} {bytes cc : ByteArray} {maxL nL mc ms n index : Nat} {ret : Option FieldType} {hh : List (Nat × Nat × Nat × Nat)} {ws : List Cond} {rm : Room} {Pc : Array Value → State → Prop} {Qc : Array Value → State → Outcome → State → Prop} {free : Addr → Prop} {Ts : List Cond} {own C : String} {b : Addr} {As rest : List Value} {g : JFrame}
    (S : CallFix p m c cc nL s args Ts own) (hM : Met l y ws rm Pc Qc mc ms free) (cw : vx_CVW R s args own C index y bytes maxL ret hh ws rm mc ms n) (hp : PreV s H C b Pc As)
    (hg : g.method = m) (hn : As.length = n) (hsize : g.locals.size = nL) (hstack : g.stack = As.reverse ++ .ref b :: rest) (hW : 2 * g.monitorRoom + (rest.map fun v => v.category).sum ≤ 8) (hdg : decode cc g.pc = .ok (.invokevirtual index, 3)) (hf : cells + mc ≤ R.cells ∧ slots + ms ≤ R.slots) :
    va_Run p l e R s m args below meth c H locs cells slots mc ms g rest (Qc (Value.ref b :: As).toArray) free := by
  obtain ⟨⟨hrc, hrs, hfr, hlo, hws, hcw⟩, hcode, hini, hy, hlen, hl, hin, hse⟩ := cw
  have hK : Back l R p e below s args y 3 8 (PreOf R mc ms Pc) (PostOf Qc mc ms free) := va_backW (hh := hh) (bytes := bytes) (maxL := maxL) (ret := ret) hM hp.1 hrc hrs hfr hlo hws hcw (fun a' U hW => word_at hW (Or.inl (by first | rfl | simp [Cond.onTables, Cond.keeps, Cond.steady])) hini)
  obtain ⟨hx, hb, hml, ho, -⟩ := S
  obtain ⟨-, ⟨cellB, hcB, hoB, hclB⟩, hPc⟩ := hp
  intro T hT X
  obtain ⟨v, vm₁, ⟨U', l2, c2, s2⟩, hW₁, X', ⟨g', mk, t, L, e1, e2, hq, h1, hL, h2, h3⟩, st⟩ := vx_callVW X hx (C := C) (hh := hh) (bytes := bytes) (maxL := maxL) (ret := ret) ho hl hin hse hcode hy hK (by rw [hT]; exact hcB) hoB hclB hg (hsize.trans hml.symm) (argsL := As) (rest := rest) (fun sig h => hn.trans (hlen sig h)) hstack hW (by rw [hb]; exact hdg)
    (fun vm₁ hW₁ => ⟨hf.1, hf.2, hPc (T.setVm vm₁) hT hW₁⟩)
  dsimp only [Pt.U, Pt.locs, Pt.cells, Pt.slots] at X' e1 e2 h1 h2 h3 st
  subst h1; subst h2; subst h3
  exact ⟨v, (T.setVm vm₁).calling g' mk (Value.ref b :: As).toArray, t, U', L, hT, X', hL, e1, e2, hq, st⟩
section
variable {y : MethodName} {bytes cc : ByteArray} {maxL nL mc ms n index : Nat} {ret : Option FieldType} {ws : List Cond} {rm : Room} {Pc : Array Value → State → Prop} {Qc : Array Value → State → Outcome → State → Prop} {XC : String → State → State → Prop} {free : Addr → Prop} {Ts : List Cond} {own C : String} {b : Addr} {As rest : List Value} {g : JFrame}
theorem vx_runVX {hh : List (Nat × Nat × Nat × Nat)} (S : CallFix p m c cc nL s args Ts own) (hM : vx_Met l y ws rm Pc Qc XC mc ms free) (cw : vx_CVW R s args own C index y bytes maxL ret hh ws rm mc ms n) (hp : PreV s H C b Pc As)
    (hg : g.method = m) (hn : As.length = n) (hsize : g.locals.size = nL) (hstack : g.stack = As.reverse ++ .ref b :: rest) (hW : 2 * g.monitorRoom + (rest.map fun v => v.category).sum ≤ 8) (hdg : decode cc g.pc = .ok (.invokevirtual index, 3)) (hf : cells + mc ≤ R.cells ∧ slots + ms ≤ R.slots) :
    vx_Run p l e R s m args below meth c H locs cells slots mc ms g rest (Qc (Value.ref b :: As).toArray) XC free := by
  obtain ⟨⟨hrc, hrs, hfr, hlo, hws, hcw⟩, hcode, hini, hy, hlen, hl, hin, hse⟩ := cw
  have hK : vx_Back l R p e below s args y 3 8 (PreOf R mc ms Pc) (PostOf Qc mc ms free) (vx_Post XC mc ms free) := vx_backW (hh := hh) (bytes := bytes) (maxL := maxL) (ret := ret) hM hp.1 hrc hrs hfr hlo hws hcw (fun a' U hW => word_at hW (Or.inl (by first | rfl | simp [Cond.onTables, Cond.keeps, Cond.steady])) hini)
  obtain ⟨hx, hb, hml, ho, -⟩ := S
  obtain ⟨-, ⟨cellB, hcB, hoB, hclB⟩, hPc⟩ := hp
  intro T hT X
  rcases vx_callVX X hx (C := C) (hh := hh) (bytes := bytes) (maxL := maxL) (ret := ret) ho hl hin hse hcode hy hK (by rw [hT]; exact hcB) hoB hclB hg (hsize.trans hml.symm) (argsL := As) (rest := rest) (fun sig h => hn.trans (hlen sig h)) hstack hW (by rw [hb]; exact hdg)
    (fun vm₁ hW₁ => ⟨hf.1, hf.2, hPc (T.setVm vm₁) hT hW₁⟩) with ⟨v, vm₁, ⟨U', l2, c2, s2⟩, hW₁, X', ⟨g', mk, t, L, e1, e2, hq, h1, hL, h2, h3⟩, st⟩ | ⟨q, vm₁, ⟨U', l2, c2, s2⟩, hW₁, X', ⟨g', mk, t, L, E, ce, e1, e2, hq, hce, hcv, hcl, h1, hL, h2, h3⟩, st⟩
  · dsimp only [Pt.U, Pt.locs, Pt.cells, Pt.slots] at X' e1 e2 h1 h2 h3 st
    subst h1; subst h2; subst h3
    exact Or.inl ⟨v, (T.setVm vm₁).calling g' mk (Value.ref b :: As).toArray, t, U', L, hT, X', hL, e1, e2, hq, st⟩
  · dsimp only [Pt.U, Pt.locs, Pt.cells, Pt.slots] at X' e1 e2 h1 h2 h3 st hcl
    subst h1; subst h2; subst h3
    exact Or.inr ⟨q, (T.setVm vm₁).calling g' mk (Value.ref b :: As).toArray, t, U', L, E, ce, hT, X', hL, e1, e2, hq, hce, hcv, vx_cls hW₁ hcl, st⟩
theorem vx_runSX {hh : List (Nat × Nat × Nat × Nat)} (S : CallFix p m c cc nL s args Ts own) (hM : vx_Met l y ws rm Pc Qc XC mc ms free) (cw : vx_CSW R s args own index y bytes maxL ret hh ws rm mc ms n) (hp : PreS s H Pc As)
    (hg : g.method = m) (hn : As.length = n) (hsize : g.locals.size = nL) (hstack : g.stack = As.reverse ++ rest) (hW : 2 * g.monitorRoom + (rest.map fun v => v.category).sum ≤ 8) (hdg : decode cc g.pc = .ok (.invokestatic index, 3)) (hf : cells + mc ≤ R.cells ∧ slots + ms ≤ R.slots) :
    vx_Run p l e R s m args below meth c H locs cells slots mc ms g rest (Qc As.toArray) XC free := by
  obtain ⟨⟨hrc, hrs, hfr, hlo, hws, hcw⟩, hcode, hini, hy, hlen, hl, hstt⟩ := cw
  have hK : vx_Back l R p e below s args y 3 8 (PreOf R mc ms Pc) (PostOf Qc mc ms free) (vx_Post XC mc ms free) := vx_backW (hh := hh) (bytes := bytes) (maxL := maxL) (ret := ret) hM hp.1 hrc hrs hfr hlo hws hcw (fun a' U hW => word_at hW (Or.inl (by first | rfl | simp [Cond.onTables, Cond.keeps, Cond.steady])) hini)
  obtain ⟨hx, hb, hml, ho, -⟩ := S
  intro T hT X
  rcases vx_callSX X hx (hh := hh) (bytes := bytes) (maxL := maxL) (ret := ret) ho hl hstt hini hcode hy hK hg (hsize.trans hml.symm) (argsL := As) (rest := rest) (fun sig h => hn.trans (hlen sig h)) hstack hW (by rw [hb]; exact hdg)
    (fun vm₁ hW₁ => ⟨hf.1, hf.2, hp.2 (T.setVm vm₁) hT hW₁⟩) with ⟨v, vm₁, ⟨U', l2, c2, s2⟩, hW₁, X', ⟨g', mk, t, L, e1, e2, hq, h1, hL, h2, h3⟩, st⟩ | ⟨q, vm₁, ⟨U', l2, c2, s2⟩, hW₁, X', ⟨g', mk, t, L, E, ce, e1, e2, hq, hce, hcv, hcl, h1, hL, h2, h3⟩, st⟩
  · dsimp only [Pt.U, Pt.locs, Pt.cells, Pt.slots] at X' e1 e2 h1 h2 h3 st
    subst h1; subst h2; subst h3
    exact Or.inl ⟨v, (T.setVm vm₁).calling g' mk As.toArray, t, U', L, hT, X', hL, e1, e2, hq, st⟩
  · dsimp only [Pt.U, Pt.locs, Pt.cells, Pt.slots] at X' e1 e2 h1 h2 h3 st hcl
    subst h1; subst h2; subst h3
    exact Or.inr ⟨q, (T.setVm vm₁).calling g' mk As.toArray, t, U', L, E, ce, hT, X', hL, e1, e2, hq, hce, hcv, vx_cls hW₁ hcl, st⟩
end
end VXH
theorem vx_ofWH {l : Launch} {y : MethodName} {ws ws' : List Cond} {rm : Room} {Pc : Array Value → State → Prop} {Qc : Array Value → State → Outcome → State → Prop} {XC : String → State → State → Prop} {mc ms : Nat} {free : Addr → Prop} {cc : ByteArray} {maxL : Nat} {ret : Option FieldType} {hh : List (Nat × Nat × Nat × Nat)}
    (hy : plainName y.cls = true) (hw : ws = Cond.codeWith y cc maxL ret hh :: ws')
    (body : ∀ p e s m args below meth c s₁, BodyLoose p l y (headSpec ws rm) cc maxL ret e s m args below meth c s₁ → c.maxLocals = maxL → Pc args s →
      W p l e (headSpec ws rm).room s m args below meth c s.heap [] 0 0 (vx_MQ below Qc XC args s mc ms free) (entryFrame m args maxL)) : vx_Met l y ws rm Pc Qc XC mc ms free := by
  refine MetFree.of_bodyS (code := cc) (maxLocals := maxL) (ret := ret) hy ?_ ?_
  · intro args s m h hn
    obtain ⟨m9, meth, c, hn9, h1, h2, h3, h4, -, h5, h6, -⟩ := Cond.codeWith_spec (atoms_spec (ws := ws) h _ (by rw [hw]; exact List.mem_cons_self))
    cases hn.symm.trans hn9
    exact ⟨meth, c, h1, h2, h3, h4, h5, h6⟩
  · intro p e s m args below meth c s₁ B hml hP _
    have hh0 : s₁.heap = s.heap := by rw [B.state]; rfl
    obtain ⟨t, a1, o, b1, b2, b3⟩ := body p e s m args below meth c s₁ B hml hP s₁ hh0 (Stand.of_body B)
    exact ⟨t, o, a1, b1, b2, b3⟩
/-! ===== END ===== -/
end
section
def RS : String := "SteppedList"
def TS : u_T := fun k => match k with
  | 0 => ("SteppedList", "scheme", "I", true)
  | 1 => ("SteppedList", "blocks", "[LSteppedList$Block;", true)
  | 2 => ("SteppedList", "workers", "[LSteppedList$Worker;", true)
  | 3 => ("SteppedList", "currentEpoch", "I", false)
  | _ => ("SteppedList", "faultCount", "I", false)
def tyTS : Nat → FieldType := fun k => match k with
  | 0 => .int
  | 1 => .array (.object "SteppedList$Block")
  | 2 => .array (.object "SteppedList$Worker")
  | 3 => .int
  | _ => .int
theorem nmTS : ∀ a, a < 5 → ∀ b, b < 5 → a ≠ b → (TS a).2.1 ≠ (TS b).2.1 := by decide +kernel
theorem tyTS_ok : ∀ k, k < 5 → parseFieldDescriptor (TS k).2.2.1 = some (tyTS k) := by decide +kernel
theorem owTS : ∀ k, k < 5 → (TS k).1 = RS := by decide +kernel
def RB : String := "SteppedList$Block"
def TB : u_T := fun k => match k with
  | 0 => ("SteppedList$Block", "state", "I", false)
  | 1 => ("SteppedList$Block", "key", "I", false)
  | 2 => ("SteppedList$Block", "link", "I", false)
  | 3 => ("SteppedList$Block", "marked", "Z", false)
  | 4 => ("SteppedList$Block", "life", "I", false)
  | _ => ("SteppedList$Block", "retiredWith", "I", false)
def tyTB : Nat → FieldType := fun k => match k with
  | 0 => .int
  | 1 => .int
  | 2 => .int
  | 3 => .boolean
  | 4 => .int
  | _ => .int
theorem nmTB : ∀ a, a < 6 → ∀ b, b < 6 → a ≠ b → (TB a).2.1 ≠ (TB b).2.1 := by decide +kernel
theorem tyTB_ok : ∀ k, k < 6 → parseFieldDescriptor (TB k).2.2.1 = some (tyTB k) := by decide +kernel
theorem owTB : ∀ k, k < 6 → (TB k).1 = RB := by decide +kernel
theorem fiTB : ∀ k, k < 6 → (TB k).2.2.2 = false := by decide +kernel
def RK : String := "SteppedList$Worker"
def TK : u_T := fun k => match k with
  | 0 => ("SteppedList$Worker", "number", "I", true)
  | 1 => ("SteppedList$Worker", "before", "I", false)
  | 2 => ("SteppedList$Worker", "operation", "I", false)
  | 3 => ("SteppedList$Worker", "key", "I", false)
  | 4 => ("SteppedList$Worker", "back", "I", false)
  | 5 => ("SteppedList$Worker", "backLife", "I", false)
  | 6 => ("SteppedList$Worker", "here", "I", false)
  | 7 => ("SteppedList$Worker", "hereLife", "I", false)
  | 8 => ("SteppedList$Worker", "next", "I", false)
  | 9 => ("SteppedList$Worker", "found", "Z", false)
  | 10 => ("SteppedList$Worker", "newBlock", "I", false)
  | 11 => ("SteppedList$Worker", "comingResult", "I", false)
  | 12 => ("SteppedList$Worker", "endedResult", "I", false)
  | 13 => ("SteppedList$Worker", "slot0", "I", false)
  | 14 => ("SteppedList$Worker", "slot1", "I", false)
  | _ => ("SteppedList$Worker", "announced", "I", false)
def tyTK : Nat → FieldType := fun k => match k with
  | 0 => .int
  | 1 => .int
  | 2 => .int
  | 3 => .int
  | 4 => .int
  | 5 => .int
  | 6 => .int
  | 7 => .int
  | 8 => .int
  | 9 => .boolean
  | 10 => .int
  | 11 => .int
  | 12 => .int
  | 13 => .int
  | 14 => .int
  | _ => .int
theorem nmTK : ∀ a, a < 16 → ∀ b, b < 16 → a ≠ b → (TK a).2.1 ≠ (TK b).2.1 := by decide +kernel
theorem tyTK_ok : ∀ k, k < 16 → parseFieldDescriptor (TK k).2.2.1 = some (tyTK k) := by decide +kernel
theorem owTK : ∀ k, k < 16 → (TK k).1 = RK := by decide +kernel
theorem fiTK : ∀ k, k < 16 → 0 < k → (TK k).2.2.2 = false := by decide +kernel
def RM : String := "SteppedListModel"
def TM : u_T := fun k => match k with
  | 0 => ("SteppedListModel", "thrown", "I", false)
  | 1 => ("SteppedListModel", "scheme", "I", false)
  | 2 => ("SteppedListModel", "epoch", "I", false)
  | 3 => ("SteppedListModel", "faults", "I", false)
  | 4 => ("SteppedListModel", "state", "[I", false)
  | 5 => ("SteppedListModel", "keys", "[I", false)
  | 6 => ("SteppedListModel", "links", "[I", false)
  | 7 => ("SteppedListModel", "marks", "[Z", false)
  | 8 => ("SteppedListModel", "lives", "[I", false)
  | 9 => ("SteppedListModel", "with", "[I", false)
  | 10 => ("SteppedListModel", "step", "[I", false)
  | 11 => ("SteppedListModel", "operation", "[I", false)
  | 12 => ("SteppedListModel", "wanted", "[I", false)
  | 13 => ("SteppedListModel", "back", "[I", false)
  | 14 => ("SteppedListModel", "backLife", "[I", false)
  | 15 => ("SteppedListModel", "here", "[I", false)
  | 16 => ("SteppedListModel", "hereLife", "[I", false)
  | 17 => ("SteppedListModel", "next", "[I", false)
  | 18 => ("SteppedListModel", "found", "[Z", false)
  | 19 => ("SteppedListModel", "fresh", "[I", false)
  | 20 => ("SteppedListModel", "coming", "[I", false)
  | 21 => ("SteppedListModel", "results", "[I", false)
  | 22 => ("SteppedListModel", "announced", "[I", false)
  | _ => ("SteppedListModel", "slots", "[I", false)
def tyTM : Nat → FieldType := fun k => match k with
  | 0 => .int
  | 1 => .int
  | 2 => .int
  | 3 => .int
  | 4 => .array .int
  | 5 => .array .int
  | 6 => .array .int
  | 7 => .array .boolean
  | 8 => .array .int
  | 9 => .array .int
  | 10 => .array .int
  | 11 => .array .int
  | 12 => .array .int
  | 13 => .array .int
  | 14 => .array .int
  | 15 => .array .int
  | 16 => .array .int
  | 17 => .array .int
  | 18 => .array .boolean
  | 19 => .array .int
  | 20 => .array .int
  | 21 => .array .int
  | 22 => .array .int
  | _ => .array .int
theorem nmTM : ∀ a, a < 24 → ∀ b, b < 24 → a ≠ b → (TM a).2.1 ≠ (TM b).2.1 := by decide +kernel
theorem tyTM_ok : ∀ k, k < 24 → parseFieldDescriptor (TM k).2.2.1 = some (tyTM k) := by decide +kernel
theorem owTM : ∀ k, k < 24 → (TM k).1 = RM := by decide +kernel
theorem fiTM : ∀ k, k < 4 → (TM k).2.2.2 = false := by decide +kernel
theorem tiTM : ∀ k, k < 4 → tyTM k = .int := by decide +kernel
def RL : String := "SteppedListLaw"
abbrev cS_init : ByteArray := prog_1_method_1_code
def yS_init : MethodName := ⟨RS, "<init>", "(I)V"⟩
abbrev cB_init : ByteArray := prog_2_method_1_code
def yB_init : MethodName := ⟨RB, "<init>", "()V"⟩
abbrev cK_init : ByteArray := prog_3_method_1_code
def yK_init : MethodName := ⟨RK, "<init>", "(I)V"⟩
abbrev cS_size : ByteArray := prog_1_method_12_code
def yS_size : MethodName := ⟨RS, "size", "()I"⟩
abbrev cS_has : ByteArray := prog_1_method_13_code
def yS_has : MethodName := ⟨RS, "has", "(I)Z"⟩
abbrev cS_faults : ByteArray := prog_1_method_14_code
def yS_faults : MethodName := ⟨RS, "faults", "()I"⟩
abbrev cS_epoch : ByteArray := prog_1_method_15_code
def yS_epoch : MethodName := ⟨RS, "epoch", "()I"⟩
abbrev cL_cell : ByteArray := method_2_code
def yL_cell : MethodName := ⟨RL, "cell", "([II)I"⟩
abbrev cL_begin : ByteArray := method_3_code
def yL_begin : MethodName := ⟨RL, "begin", "(LSteppedList;III)I"⟩
abbrev cS_begin : ByteArray := prog_1_method_2_code
def yS_begin : MethodName := ⟨RS, "begin", "(III)V"⟩
abbrev cS_workerOf : ByteArray := prog_1_method_16_code
def yS_workerOf : MethodName := ⟨RS, "workerOf", "(I)LSteppedList$Worker;"⟩
abbrev cK_forget : ByteArray := prog_3_method_2_code
def yK_forget : MethodName := ⟨RK, "forget", "()V"⟩
abbrev cL_step : ByteArray := method_4_code
def yL_step : MethodName := ⟨RL, "step", "(LSteppedList;I[J)I"⟩
abbrev cS_step : ByteArray := prog_1_method_3_code
def yS_step : MethodName := ⟨RS, "step", "(I)I"⟩
abbrev cS_busyWorkerOf : ByteArray := prog_1_method_17_code
def yS_busyWorkerOf : MethodName := ⟨RS, "busyWorkerOf", "(I)LSteppedList$Worker;"⟩
abbrev cS_perform : ByteArray := prog_1_method_18_code
def yS_perform : MethodName := ⟨RS, "perform", "(LSteppedList$Worker;)V"⟩
abbrev cS_startWork : ByteArray := prog_1_method_19_code
def yS_startWork : MethodName := ⟨RS, "startWork", "(LSteppedList$Worker;)V"⟩
abbrev cS_goToHead : ByteArray := prog_1_method_20_code
def yS_goToHead : MethodName := ⟨RS, "goToHead", "(LSteppedList$Worker;)V"⟩
abbrev cS_moveHereTo : ByteArray := prog_1_method_32_code
def yS_moveHereTo : MethodName := ⟨RS, "moveHereTo", "(LSteppedList$Worker;I)V"⟩
abbrev cS_nameHere : ByteArray := prog_1_method_21_code
def yS_nameHere : MethodName := ⟨RS, "nameHere", "(LSteppedList$Worker;)V"⟩
abbrev cS_checkBack : ByteArray := prog_1_method_22_code
def yS_checkBack : MethodName := ⟨RS, "checkBack", "(LSteppedList$Worker;)V"⟩
abbrev cS_lookAtBack : ByteArray := prog_1_method_34_code
def yS_lookAtBack : MethodName := ⟨RS, "lookAtBack", "(LSteppedList$Worker;)V"⟩
abbrev cS_countFault : ByteArray := prog_1_method_36_code
def yS_countFault : MethodName := ⟨RS, "countFault", "(LSteppedList$Block;I)V"⟩
abbrev cB_leadsTo : ByteArray := prog_2_method_2_code
def yB_leadsTo : MethodName := ⟨RB, "leadsTo", "(I)Z"⟩
abbrev cS_readHere : ByteArray := prog_1_method_23_code
def yS_readHere : MethodName := ⟨RS, "readHere", "(LSteppedList$Worker;)V"⟩
abbrev cS_lookAtHere : ByteArray := prog_1_method_35_code
def yS_lookAtHere : MethodName := ⟨RS, "lookAtHere", "(LSteppedList$Worker;)V"⟩
abbrev cS_cutHere : ByteArray := prog_1_method_24_code
def yS_cutHere : MethodName := ⟨RS, "cutHere", "(LSteppedList$Worker;)V"⟩
abbrev cS_takeOutHere : ByteArray := prog_1_method_33_code
def yS_takeOutHere : MethodName := ⟨RS, "takeOutHere", "(LSteppedList$Worker;)Z"⟩
abbrev cB_lead : ByteArray := prog_2_method_3_code
def yB_lead : MethodName := ⟨RB, "lead", "(I)V"⟩
abbrev cS_retireHere : ByteArray := prog_1_method_39_code
def yS_retireHere : MethodName := ⟨RS, "retireHere", "(LSteppedList$Worker;)V"⟩
abbrev cB_setFree : ByteArray := prog_2_method_5_code
def yB_setFree : MethodName := ⟨RB, "setFree", "()V"⟩
abbrev cB_retireWith : ByteArray := prog_2_method_4_code
def yB_retireWith : MethodName := ⟨RB, "retireWith", "(I)V"⟩
abbrev cS_countRetiredBy : ByteArray := prog_1_method_42_code
def yS_countRetiredBy : MethodName := ⟨RS, "countRetiredBy", "(LSteppedList$Worker;)I"⟩
abbrev cS_isRetiredBy : ByteArray := prog_1_method_44_code
def yS_isRetiredBy : MethodName := ⟨RS, "isRetiredBy", "(LSteppedList$Worker;I)Z"⟩
abbrev cS_freeUnnamed : ByteArray := prog_1_method_43_code
def yS_freeUnnamed : MethodName := ⟨RS, "freeUnnamed", "(LSteppedList$Worker;)I"⟩
abbrev cS_isNamed : ByteArray := prog_1_method_45_code
def yS_isNamed : MethodName := ⟨RS, "isNamed", "(I)Z"⟩
abbrev cS_doOperation : ByteArray := prog_1_method_25_code
def yS_doOperation : MethodName := ⟨RS, "doOperation", "(LSteppedList$Worker;)V"⟩
abbrev cS_prepareInsert : ByteArray := prog_1_method_26_code
def yS_prepareInsert : MethodName := ⟨RS, "prepareInsert", "(LSteppedList$Worker;)V"⟩
abbrev cS_giveNewBlockBack : ByteArray := prog_1_method_38_code
def yS_giveNewBlockBack : MethodName := ⟨RS, "giveNewBlockBack", "(LSteppedList$Worker;)V"⟩
abbrev cS_conclude : ByteArray := prog_1_method_31_code
def yS_conclude : MethodName := ⟨RS, "conclude", "(LSteppedList$Worker;I)V"⟩
abbrev cS_takeFreeBlock : ByteArray := prog_1_method_37_code
def yS_takeFreeBlock : MethodName := ⟨RS, "takeFreeBlock", "()I"⟩
abbrev cS_markForRemoval : ByteArray := prog_1_method_27_code
def yS_markForRemoval : MethodName := ⟨RS, "markForRemoval", "(LSteppedList$Worker;)V"⟩
abbrev cS_hangNewBlock : ByteArray := prog_1_method_28_code
def yS_hangNewBlock : MethodName := ⟨RS, "hangNewBlock", "(LSteppedList$Worker;)V"⟩
abbrev cS_endWork : ByteArray := prog_1_method_30_code
def yS_endWork : MethodName := ⟨RS, "endWork", "(LSteppedList$Worker;)V"⟩
abbrev cS_unhangHere : ByteArray := prog_1_method_29_code
def yS_unhangHere : MethodName := ⟨RS, "unhangHere", "(LSteppedList$Worker;)V"⟩
abbrev cL_finish : ByteArray := method_5_code
def yL_finish : MethodName := ⟨RL, "finish", "(LSteppedList;I[J)I"⟩
abbrev cS_finish : ByteArray := prog_1_method_4_code
def yS_finish : MethodName := ⟨RS, "finish", "(I)I"⟩
abbrev cL_result : ByteArray := method_6_code
def yL_result : MethodName := ⟨RL, "result", "(LSteppedList;I[J)I"⟩
abbrev cS_result : ByteArray := prog_1_method_5_code
def yS_result : MethodName := ⟨RS, "result", "(I)I"⟩
abbrev cL_at : ByteArray := method_7_code
def yL_at : MethodName := ⟨RL, "at", "(LSteppedList;I[J)I"⟩
abbrev cS_at : ByteArray := prog_1_method_6_code
def yS_at : MethodName := ⟨RS, "at", "(I)I"⟩
abbrev cL_known : ByteArray := method_8_code
def yL_known : MethodName := ⟨RL, "known", "(LSteppedList;II[J)I"⟩
abbrev cS_known : ByteArray := prog_1_method_7_code
def yS_known : MethodName := ⟨RS, "known", "(II)I"⟩
abbrev cL_says : ByteArray := method_9_code
def yL_says : MethodName := ⟨RL, "says", "(LSteppedList;II[J)I"⟩
abbrev cS_says : ByteArray := prog_1_method_8_code
def yS_says : MethodName := ⟨RS, "says", "(II)I"⟩
abbrev cL_advance : ByteArray := method_10_code
def yL_advance : MethodName := ⟨RL, "advance", "(LSteppedList;[J)I"⟩
abbrev cS_advance : ByteArray := prog_1_method_9_code
def yS_advance : MethodName := ⟨RS, "advance", "()Z"⟩
abbrev cS_allAnnounceCurrentEpoch : ByteArray := prog_1_method_40_code
def yS_allAnnounceCurrentEpoch : MethodName := ⟨RS, "allAnnounceCurrentEpoch", "()Z"⟩
abbrev cS_freeOldEpochs : ByteArray := prog_1_method_41_code
def yS_freeOldEpochs : MethodName := ⟨RS, "freeOldEpochs", "()V"⟩
abbrev cL_scan : ByteArray := method_11_code
def yL_scan : MethodName := ⟨RL, "scan", "(LSteppedList;I[J)I"⟩
abbrev cS_scan : ByteArray := prog_1_method_10_code
def yS_scan : MethodName := ⟨RS, "scan", "(I)I"⟩
abbrev cL_block : ByteArray := method_12_code
def yL_block : MethodName := ⟨RL, "block", "(LSteppedList;II[J)I"⟩
abbrev cS_block : ByteArray := prog_1_method_11_code
def yS_block : MethodName := ⟨RS, "block", "(II)I"⟩
abbrev cB_tell : ByteArray := prog_2_method_6_code
def yB_tell : MethodName := ⟨RB, "tell", "(I)I"⟩
abbrev cM_init : ByteArray := prog_5_method_1_code
def yM_init : MethodName := ⟨RM, "<init>", "(I)V"⟩
abbrev cM_thrown : ByteArray := prog_5_method_2_code
def yM_thrown : MethodName := ⟨RM, "thrown", "()I"⟩
abbrev cM_begin : ByteArray := prog_5_method_4_code
def yM_begin : MethodName := ⟨RM, "begin", "(III)V"⟩
abbrev cM_isThread : ByteArray := prog_5_method_3_code
def yM_isThread : MethodName := ⟨RM, "isThread", "(I)Z"⟩
abbrev cM_advance : ByteArray := prog_5_method_8_code
def yM_advance : MethodName := ⟨RM, "advance", "()Z"⟩
abbrev cM_scan : ByteArray := prog_5_method_9_code
def yM_scan : MethodName := ⟨RM, "scan", "(I)I"⟩
abbrev cM_sweep : ByteArray := prog_5_method_6_code
def yM_sweep : MethodName := ⟨RM, "sweep", "(I)I"⟩
abbrev cM_isNamed : ByteArray := prog_5_method_5_code
def yM_isNamed : MethodName := ⟨RM, "isNamed", "(I)Z"⟩
abbrev cM_step : ByteArray := prog_5_method_27_code
def yM_step : MethodName := ⟨RM, "step", "(I)I"⟩
abbrev cM_advanceThread : ByteArray := prog_5_method_26_code
def yM_advanceThread : MethodName := ⟨RM, "advanceThread", "(I)V"⟩
abbrev cM_head : ByteArray := prog_5_method_15_code
def yM_head : MethodName := ⟨RM, "head", "(I)I"⟩
abbrev cM_come : ByteArray := prog_5_method_14_code
def yM_come : MethodName := ⟨RM, "come", "(II)I"⟩
abbrev cM_name : ByteArray := prog_5_method_16_code
def yM_name : MethodName := ⟨RM, "name", "(I)I"⟩
abbrev cM_check : ByteArray := prog_5_method_17_code
def yM_check : MethodName := ⟨RM, "check", "(I)I"⟩
abbrev cM_lookBack : ByteArray := prog_5_method_11_code
def yM_lookBack : MethodName := ⟨RM, "lookBack", "(I)V"⟩
abbrev cM_look : ByteArray := prog_5_method_10_code
def yM_look : MethodName := ⟨RM, "look", "(II)V"⟩
abbrev cM_linked : ByteArray := prog_5_method_12_code
def yM_linked : MethodName := ⟨RM, "linked", "(I)Z"⟩
abbrev cM_read : ByteArray := prog_5_method_18_code
def yM_read : MethodName := ⟨RM, "read", "(I)I"⟩
abbrev cM_cut : ByteArray := prog_5_method_19_code
def yM_cut : MethodName := ⟨RM, "cut", "(I)I"⟩
abbrev cM_link : ByteArray := prog_5_method_13_code
def yM_link : MethodName := ⟨RM, "link", "(IIZ)V"⟩
abbrev cM_retire : ByteArray := prog_5_method_7_code
def yM_retire : MethodName := ⟨RM, "retire", "(II)V"⟩
abbrev cM_act : ByteArray := prog_5_method_22_code
def yM_act : MethodName := ⟨RM, "act", "(I)I"⟩
abbrev cM_insert : ByteArray := prog_5_method_20_code
def yM_insert : MethodName := ⟨RM, "insert", "(I)I"⟩
abbrev cM_remove : ByteArray := prog_5_method_21_code
def yM_remove : MethodName := ⟨RM, "remove", "(I)I"⟩
abbrev cM_hang : ByteArray := prog_5_method_23_code
def yM_hang : MethodName := ⟨RM, "hang", "(I)I"⟩
abbrev cM_end : ByteArray := prog_5_method_24_code
def yM_end : MethodName := ⟨RM, "end", "(I)I"⟩
abbrev cM_unhang : ByteArray := prog_5_method_25_code
def yM_unhang : MethodName := ⟨RM, "unhang", "(I)I"⟩
abbrev cM_finish : ByteArray := prog_5_method_28_code
def yM_finish : MethodName := ⟨RM, "finish", "(I)I"⟩
abbrev cM_result : ByteArray := prog_5_method_29_code
def yM_result : MethodName := ⟨RM, "result", "(I)I"⟩
abbrev cM_at : ByteArray := prog_5_method_30_code
def yM_at : MethodName := ⟨RM, "at", "(I)I"⟩
abbrev cM_known : ByteArray := prog_5_method_31_code
def yM_known : MethodName := ⟨RM, "known", "(II)I"⟩
abbrev cM_says : ByteArray := prog_5_method_32_code
def yM_says : MethodName := ⟨RM, "says", "(II)I"⟩
abbrev cM_block : ByteArray := prog_5_method_33_code
def yM_block : MethodName := ⟨RM, "block", "(II)I"⟩
abbrev cM_size : ByteArray := prog_5_method_35_code
def yM_size : MethodName := ⟨RM, "size", "()I"⟩
abbrev cM_count : ByteArray := prog_5_method_34_code
def yM_count : MethodName := ⟨RM, "count", "(II)I"⟩
abbrev cM_has : ByteArray := prog_5_method_36_code
def yM_has : MethodName := ⟨RM, "has", "(I)Z"⟩
abbrev cM_faults : ByteArray := prog_5_method_37_code
def yM_faults : MethodName := ⟨RM, "faults", "()I"⟩
abbrev cM_epoch : ByteArray := prog_5_method_38_code
def yM_epoch : MethodName := ⟨RM, "epoch", "()I"⟩
end
section
-- ===== states as families of numbers =====
abbrev CS : Type := Nat → Nat → Int32
def up2 (c : CS) (f i : Nat) (v : Int32) : CS := fun a b => if a = f ∧ b = i then v else c a b
theorem up2_eq (c : CS) (f i : Nat) (v : Int32) : up2 c f i v f i = v := by simp [up2]
theorem up2_f (c : CS) {f a : Nat} (i b : Nat) (v : Int32) (h : a ≠ f) : up2 c f i v a b = c a b := by simp [up2, h]
theorem up2_i (c : CS) (f a : Nat) {i b : Nat} (v : Int32) (h : b ≠ i) : up2 c f i v a b = c a b := by simp [up2, h]
theorem up2_row (c : CS) (f i : Nat) (v : Int32) : up2 c f i v f = upd (c f) i v := by
  funext b
  simp [up2, upd]
theorem up2_rowf (c : CS) {f a : Nat} (i : Nat) (v : Int32) (h : a ≠ f) : up2 c f i v a = c a := by
  funext b
  simp [up2, h]
-- ===== worlds of n cells at the addresses X =====
def gW (n : Nat) (X : Nat → Nat) (E : Nat → va_E) : va_W := (List.range n).map (fun i => (X i, E i))
theorem gW_len (n : Nat) (X : Nat → Nat) (E : Nat → va_E) : (gW n X E).length = n := by simp [gW]
theorem gW_get {n : Nat} {X : Nat → Nat} {E : Nat → va_E} {i : Nat} (h : i < n) : (gW n X E)[i]? = some (X i, E i) := by
  simp [gW, h]
theorem gW_none {n : Nat} {X : Nat → Nat} {E : Nat → va_E} {i : Nat} (h : n ≤ i) : (gW n X E)[i]? = none := by
  rw [List.getElem?_eq_none_iff, gW_len]; exact h
theorem gW_ext {n : Nat} {X : Nat → Nat} {E : Nat → va_E} {l : va_W} (hl : l.length = n) (h : ∀ i, i < n → l[i]? = some (X i, E i)) : l = gW n X E := by
  apply List.ext_getElem?
  intro j
  by_cases hj : j < n
  · rw [h j hj, gW_get hj]
  · rw [gW_none (Nat.le_of_not_lt hj), List.getElem?_eq_none_iff, hl]; omega
theorem gW_set {n : Nat} {X : Nat → Nat} {E E' : Nat → va_E} {i : Nat} {e : va_E} (h : i < n) (he : E' i = e) (ho : ∀ j, j < n → j ≠ i → E' j = E j) : (gW n X E).set i (X i, e) = gW n X E' := by
  refine gW_ext (by rw [List.length_set, gW_len]) (fun j hj => ?_)
  by_cases hji : j = i
  · subst hji
    rw [List.getElem?_set_self (by rw [gW_len]; exact h), he]
  · rw [List.getElem?_set_ne (Ne.symm hji), gW_get hj, ho j hj hji]
theorem gW_congr {n : Nat} {X X' : Nat → Nat} {E E' : Nat → va_E} (hx : ∀ i, i < n → X i = X' i) (h : ∀ i, i < n → E i = E' i) : gW n X E = gW n X' E' :=
  gW_ext (by rw [gW_len]) (fun i hi => by rw [gW_get hi, hx i hi, h i hi])
theorem gW_push {n : Nat} {X : Nat → Nat} {E : Nat → va_E} {q : Nat} {e : va_E} : gW n X E ++ [(q, e)] = gW (n + 1) (va_up X n q) (va_up E n e) := by
  refine gW_ext (by rw [List.length_append, gW_len]; rfl) (fun j hj => ?_)
  by_cases hjn : j = n
  · subst hjn
    rw [List.getElem?_append_right (Nat.le_of_eq (gW_len ..)), gW_len, Nat.sub_self, va_up_self, va_up_self]
    rfl
  · rw [List.getElem?_append_left (by rw [gW_len]; omega), gW_get (by omega), va_up_ne _ _ hjn, va_up_ne _ _ hjn]
-- ===== the class's world: x, the array of blocks, 21 blocks, the array of workers, 4 workers =====
def bF (c : CS) (k : Nat) : List Value := [.int (c 0 k), .int (c 1 k), .int (c 2 k), .int (c 3 k), .int (c 4 k), .int (c 5 k)]
def wF (c : CS) (t : Nat) : List Value := [.int (c 6 t), .int (c 7 t), .int (c 8 t), .int (c 9 t), .int (c 10 t), .int (c 11 t), .int (c 12 t), .int (c 13 t), .int (c 14 t), .int (c 15 t), .int (c 16 t), .int (c 17 t), .int (c 18 t), .int (c 19 t), .int (c 20 t), .int (c 21 t)]
def xF (X : Nat → Nat) (c : CS) : List Value := [.int (c 22 0), .ref (X 1), .ref (X 23), .int (c 22 1), .int (c 22 2)]
def cE (X : Nat → Nat) (K : Nat → ClassId) (c : CS) (i : Nat) : va_E :=
  if i = 0 then .inr (0, xF X c)
  else if i = 1 then .inl (K 0, 21, .inr (.inr (.inr (.inr (fun k => some (X (2 + k)))))))
  else if i < 23 then .inr (1, bF c (i - 2))
  else if i = 23 then .inl (K 1, 4, .inr (.inr (.inr (.inr (fun t => some (X (24 + t)))))))
  else .inr (2, wF c (i - 24))
def cW (X : Nat → Nat) (K : Nat → ClassId) (c : CS) : va_W := gW 28 X (cE X K c)
theorem cW_x {X : Nat → Nat} {K : Nat → ClassId} {c : CS} : (cW X K c)[0]? = some (X 0, .inr (0, xF X c)) := gW_get (by omega)
theorem cW_ab {X : Nat → Nat} {K : Nat → ClassId} {c : CS} : (cW X K c)[1]? = some (X 1, .inl (K 0, 21, .inr (.inr (.inr (.inr (fun k => some (X (2 + k)))))))) := gW_get (by omega)
theorem cW_aw {X : Nat → Nat} {K : Nat → ClassId} {c : CS} : (cW X K c)[23]? = some (X 23, .inl (K 1, 4, .inr (.inr (.inr (.inr (fun t => some (X (24 + t)))))))) := gW_get (by omega)
theorem cE_b {X : Nat → Nat} {K : Nat → ClassId} {c : CS} {k : Nat} (h : k < 21) : cE X K c (2 + k) = .inr (1, bF c k) := by
  unfold cE
  rw [if_neg (by omega), if_neg (by omega), if_pos (by omega), show 2 + k - 2 = k by omega]
theorem cE_t {X : Nat → Nat} {K : Nat → ClassId} {c : CS} {t : Nat} : cE X K c (24 + t) = .inr (2, wF c t) := by
  unfold cE
  rw [if_neg (by omega), if_neg (by omega), if_neg (by omega), if_neg (by omega), show 24 + t - 24 = t by omega]
theorem cW_b {X : Nat → Nat} {K : Nat → ClassId} {c : CS} {k : Nat} (h : k < 21) : (cW X K c)[2 + k]? = some (X (2 + k), .inr (1, bF c k)) := by
  rw [show (cW X K c)[2 + k]? = some (X (2 + k), cE X K c (2 + k)) from gW_get (by omega), cE_b h]
theorem cW_t {X : Nat → Nat} {K : Nat → ClassId} {c : CS} {t : Nat} (h : t < 4) : (cW X K c)[24 + t]? = some (X (24 + t), .inr (2, wF c t)) := by
  rw [show (cW X K c)[24 + t]? = some (X (24 + t), cE X K c (24 + t)) from gW_get (by omega), cE_t]
/-- which cell a family lies in, and nowhere else -/
theorem cE_other {X : Nat → Nat} {K : Nat → ClassId} {c : CS} {f i j : Nat} {v : Int32} (h : (f < 6 ∧ j ≠ 2 + i) ∨ (6 ≤ f ∧ f < 22 ∧ j ≠ 24 + i) ∨ (f = 22 ∧ j ≠ 0)) : cE X K (up2 c f i v) j = cE X K c j := by
  unfold cE
  by_cases h0 : j = 0
  · rw [if_pos h0, if_pos h0]
    have hf : (22 : Nat) ≠ f := by omega
    simp only [xF, up2_f c _ _ v hf]
  · rw [if_neg h0, if_neg h0]
    by_cases h1 : j = 1
    · rw [if_pos h1, if_pos h1]
    · rw [if_neg h1, if_neg h1]
      by_cases h2 : j < 23
      · rw [if_pos h2, if_pos h2]
        have hb : bF (up2 c f i v) (j - 2) = bF c (j - 2) := by
          rcases h with h | h | h
          · have hk : j - 2 ≠ i := by omega
            simp only [bF, up2_i c _ _ v hk]
          · have hf : ∀ a, a < 6 → up2 c f i v a (j - 2) = c a (j - 2) := fun a ha => up2_f c _ _ v (by omega)
            simp only [bF, hf 0 (by omega), hf 1 (by omega), hf 2 (by omega), hf 3 (by omega), hf 4 (by omega), hf 5 (by omega)]
          · have hf : ∀ a, a < 6 → up2 c f i v a (j - 2) = c a (j - 2) := fun a ha => up2_f c _ _ v (by omega)
            simp only [bF, hf 0 (by omega), hf 1 (by omega), hf 2 (by omega), hf 3 (by omega), hf 4 (by omega), hf 5 (by omega)]
        rw [hb]
      · rw [if_neg h2, if_neg h2]
        by_cases h3 : j = 23
        · rw [if_pos h3, if_pos h3]
        · rw [if_neg h3, if_neg h3]
          have hw : ∀ a, 6 ≤ a → a < 22 → up2 c f i v a (j - 24) = c a (j - 24) := by
            intro a ha hb
            rcases h with h | h | h
            · exact up2_f c _ _ v (by omega)
            · exact up2_i c _ _ v (by omega)
            · exact up2_f c _ _ v (by omega)
          simp only [wF, hw 6 (by omega) (by omega), hw 7 (by omega) (by omega), hw 8 (by omega) (by omega), hw 9 (by omega) (by omega), hw 10 (by omega) (by omega), hw 11 (by omega) (by omega), hw 12 (by omega) (by omega), hw 13 (by omega) (by omega), hw 14 (by omega) (by omega), hw 15 (by omega) (by omega), hw 16 (by omega) (by omega), hw 17 (by omega) (by omega), hw 18 (by omega) (by omega), hw 19 (by omega) (by omega), hw 20 (by omega) (by omega), hw 21 (by omega) (by omega)]
theorem bF_set {c : CS} {k f : Nat} {v : Int32} (h : f < 6) : bF (up2 c f k v) k = (bF c k).set f (.int v) := by
  rcases (show f = 0 ∨ f = 1 ∨ f = 2 ∨ f = 3 ∨ f = 4 ∨ f = 5 by omega) with rfl | rfl | rfl | rfl | rfl | rfl <;> simp [bF, up2]
theorem wF_set {c : CS} {t f : Nat} {v : Int32} (h : f < 16) : wF (up2 c (6 + f) t v) t = (wF c t).set f (.int v) := by
  rcases (show f = 0 ∨ f = 1 ∨ f = 2 ∨ f = 3 ∨ f = 4 ∨ f = 5 ∨ f = 6 ∨ f = 7 ∨ f = 8 ∨ f = 9 ∨ f = 10 ∨ f = 11 ∨ f = 12 ∨ f = 13 ∨ f = 14 ∨ f = 15 by omega) with rfl | rfl | rfl | rfl | rfl | rfl | rfl | rfl | rfl | rfl | rfl | rfl | rfl | rfl | rfl | rfl <;> simp [wF, up2]
theorem cW_setb {X : Nat → Nat} {K : Nat → ClassId} {c : CS} {k f : Nat} {v : Int32} (hk : k < 21) (hf : f < 6) : (cW X K c).set (2 + k) (X (2 + k), .inr (1, (bF c k).set f (.int v))) = cW X K (up2 c f k v) :=
  gW_set (by omega) (by rw [cE_b hk, bF_set hf]) (fun j _ hj => cE_other (Or.inl ⟨hf, hj⟩))
theorem cW_sett {X : Nat → Nat} {K : Nat → ClassId} {c : CS} {t f : Nat} {v : Int32} (ht : t < 4) (hf : f < 16) : (cW X K c).set (24 + t) (X (24 + t), .inr (2, (wF c t).set f (.int v))) = cW X K (up2 c (6 + f) t v) :=
  gW_set (by omega) (by rw [cE_t, wF_set hf]) (fun j _ hj => cE_other (Or.inr (Or.inl ⟨by omega, by omega, hj⟩)))
theorem cW_set3 {X : Nat → Nat} {K : Nat → ClassId} {c : CS} {v : Int32} : (cW X K c).set 0 (X 0, .inr (0, (xF X c).set 3 (.int v))) = cW X K (up2 c 22 1 v) :=
  gW_set (by omega) (by simp [cE, xF, up2]) (fun j _ hj => cE_other (Or.inr (Or.inr ⟨rfl, hj⟩)))
theorem cW_set4 {X : Nat → Nat} {K : Nat → ClassId} {c : CS} {v : Int32} : (cW X K c).set 0 (X 0, .inr (0, (xF X c).set 4 (.int v))) = cW X K (up2 c 22 2 v) :=
  gW_set (by omega) (by simp [cE, xF, up2]) (fun j _ hj => cE_other (Or.inr (Or.inr ⟨rfl, hj⟩)))
-- ===== the reference's world: m, then its twenty arrays =====
def mlen (f : Nat) : Nat := if f < 6 then 21 else if f = 19 then 8 else 4
def mK (K : Nat → ClassId) (f : Nat) : ClassId := if f = 3 ∨ f = 14 then K 3 else K 2
def mF (Y : Nat → Nat) (m : CS) : List Value := [.int (m 20 0), .int (m 20 1), .int (m 20 2), .int (m 20 3), .ref (Y 1), .ref (Y 2), .ref (Y 3), .ref (Y 4), .ref (Y 5), .ref (Y 6), .ref (Y 7), .ref (Y 8), .ref (Y 9), .ref (Y 10), .ref (Y 11), .ref (Y 12), .ref (Y 13), .ref (Y 14), .ref (Y 15), .ref (Y 16), .ref (Y 17), .ref (Y 18), .ref (Y 19), .ref (Y 20)]
def mE (Y : Nat → Nat) (K : Nat → ClassId) (m : CS) (i : Nat) : va_E :=
  if i = 0 then .inr (3, mF Y m) else .inl (mK K (i - 1), mlen (i - 1), .inl (m (i - 1)))
def mW (Y : Nat → Nat) (K : Nat → ClassId) (m : CS) : va_W := gW 21 Y (mE Y K m)
theorem mW_m {Y : Nat → Nat} {K : Nat → ClassId} {m : CS} : (mW Y K m)[0]? = some (Y 0, .inr (3, mF Y m)) := gW_get (by omega)
theorem mE_a {Y : Nat → Nat} {K : Nat → ClassId} {m : CS} {f : Nat} : mE Y K m (1 + f) = .inl (mK K f, mlen f, .inl (m f)) := by
  unfold mE
  rw [if_neg (by omega), show 1 + f - 1 = f by omega]
theorem mW_a {Y : Nat → Nat} {K : Nat → ClassId} {m : CS} {f : Nat} (h : f < 20) : (mW Y K m)[1 + f]? = some (Y (1 + f), .inl (mK K f, mlen f, .inl (m f))) := by
  rw [show (mW Y K m)[1 + f]? = some (Y (1 + f), mE Y K m (1 + f)) from gW_get (by omega), mE_a]
theorem mE_other {Y : Nat → Nat} {K : Nat → ClassId} {m : CS} {f i j : Nat} {v : Int32} (h : (f < 20 ∧ j ≠ 1 + f) ∨ (f = 20 ∧ j ≠ 0 ∧ j < 21)) : mE Y K (up2 m f i v) j = mE Y K m j := by
  unfold mE
  by_cases h0 : j = 0
  · rw [if_pos h0, if_pos h0]
    have hf : (20 : Nat) ≠ f := by omega
    simp only [mF, up2_f m _ _ v hf]
  · rw [if_neg h0, if_neg h0, up2_rowf m i v (show j - 1 ≠ f by omega)]
theorem mW_seta {Y : Nat → Nat} {K : Nat → ClassId} {m : CS} {f i : Nat} {v : Int32} (hf : f < 20) : (mW Y K m).set (1 + f) (Y (1 + f), .inl (mK K f, mlen f, .inl (upd (m f) i v))) = mW Y K (up2 m f i v) :=
  gW_set (by omega) (by rw [mE_a, up2_row]) (fun j _ hj => mE_other (Or.inl ⟨hf, hj⟩))
theorem mW_setm {Y : Nat → Nat} {K : Nat → ClassId} {m : CS} {i : Nat} {v : Int32} (hi : i < 4) : (mW Y K m).set 0 (Y 0, .inr (3, (mF Y m).set i (.int v))) = mW Y K (up2 m 20 i v) :=
  gW_set (by omega) (by rcases (show i = 0 ∨ i = 1 ∨ i = 2 ∨ i = 3 by omega) with rfl | rfl | rfl | rfl <;> simp [mE, mF, up2]) (fun j hj hj0 => mE_other (Or.inr ⟨rfl, hj0, hj⟩))
-- ===== ranges, rooms, small facts =====
def ixC (f : Nat) : Bool := f == 2 || f == 10 || f == 12 || f == 14 || f == 16
def Inv (c : CS) : Prop := ∀ f i, ixC f = true → vp_in (c f i) 21
def ixM (f : Nat) : Bool := f == 2 || f == 9 || f == 11 || f == 13 || f == 15
def InvM (m : CS) : Prop := ∀ f i, ixM f = true → vp_in (m f i) 21
theorem Inv.upo {c : CS} {f i : Nat} {v : Int32} (h : Inv c) (hf : ixC f = false) : Inv (up2 c f i v) := by
  intro g j hg
  have hne : g ≠ f := fun e => by rw [e, hf] at hg; cases hg
  rw [up2_f c i j v hne]; exact h g j hg
theorem Inv.upi {c : CS} {f i : Nat} {v : Int32} (h : Inv c) (hv : vp_in v 21) : Inv (up2 c f i v) := by
  intro g j hg
  unfold up2
  split
  · exact hv
  · exact h g j hg
theorem InvM.upo {c : CS} {f i : Nat} {v : Int32} (h : InvM c) (hf : ixM f = false) : InvM (up2 c f i v) := by
  intro g j hg
  have hne : g ≠ f := fun e => by rw [e, hf] at hg; cases hg
  rw [up2_f c i j v hne]; exact h g j hg
theorem InvM.upi {c : CS} {f i : Nat} {v : Int32} (h : InvM c) (hv : vp_in v 21) : InvM (up2 c f i v) := by
  intro g j hg
  unfold up2
  split
  · exact hv
  · exact h g j hg
theorem ite_c {P : Prop} {d : Decidable P} {a b : CS} (ha : P → Inv a) (hb : ¬ P → Inv b) : Inv (if P then a else b) := by
  split
  · exact ha ‹_›
  · exact hb ‹_›
theorem ite_c2 {P : Prop} {d : Decidable P} {a b : Int32 × CS} (ha : P → Inv a.2) (hb : ¬ P → Inv b.2) : Inv (if P then a else b).2 := by
  split
  · exact ha ‹_›
  · exact hb ‹_›
theorem ite_m {P : Prop} {d : Decidable P} {a b : CS} (ha : P → InvM a) (hb : ¬ P → InvM b) : InvM (if P then a else b) := by
  split
  · exact ha ‹_›
  · exact hb ‹_›
theorem ite_m2 {P : Prop} {d : Decidable P} {a b : Int32 × CS} (ha : P → InvM a.2) (hb : ¬ P → InvM b.2) : InvM (if P then a else b).2 := by
  split
  · exact ha ‹_›
  · exact hb ‹_›
theorem vp0 : vp_in 0 21 := by unfold vp_in; decide
def bz (z : Int32) : Prop := z = 0 ∨ z = 1
theorem bz0 : bz 0 := Or.inl rfl
theorem bz1 : bz 1 := Or.inr rfl
theorem bz_nar {z : Int32} (h : bz z) : narrow .boolean (.int z) = .int z := by
  rcases h with rfl | rfl <;> rfl
theorem bz_vp {z : Int32} (h : bz z) : vp_nar .boolean z = z := by
  rcases h with rfl | rfl <;> rfl
theorem cm_lt0 {k N : Nat} (h : k < N) (hN : N ≤ 100000) : ¬ nI k < 0 := nI_pos (by omega)
theorem cm_ge0 {k N : Nat} (h : k < N) (hN : N ≤ 100000) : 0 ≤ nI k := nI_pos' (by omega)
theorem sw_lo {x k : Int32} {lo : Int} (h : x = k) (hk : ¬ k.toInt < lo) : ¬ x.toInt < lo := h ▸ hk
theorem sw_hi {x k : Int32} {hi : Int} (h : x = k) (hk : ¬ hi < k.toInt) : ¬ hi < x.toInt := h ▸ hk
theorem sw_at {x k : Int32} {lo off : Int} {offs : Array Int} (h : x = k) (hk : offs[(k.toInt - lo).toNat]? = some off) : offs[(x.toInt - lo).toNat]? = some off := h ▸ hk
/-- room for d calls one in another -/
def rmD (d : Nat) : Room := { frames := d, cells := 0, slots := 0, locals := 30 * d }
end
section
def STl : List (String × Nat × String) := [("SteppedList", 142, "no such thread"), ("SteppedList", 35, "no such operation"), ("SteppedList", 40, "no such key"), ("SteppedList", 47, "the thread is not idle"), ("SteppedList", 144, "the thread is idle"), ("SteppedList", 71, "no operation ended yet"), ("SteppedList", 88, "no such thing is known"), ("SteppedList", 100, "no such thing is said"), ("SteppedList", 104, "epochs are for scheme 0"), ("SteppedList", 117, "scans are for scheme 1"), ("SteppedList", 123, "no such block"), ("SteppedList", 125, "nothing such of a block")]
def NCl : List (String × String) := [("java/lang/IllegalArgumentException", "java/lang/IndexOutOfBoundsException"), ("java/lang/IllegalStateException", "java/lang/IndexOutOfBoundsException"), ("java/util/NoSuchElementException", "java/lang/IndexOutOfBoundsException"), ("java/lang/UnsupportedOperationException", "java/lang/IndexOutOfBoundsException"), ("java/lang/IndexOutOfBoundsException", "java/lang/IllegalArgumentException"), ("java/lang/IllegalStateException", "java/lang/IllegalArgumentException"), ("java/util/NoSuchElementException", "java/lang/IllegalArgumentException"), ("java/lang/UnsupportedOperationException", "java/lang/IllegalArgumentException"), ("java/lang/IndexOutOfBoundsException", "java/lang/IllegalStateException"), ("java/lang/IllegalArgumentException", "java/lang/IllegalStateException"), ("java/util/NoSuchElementException", "java/lang/IllegalStateException"), ("java/lang/UnsupportedOperationException", "java/lang/IllegalStateException"), ("java/lang/IndexOutOfBoundsException", "java/util/NoSuchElementException"), ("java/lang/IllegalArgumentException", "java/util/NoSuchElementException"), ("java/lang/IllegalStateException", "java/util/NoSuchElementException"), ("java/lang/UnsupportedOperationException", "java/util/NoSuchElementException"), ("java/lang/IndexOutOfBoundsException", "java/lang/UnsupportedOperationException"), ("java/lang/IllegalArgumentException", "java/lang/UnsupportedOperationException"), ("java/lang/IllegalStateException", "java/lang/UnsupportedOperationException"), ("java/util/NoSuchElementException", "java/lang/UnsupportedOperationException")]
-- ===== classes, array classes, words =====
abbrev cl4 : List vw_C := [(RS, TS, 5), (RB, TB, 6), (RK, TK, 16), (RM, TM, 24)]
abbrev TY (K : Nat → ClassId) : List (ClassId × FieldType) := [(K 0, .object RB), (K 1, .object RK), (K 2, .int), (K 3, .boolean), (K 4, .long)]
/-- the tables' words that stay good however warm the tables get -/
def WSg : List Cond := lw_tbl.filter goodWord
theorem WSg_good {w : Cond} (h : w ∈ WSg) : (w.onTables && w.keeps) = true ∨ ∃ ty, w = .arrayClass ty := good_of_word (List.mem_filter.mp h).2
theorem WSg_in {w : Cond} (h : w ∈ lw_tbl) (hg : goodWord w = true) : w ∈ WSg := List.mem_filter.mpr ⟨h, hg⟩
/-- words of links inside the nest -/
def nestW : Cond → Bool
  | .fieldLinkNest .. => true
  | .methodLinkNest .. => true
  | .castable .. => true
  | .declares .. => true
  | _ => false
def NWl : List Cond := lw_tbl.filter nestW
theorem NWl_in {w : Cond} (h : w ∈ lw_tbl) (hg : nestW w = true) : w ∈ NWl := List.mem_filter.mpr ⟨h, hg⟩
theorem nest_tab {w : Cond} (h : nestW w = true) : w.onTables = true := by
  cases w <;> first | rfl | (exact absurd h (by decide)) | (simp [nestW] at h)
theorem nest_warm {w : Cond} {s U : State} (h : nestW w = true) (hW : s.WarmedH U.vm) (hZ : va_Nw w s) : va_Nw w U := by
  cases w <;> first | exact va_Nw.warmF hW hZ | exact va_Nw.warmM hW hZ | exact va_Nw.warmC hW hZ | exact va_Nw.warmD hW hZ | (simp [nestW] at h)
/-- what of the start stands all the time: classes, links of the nest, texts, where Throwable's statics lie -/
def EV (D : va_G) (K : Nat → ClassId) (base : Nat) (U : State) : Prop :=
  va_K D cl4 (TY K) U ∧ (∀ w ∈ NWl, va_Nw w U) ∧ (∀ q ∈ STl, ∃ sa, vk_R q.1 q.2.1 q.2.2 sa U) ∧ (∀ q ∈ NCl, va_Nc q.1 q.2 U) ∧
  vx_Zq Bundle.tN "UNASSIGNED_STACK" Bundle.steD (fun q => base ≤ q) U U.heap ∧ vx_Zq Bundle.tN "SUPPRESSED_SENTINEL" Bundle.listD (fun q => base ≤ q) U U.heap
theorem EV.warm {D : va_G} {K : Nat → ClassId} {base : Nat} {s U : State} (h : EV D K base s) (hW : s.WarmedH U.vm) (hh : ∀ q : Nat, q < s.heap.size → q < base → U.heap[q]? = s.heap[q]?) : EV D K base U := by
  obtain ⟨h1, h2, h3, h4, h5, h6⟩ := h
  have hk : ∀ a : Nat, a < s.heap.size → ¬ base ≤ a → U.heap[a]? = s.heap[a]? := fun a h1 h2 => hh a h1 (Nat.lt_of_not_le h2)
  refine ⟨va_K.moved hW.alike h1, fun w hw => nest_warm (List.mem_filter.mp hw).2 hW (h2 w hw), fun q hq => ?_, fun q hq => va_Nc.moved hW.alike (h4 q hq), vx_Zq.moved hW.alike (h5.kept hk), vx_Zq.moved hW.alike (h6.kept hk)⟩
  obtain ⟨sa, hsa⟩ := h3 q hq
  exact ⟨sa, vk_R.warm hW hsa⟩
/-- a field's link in a class's pool -/
def FL (own : String) (idx : Nat) (C n d : String) : Prop := Cond.fieldLink own idx C n d ∈ WSg ∨ ∃ host, Cond.fieldLinkNest own idx C n d host ∈ NWl
theorem inTS : ∀ w ∈ u_ws RS TS 5, w ∈ WSg := by decide +kernel
theorem inTB : ∀ w ∈ u_ws RB TB 6, w ∈ WSg := by decide +kernel
theorem inTK : ∀ w ∈ u_ws RK TK 16, w ∈ WSg := by decide +kernel
theorem inTM : ∀ w ∈ u_ws RM TM 24, w ∈ WSg := by decide +kernel
end
section
-- ===== the compact judgement: a method's walk over a world =====
abbrev KM : Type := Program × Env × State × MethodId × Array Value × List Frame × Method × Code
def G (κ : KM) (l : Launch) (R : Room) (A : Nat → Prop) (Q : State → Prop) (D : va_G) (nL cells slots : Nat) (σ : va_W) (pc : Nat) (L : List (Nat × Value)) (S : List Value) : Prop :=
  ∀ (H : Heap) (locs : List Loc) (ls : Array Slot), va_P D cl4 σ H → va_D A σ → va_S A κ.2.2.1.heap H locs → lv_has ls nL L →
    W κ.1 l κ.2.1 R κ.2.2.1 κ.2.2.2.1 κ.2.2.2.2.1 κ.2.2.2.2.2.1 κ.2.2.2.2.2.2.1 κ.2.2.2.2.2.2.2 H locs cells slots Q (F0 κ.2.2.2.1 pc ls S)
/-- what stands fixed over a walk -/
def Fx (κ : KM) (A : Nat → Prop) (D : va_G) (K : Nat → ClassId) (base : Nat) (cc : ByteArray) (own : String) (nL : Nat) : Prop :=
  κ.1.tables.exec = Jvm.exec ∧ κ.2.2.2.2.2.2.2.code = cc ∧ κ.2.2.2.2.2.2.2.maxLocals = nL ∧ κ.2.2.1.vm.findClass own = some κ.2.2.2.1.cls ∧ (∀ w ∈ WSg, w.before κ.2.2.2.2.1 κ.2.2.1 = true) ∧ EV D K base κ.2.2.1 ∧ (∀ q, A q → base ≤ q) ∧ (∀ q, κ.2.2.1.heap.size ≤ q → A q) ∧ κ.2.2.2.2.2.2.1.locks = false ∧ base ≤ κ.2.2.1.heap.size
section GR
variable {κ : KM} {l : Launch} {R : Room} {A : Nat → Prop} {Q : State → Prop} {D : va_G} {K : Nat → ClassId} {base : Nat} {cc : ByteArray} {own : String} {nL cells slots pc : Nat} {σ : va_W} {L : List (Nat × Value)} {S : List Value}
theorem Fx.ex (F : Fx κ A D K base cc own nL) : κ.1.tables.exec = Jvm.exec := F.1
theorem Fx.hb (F : Fx κ A D K base cc own nL) : κ.2.2.2.2.2.2.2.code = cc := F.2.1
theorem Fx.ml (F : Fx κ A D K base cc own nL) : κ.2.2.2.2.2.2.2.maxLocals = nL := F.2.2.1
theorem Fx.ow (F : Fx κ A D K base cc own nL) : κ.2.2.1.vm.findClass own = some κ.2.2.2.1.cls := F.2.2.2.1
theorem Fx.ts (F : Fx κ A D K base cc own nL) : ∀ w ∈ WSg, w.before κ.2.2.2.2.1 κ.2.2.1 = true := F.2.2.2.2.1
theorem Fx.ev (F : Fx κ A D K base cc own nL) : EV D K base κ.2.2.1 := F.2.2.2.2.2.1
theorem Fx.ab (F : Fx κ A D K base cc own nL) : ∀ q, A q → base ≤ q := F.2.2.2.2.2.2.1
theorem Fx.an (F : Fx κ A D K base cc own nL) : ∀ q, κ.2.2.1.heap.size ≤ q → A q := F.2.2.2.2.2.2.2.1
theorem Fx.lk (F : Fx κ A D K base cc own nL) : κ.2.2.2.2.2.2.1.locks = false := F.2.2.2.2.2.2.2.2.1
theorem Fx.bs (F : Fx κ A D K base cc own nL) : base ≤ κ.2.2.1.heap.size := F.2.2.2.2.2.2.2.2.2

theorem G.iconst {n : Int} (v : Int32) (F : Fx κ A D K base cc own nL) (hd : decode cc pc = .ok (.iconst n, 1)) (hv : Int32.ofInt n = v) (kk : G κ l R A Q D nL cells slots σ (pc + 1) L (.int v :: S)) : G κ l R A Q D nL cells slots σ (pc) L (S) :=
  fun H locs ls hP hD hS hl => lv_iconst F.ex F.hb hd hv (kk H locs ls hP hD hS hl)
theorem G.bipush {n : Int} (v : Int32) (F : Fx κ A D K base cc own nL) (hd : decode cc pc = .ok (.bipush n, 2)) (hv : (Int8.ofInt n).toInt32 = v) (kk : G κ l R A Q D nL cells slots σ (pc + 2) L (.int v :: S)) : G κ l R A Q D nL cells slots σ (pc) L (S) :=
  fun H locs ls hP hD hS hl => lv_bipush F.ex F.hb hd hv (kk H locs ls hP hD hS hl)
theorem G.sipush {n : Int} (v : Int32) (F : Fx κ A D K base cc own nL) (hd : decode cc pc = .ok (.sipush n, 3)) (hv : (Int16.ofInt n).toInt32 = v) (kk : G κ l R A Q D nL cells slots σ (pc + 3) L (.int v :: S)) : G κ l R A Q D nL cells slots σ (pc) L (S) :=
  fun H locs ls hP hD hS hl => lv_sipush F.ex F.hb hd hv (kk H locs ls hP hD hS hl)
theorem G.lconst {n : Fin 2} (v : Int64) (F : Fx κ A D K base cc own nL) (hd : decode cc pc = .ok (.lconst n, 1)) (hv : Int64.ofNat (n : Nat) = v) (kk : G κ l R A Q D nL cells slots σ (pc + 1) L (.long v :: S)) : G κ l R A Q D nL cells slots σ (pc) L (S) :=
  fun H locs ls hP hD hS hl => lv_lconst F.ex F.hb hd hv (kk H locs ls hP hD hS hl)
theorem G.iload_n {k : Fin 4} {i : Nat} {x : Int32} (q : Nat) (F : Fx κ A D K base cc own nL) (hd : decode cc pc = .ok (.iload_n k, 1)) (hi : (k : Nat) = i) (hq : L[q]? = some (i, .int x)) (kk : G κ l R A Q D nL cells slots σ (pc + 1) L (.int x :: S)) : G κ l R A Q D nL cells slots σ (pc) L (S) :=
  fun H locs ls hP hD hS hl => lv_iload_n F.ex F.hb hd hi (lv_at hl q hq) (kk H locs ls hP hD hS hl)
theorem G.iload {i : Nat} {x : Int32} (q : Nat) (F : Fx κ A D K base cc own nL) (hd : decode cc pc = .ok (.iload i, 2)) (hq : L[q]? = some (i, .int x)) (kk : G κ l R A Q D nL cells slots σ (pc + 2) L (.int x :: S)) : G κ l R A Q D nL cells slots σ (pc) L (S) :=
  fun H locs ls hP hD hS hl => lv_iload F.ex F.hb hd (lv_at hl q hq) (kk H locs ls hP hD hS hl)
theorem G.aload_n {k : Fin 4} {i : Nat} {x : Nat} (q : Nat) (F : Fx κ A D K base cc own nL) (hd : decode cc pc = .ok (.aload_n k, 1)) (hi : (k : Nat) = i) (hq : L[q]? = some (i, .ref x)) (kk : G κ l R A Q D nL cells slots σ (pc + 1) L (.ref x :: S)) : G κ l R A Q D nL cells slots σ (pc) L (S) :=
  fun H locs ls hP hD hS hl => lv_aload_n F.ex F.hb hd hi (lv_at hl q hq) (kk H locs ls hP hD hS hl)
theorem G.aload {i : Nat} {x : Nat} (q : Nat) (F : Fx κ A D K base cc own nL) (hd : decode cc pc = .ok (.aload i, 2)) (hq : L[q]? = some (i, .ref x)) (kk : G κ l R A Q D nL cells slots σ (pc + 2) L (.ref x :: S)) : G κ l R A Q D nL cells slots σ (pc) L (S) :=
  fun H locs ls hP hD hS hl => lv_aload F.ex F.hb hd (lv_at hl q hq) (kk H locs ls hP hD hS hl)
theorem lv_set1 {ls : Array Slot} {nL : Nat} {L : List (Nat × Value)} {i q : Nat} {v w : Value} (hq : L[q]? = some (i, w)) (hn : (L.map (·.1)).Nodup) (h : lv_has ls nL ((i, v) :: L.filter (fun q => !(q.1 == i) && !(q.1 + 1 == i && q.2.category == 2)))) (h1 : ∀ z ∈ L, z.2.category = 1) : lv_has ls nL (L.set q (i, v)) := by
  refine ⟨h.1, h.2.1, fun z hz => ?_⟩
  refine h.2.2 z ?_
  obtain ⟨j, hj⟩ := List.getElem?_of_mem hz
  have hql := (List.getElem?_eq_some_iff.mp hq).1
  by_cases hjq : j = q
  · subst hjq
    rw [List.getElem?_set_self hql] at hj
    cases hj
    exact List.mem_cons_self
  · rw [List.getElem?_set_ne (Ne.symm hjq)] at hj
    refine List.mem_cons_of_mem _ (List.mem_filter.mpr ⟨List.mem_of_getElem? hj, ?_⟩)
    have hne : z.1 ≠ i := by
      intro e
      have a1 : (L.map (·.1))[j]? = some i := by rw [List.getElem?_map, hj]; simp [e]
      have a2 : (L.map (·.1))[q]? = some i := by rw [List.getElem?_map, hq]; rfl
      have hjl : j < (L.map (·.1)).length := (List.getElem?_eq_some_iff.mp a1).1
      exact hjq ((List.getElem?_inj hjl hn).mp (a1.trans a2.symm))
    have hc := h1 z (List.mem_of_getElem? hj)
    simp [hne, hc]
theorem lv_new1 {ls : Array Slot} {nL : Nat} {L : List (Nat × Value)} {i : Nat} {v : Value} (hn : ∀ z ∈ L, z.1 ≠ i) (h : lv_has ls nL ((i, v) :: L.filter (fun q => !(q.1 == i) && !(q.1 + 1 == i && q.2.category == 2)))) (h1 : ∀ z ∈ L, z.2.category = 1) : lv_has ls nL ((i, v) :: L) := by
  refine ⟨h.1, h.2.1, fun z hz => h.2.2 z ?_⟩
  rcases List.mem_cons.mp hz with rfl | hz
  · exact List.mem_cons_self
  · refine List.mem_cons_of_mem _ (List.mem_filter.mpr ⟨hz, ?_⟩)
    simp [hn z hz, h1 z hz]
/-- locals' places are apart and hold one word each -/
def okL (L : List (Nat × Value)) : Prop := (L.map (·.1)).Nodup ∧ ∀ z ∈ L, z.2.category = 1
def okB : List (Nat × Value) → Bool
  | [] => true
  | z :: L => !(L.any (fun y => y.1 == z.1)) && okB L && (z.2.category == 1)
theorem okB_ok : ∀ {L : List (Nat × Value)}, okB L = true → okL L
  | [], _ => ⟨List.nodup_nil, fun _ h => by cases h⟩
  | z :: L, h => by
    simp only [okB, Bool.and_eq_true, Bool.not_eq_true', List.any_eq_false, beq_iff_eq] at h
    obtain ⟨⟨h1, h2⟩, h3⟩ := h
    obtain ⟨g1, g2⟩ := okB_ok h2
    refine ⟨?_, fun y hy => ?_⟩
    · rw [List.map_cons, List.nodup_cons]
      refine ⟨fun hm => ?_, g1⟩
      obtain ⟨y, hy, e⟩ := List.mem_map.mp hm
      exact h1 y hy e
    · rcases List.mem_cons.mp hy with rfl | hy
      · exact h3
      · exact g2 y hy

theorem G.istore_n {k : Fin 4} {i : Nat} {x : Int32} {w : Value} (q : Nat) (F : Fx κ A D K base cc own nL) (hd : decode cc pc = .ok (.istore_n k, 1)) (hi : (k : Nat) = i) (hq : L[q]? = some (i, w)) (hn : i < nL) (hk : okB L = true) (kk : G κ l R A Q D nL cells slots σ (pc + 1) (L.set q (i, .int x)) (S)) : G κ l R A Q D nL cells slots σ (pc) L (.int x :: S) :=
  fun H locs ls hP hD hS hl => lv_istore_n F.ex F.hb hd hi hl hn rfl (fun ls9 h9 => kk H locs ls9 hP hD hS (lv_set1 hq (okB_ok hk).1 h9 (okB_ok hk).2))
theorem G.istore_nN {k : Fin 4} {i : Nat} {x : Int32} (F : Fx κ A D K base cc own nL) (hd : decode cc pc = .ok (.istore_n k, 1)) (hi : (k : Nat) = i) (hn : i < nL) (hk : okB ((i, .int x) :: L) = true) (kk : G κ l R A Q D nL cells slots σ (pc + 1) ((i, .int x) :: L) (S)) : G κ l R A Q D nL cells slots σ (pc) L (.int x :: S) :=
  fun H locs ls hP hD hS hl => lv_istore_n F.ex F.hb hd hi hl hn rfl (fun ls9 h9 => kk H locs ls9 hP hD hS (lv_new1 (fun z hz e => by have := (List.nodup_cons.mp (okB_ok hk).1).1; exact this (List.mem_map.mpr ⟨z, hz, e⟩)) h9 (fun z hz => (okB_ok hk).2 z (List.mem_cons_of_mem _ hz))))
theorem G.istore {i : Nat} {x : Int32} {w : Value} (q : Nat) (F : Fx κ A D K base cc own nL) (hd : decode cc pc = .ok (.istore i, 2)) (hq : L[q]? = some (i, w)) (hn : i < nL) (hk : okB L = true) (kk : G κ l R A Q D nL cells slots σ (pc + 2) (L.set q (i, .int x)) (S)) : G κ l R A Q D nL cells slots σ (pc) L (.int x :: S) :=
  fun H locs ls hP hD hS hl => lv_istore F.ex F.hb hd hl hn rfl (fun ls9 h9 => kk H locs ls9 hP hD hS (lv_set1 hq (okB_ok hk).1 h9 (okB_ok hk).2))
theorem G.istoreN {i : Nat} {x : Int32} (F : Fx κ A D K base cc own nL) (hd : decode cc pc = .ok (.istore i, 2)) (hn : i < nL) (hk : okB ((i, .int x) :: L) = true) (kk : G κ l R A Q D nL cells slots σ (pc + 2) ((i, .int x) :: L) (S)) : G κ l R A Q D nL cells slots σ (pc) L (.int x :: S) :=
  fun H locs ls hP hD hS hl => lv_istore F.ex F.hb hd hl hn rfl (fun ls9 h9 => kk H locs ls9 hP hD hS (lv_new1 (fun z hz e => by have := (List.nodup_cons.mp (okB_ok hk).1).1; exact this (List.mem_map.mpr ⟨z, hz, e⟩)) h9 (fun z hz => (okB_ok hk).2 z (List.mem_cons_of_mem _ hz))))
theorem G.astore_n {k : Fin 4} {i : Nat} {x : Nat} {w : Value} (q : Nat) (F : Fx κ A D K base cc own nL) (hd : decode cc pc = .ok (.astore_n k, 1)) (hi : (k : Nat) = i) (hq : L[q]? = some (i, w)) (hn : i < nL) (hk : okB L = true) (kk : G κ l R A Q D nL cells slots σ (pc + 1) (L.set q (i, .ref x)) (S)) : G κ l R A Q D nL cells slots σ (pc) L (.ref x :: S) :=
  fun H locs ls hP hD hS hl => lv_astore_n F.ex F.hb hd hi hl hn rfl (fun ls9 h9 => kk H locs ls9 hP hD hS (lv_set1 hq (okB_ok hk).1 h9 (okB_ok hk).2))
theorem G.astore_nN {k : Fin 4} {i : Nat} {x : Nat} (F : Fx κ A D K base cc own nL) (hd : decode cc pc = .ok (.astore_n k, 1)) (hi : (k : Nat) = i) (hn : i < nL) (hk : okB ((i, .ref x) :: L) = true) (kk : G κ l R A Q D nL cells slots σ (pc + 1) ((i, .ref x) :: L) (S)) : G κ l R A Q D nL cells slots σ (pc) L (.ref x :: S) :=
  fun H locs ls hP hD hS hl => lv_astore_n F.ex F.hb hd hi hl hn rfl (fun ls9 h9 => kk H locs ls9 hP hD hS (lv_new1 (fun z hz e => by have := (List.nodup_cons.mp (okB_ok hk).1).1; exact this (List.mem_map.mpr ⟨z, hz, e⟩)) h9 (fun z hz => (okB_ok hk).2 z (List.mem_cons_of_mem _ hz))))
theorem G.astore {i : Nat} {x : Nat} {w : Value} (q : Nat) (F : Fx κ A D K base cc own nL) (hd : decode cc pc = .ok (.astore i, 2)) (hq : L[q]? = some (i, w)) (hn : i < nL) (hk : okB L = true) (kk : G κ l R A Q D nL cells slots σ (pc + 2) (L.set q (i, .ref x)) (S)) : G κ l R A Q D nL cells slots σ (pc) L (.ref x :: S) :=
  fun H locs ls hP hD hS hl => lv_astore F.ex F.hb hd hl hn rfl (fun ls9 h9 => kk H locs ls9 hP hD hS (lv_set1 hq (okB_ok hk).1 h9 (okB_ok hk).2))
theorem G.astoreN {i : Nat} {x : Nat} (F : Fx κ A D K base cc own nL) (hd : decode cc pc = .ok (.astore i, 2)) (hn : i < nL) (hk : okB ((i, .ref x) :: L) = true) (kk : G κ l R A Q D nL cells slots σ (pc + 2) ((i, .ref x) :: L) (S)) : G κ l R A Q D nL cells slots σ (pc) L (.ref x :: S) :=
  fun H locs ls hP hD hS hl => lv_astore F.ex F.hb hd hl hn rfl (fun ls9 h9 => kk H locs ls9 hP hD hS (lv_new1 (fun z hz e => by have := (List.nodup_cons.mp (okB_ok hk).1).1; exact this (List.mem_map.mpr ⟨z, hz, e⟩)) h9 (fun z hz => (okB_ok hk).2 z (List.mem_cons_of_mem _ hz))))
theorem G.iinc {i : Nat} {n : Int} {x : Int32} (q : Nat) (v : Int32) (F : Fx κ A D K base cc own nL) (hd : decode cc pc = .ok (.iinc i n, 3)) (hq : L[q]? = some (i, .int x)) (hv : x + Int32.ofInt n = v) (hn : i < nL) (hk : okB L = true) (kk : G κ l R A Q D nL cells slots σ (pc + 3) (L.set q (i, .int v)) (S)) : G κ l R A Q D nL cells slots σ (pc) L (S) :=
  fun H locs ls hP hD hS hl => lv_iinc F.ex F.hb hd hl hq hv hn rfl (fun ls9 h9 => kk H locs ls9 hP hD hS (lv_set1 hq (okB_ok hk).1 h9 (okB_ok hk).2))
theorem G.iadd {x y : Int32} (F : Fx κ A D K base cc own nL) (hd : decode cc pc = .ok (.iadd, 1)) (kk : G κ l R A Q D nL cells slots σ (pc + 1) L (.int (x + y) :: S)) : G κ l R A Q D nL cells slots σ (pc) L (.int y :: .int x :: S) :=
  fun H locs ls hP hD hS hl => lv_iadd F.ex F.hb hd (kk H locs ls hP hD hS hl)
theorem G.isub {x y : Int32} (F : Fx κ A D K base cc own nL) (hd : decode cc pc = .ok (.isub, 1)) (kk : G κ l R A Q D nL cells slots σ (pc + 1) L (.int (x - y) :: S)) : G κ l R A Q D nL cells slots σ (pc) L (.int y :: .int x :: S) :=
  fun H locs ls hP hD hS hl => lv_isub F.ex F.hb hd (kk H locs ls hP hD hS hl)
theorem G.imul {x y : Int32} (F : Fx κ A D K base cc own nL) (hd : decode cc pc = .ok (.imul, 1)) (kk : G κ l R A Q D nL cells slots σ (pc + 1) L (.int (x * y) :: S)) : G κ l R A Q D nL cells slots σ (pc) L (.int y :: .int x :: S) :=
  fun H locs ls hP hD hS hl => lv_imul F.ex F.hb hd (kk H locs ls hP hD hS hl)
theorem G.iand {x y : Int32} (F : Fx κ A D K base cc own nL) (hd : decode cc pc = .ok (.iand, 1)) (kk : G κ l R A Q D nL cells slots σ (pc + 1) L (.int (x &&& y) :: S)) : G κ l R A Q D nL cells slots σ (pc) L (.int y :: .int x :: S) :=
  fun H locs ls hP hD hS hl => lv_iand F.ex F.hb hd (kk H locs ls hP hD hS hl)
theorem G.i2l {x : Int32} (F : Fx κ A D K base cc own nL) (hd : decode cc pc = .ok (.i2l, 1)) (kk : G κ l R A Q D nL cells slots σ (pc + 1) L (.long x.toInt64 :: S)) : G κ l R A Q D nL cells slots σ (pc) L (.int x :: S) :=
  fun H locs ls hP hD hS hl => lv_i2l F.ex F.hb hd rfl (kk H locs ls hP hD hS hl)
theorem G.lcmp {x y : Int64} (F : Fx κ A D K base cc own nL) (hd : decode cc pc = .ok (.lcmp, 1)) (kk : G κ l R A Q D nL cells slots σ (pc + 1) L (.int (lg_cmp x y) :: S)) : G κ l R A Q D nL cells slots σ (pc) L (.long y :: .long x :: S) :=
  fun H locs ls hP hD hS hl => W.lcmp F.ex F.hb hd (kk H locs ls hP hD hS hl)
theorem G.dup {a : Value} (F : Fx κ A D K base cc own nL) (hd : decode cc pc = .ok (.dup, 1)) (ha : a.category = 1) (kk : G κ l R A Q D nL cells slots σ (pc + 1) L (a :: a :: S)) : G κ l R A Q D nL cells slots σ (pc) L (a :: S) :=
  fun H locs ls hP hD hS hl => lv_dup F.ex F.hb hd ha (kk H locs ls hP hD hS hl)
theorem G.dup2 {a b : Value} (F : Fx κ A D K base cc own nL) (hd : decode cc pc = .ok (.dup2, 1)) (ha : a.category = 1) (hb : b.category = 1) (kk : G κ l R A Q D nL cells slots σ (pc + 1) L (a :: b :: a :: b :: S)) : G κ l R A Q D nL cells slots σ (pc) L (a :: b :: S) :=
  fun H locs ls hP hD hS hl => lv_dup2_11 F.ex F.hb hd ha hb (kk H locs ls hP hD hS hl)
theorem G.pop {a : Value} (F : Fx κ A D K base cc own nL) (hd : decode cc pc = .ok (.pop, 1)) (ha : a.category = 1) (kk : G κ l R A Q D nL cells slots σ (pc + 1) L (S)) : G κ l R A Q D nL cells slots σ (pc) L (a :: S) :=
  fun H locs ls hP hD hS hl => lv_pop F.ex F.hb hd ha (kk H locs ls hP hD hS hl)
theorem G.goto {off : Int} (tgt : Nat) (F : Fx κ A D K base cc own nL) (hd : decode cc pc = .ok (.goto off, 3)) (ht : (pc : Int) + off = (tgt : Int)) (kk : G κ l R A Q D nL cells slots σ (tgt) L (S)) : G κ l R A Q D nL cells slots σ (pc) L (S) :=
  fun H locs ls hP hD hS hl => lv_goto F.ex F.hb hd ht (kk H locs ls hP hD hS hl)
theorem G.icmp_eq {x y : Int32} {off : Int} (tgt : Nat) (F : Fx κ A D K base cc own nL) (hd : decode cc pc = .ok (.if_icmp .eq off, 3)) (ht : (pc : Int) + off = (tgt : Int)) (kt : x = y → G κ l R A Q D nL cells slots σ (tgt) L (S)) (kf : ¬ x = y → G κ l R A Q D nL cells slots σ (pc + 3) L (S)) : G κ l R A Q D nL cells slots σ (pc) L (.int y :: .int x :: S) :=
  fun H locs ls hP hD hS hl => lv_icmp_eq F.ex F.hb hd ht (fun h => kt h H locs ls hP hD hS hl) (fun h => kf h H locs ls hP hD hS hl)
theorem G.if_eq {x : Int32} {off : Int} (tgt : Nat) (F : Fx κ A D K base cc own nL) (hd : decode cc pc = .ok (.ifCond .eq off, 3)) (ht : (pc : Int) + off = (tgt : Int)) (kt : x = 0 → G κ l R A Q D nL cells slots σ (tgt) L (S)) (kf : ¬ x = 0 → G κ l R A Q D nL cells slots σ (pc + 3) L (S)) : G κ l R A Q D nL cells slots σ (pc) L (.int x :: S) :=
  fun H locs ls hP hD hS hl => lv_if_eq F.ex F.hb hd ht (fun h => kt h H locs ls hP hD hS hl) (fun h => kf h H locs ls hP hD hS hl)
theorem G.icmp_ne {x y : Int32} {off : Int} (tgt : Nat) (F : Fx κ A D K base cc own nL) (hd : decode cc pc = .ok (.if_icmp .ne off, 3)) (ht : (pc : Int) + off = (tgt : Int)) (kt : ¬ x = y → G κ l R A Q D nL cells slots σ (tgt) L (S)) (kf : x = y → G κ l R A Q D nL cells slots σ (pc + 3) L (S)) : G κ l R A Q D nL cells slots σ (pc) L (.int y :: .int x :: S) :=
  fun H locs ls hP hD hS hl => lv_icmp_ne F.ex F.hb hd ht (fun h => kt h H locs ls hP hD hS hl) (fun h => kf h H locs ls hP hD hS hl)
theorem G.if_ne {x : Int32} {off : Int} (tgt : Nat) (F : Fx κ A D K base cc own nL) (hd : decode cc pc = .ok (.ifCond .ne off, 3)) (ht : (pc : Int) + off = (tgt : Int)) (kt : ¬ x = 0 → G κ l R A Q D nL cells slots σ (tgt) L (S)) (kf : x = 0 → G κ l R A Q D nL cells slots σ (pc + 3) L (S)) : G κ l R A Q D nL cells slots σ (pc) L (.int x :: S) :=
  fun H locs ls hP hD hS hl => lv_if_ne F.ex F.hb hd ht (fun h => kt h H locs ls hP hD hS hl) (fun h => kf h H locs ls hP hD hS hl)
theorem G.icmp_lt {x y : Int32} {off : Int} (tgt : Nat) (F : Fx κ A D K base cc own nL) (hd : decode cc pc = .ok (.if_icmp .lt off, 3)) (ht : (pc : Int) + off = (tgt : Int)) (kt : x < y → G κ l R A Q D nL cells slots σ (tgt) L (S)) (kf : ¬ x < y → G κ l R A Q D nL cells slots σ (pc + 3) L (S)) : G κ l R A Q D nL cells slots σ (pc) L (.int y :: .int x :: S) :=
  fun H locs ls hP hD hS hl => lv_icmp_lt F.ex F.hb hd ht (fun h => kt h H locs ls hP hD hS hl) (fun h => kf h H locs ls hP hD hS hl)
theorem G.if_lt {x : Int32} {off : Int} (tgt : Nat) (F : Fx κ A D K base cc own nL) (hd : decode cc pc = .ok (.ifCond .lt off, 3)) (ht : (pc : Int) + off = (tgt : Int)) (kt : x < 0 → G κ l R A Q D nL cells slots σ (tgt) L (S)) (kf : ¬ x < 0 → G κ l R A Q D nL cells slots σ (pc + 3) L (S)) : G κ l R A Q D nL cells slots σ (pc) L (.int x :: S) :=
  fun H locs ls hP hD hS hl => lv_if_lt F.ex F.hb hd ht (fun h => kt h H locs ls hP hD hS hl) (fun h => kf h H locs ls hP hD hS hl)
theorem G.icmp_ge {x y : Int32} {off : Int} (tgt : Nat) (F : Fx κ A D K base cc own nL) (hd : decode cc pc = .ok (.if_icmp .ge off, 3)) (ht : (pc : Int) + off = (tgt : Int)) (kt : y ≤ x → G κ l R A Q D nL cells slots σ (tgt) L (S)) (kf : ¬ y ≤ x → G κ l R A Q D nL cells slots σ (pc + 3) L (S)) : G κ l R A Q D nL cells slots σ (pc) L (.int y :: .int x :: S) :=
  fun H locs ls hP hD hS hl => lv_icmp_ge F.ex F.hb hd ht (fun h => kt h H locs ls hP hD hS hl) (fun h => kf h H locs ls hP hD hS hl)
theorem G.if_ge {x : Int32} {off : Int} (tgt : Nat) (F : Fx κ A D K base cc own nL) (hd : decode cc pc = .ok (.ifCond .ge off, 3)) (ht : (pc : Int) + off = (tgt : Int)) (kt : 0 ≤ x → G κ l R A Q D nL cells slots σ (tgt) L (S)) (kf : ¬ 0 ≤ x → G κ l R A Q D nL cells slots σ (pc + 3) L (S)) : G κ l R A Q D nL cells slots σ (pc) L (.int x :: S) :=
  fun H locs ls hP hD hS hl => lv_if_ge F.ex F.hb hd ht (fun h => kt h H locs ls hP hD hS hl) (fun h => kf h H locs ls hP hD hS hl)
theorem G.icmp_gt {x y : Int32} {off : Int} (tgt : Nat) (F : Fx κ A D K base cc own nL) (hd : decode cc pc = .ok (.if_icmp .gt off, 3)) (ht : (pc : Int) + off = (tgt : Int)) (kt : y < x → G κ l R A Q D nL cells slots σ (tgt) L (S)) (kf : ¬ y < x → G κ l R A Q D nL cells slots σ (pc + 3) L (S)) : G κ l R A Q D nL cells slots σ (pc) L (.int y :: .int x :: S) :=
  fun H locs ls hP hD hS hl => lv_icmp_gt F.ex F.hb hd ht (fun h => kt h H locs ls hP hD hS hl) (fun h => kf h H locs ls hP hD hS hl)
theorem G.if_gt {x : Int32} {off : Int} (tgt : Nat) (F : Fx κ A D K base cc own nL) (hd : decode cc pc = .ok (.ifCond .gt off, 3)) (ht : (pc : Int) + off = (tgt : Int)) (kt : 0 < x → G κ l R A Q D nL cells slots σ (tgt) L (S)) (kf : ¬ 0 < x → G κ l R A Q D nL cells slots σ (pc + 3) L (S)) : G κ l R A Q D nL cells slots σ (pc) L (.int x :: S) :=
  fun H locs ls hP hD hS hl => lv_if_gt F.ex F.hb hd ht (fun h => kt h H locs ls hP hD hS hl) (fun h => kf h H locs ls hP hD hS hl)
theorem G.icmp_le {x y : Int32} {off : Int} (tgt : Nat) (F : Fx κ A D K base cc own nL) (hd : decode cc pc = .ok (.if_icmp .le off, 3)) (ht : (pc : Int) + off = (tgt : Int)) (kt : x ≤ y → G κ l R A Q D nL cells slots σ (tgt) L (S)) (kf : ¬ x ≤ y → G κ l R A Q D nL cells slots σ (pc + 3) L (S)) : G κ l R A Q D nL cells slots σ (pc) L (.int y :: .int x :: S) :=
  fun H locs ls hP hD hS hl => lv_icmp_le F.ex F.hb hd ht (fun h => kt h H locs ls hP hD hS hl) (fun h => kf h H locs ls hP hD hS hl)
theorem G.if_le {x : Int32} {off : Int} (tgt : Nat) (F : Fx κ A D K base cc own nL) (hd : decode cc pc = .ok (.ifCond .le off, 3)) (ht : (pc : Int) + off = (tgt : Int)) (kt : x ≤ 0 → G κ l R A Q D nL cells slots σ (tgt) L (S)) (kf : ¬ x ≤ 0 → G κ l R A Q D nL cells slots σ (pc + 3) L (S)) : G κ l R A Q D nL cells slots σ (pc) L (.int x :: S) :=
  fun H locs ls hP hD hS hl => lv_if_le F.ex F.hb hd ht (fun h => kt h H locs ls hP hD hS hl) (fun h => kf h H locs ls hP hD hS hl)
theorem G.tabIn {dflt lo hi : Int} {offs : Array Int} {len : Nat} {x : Int32} {off : Int} (tgt : Nat) (F : Fx κ A D K base cc own nL) (hd : decode cc pc = .ok (.tableswitch dflt lo hi offs, len)) (h1 : ¬ x.toInt < lo) (h2 : ¬ hi < x.toInt) (ho : offs[(x.toInt - lo).toNat]? = some off) (ht : (pc : Int) + off = (tgt : Int)) (kk : G κ l R A Q D nL cells slots σ (tgt) L (S)) : G κ l R A Q D nL cells slots σ (pc) L (.int x :: S) :=
  fun H locs ls hP hD hS hl => lv_tableIn F.ex F.hb hd h1 h2 ho ht (kk H locs ls hP hD hS hl)
theorem G.tabOut {dflt lo hi : Int} {offs : Array Int} {len : Nat} {x : Int32} (tgt : Nat) (F : Fx κ A D K base cc own nL) (hd : decode cc pc = .ok (.tableswitch dflt lo hi offs, len)) (h : x.toInt < lo ∨ hi < x.toInt) (ht : (pc : Int) + dflt = (tgt : Int)) (kk : G κ l R A Q D nL cells slots σ (tgt) L (S)) : G κ l R A Q D nL cells slots σ (pc) L (.int x :: S) :=
  fun H locs ls hP hD hS hl => lv_tableOut F.ex F.hb hd h ht (kk H locs ls hP hD hS hl)
theorem G.look {dflt : Int} {ps : Array (Int × Int)} {len : Nat} {x : Int32} {off : Int} (tgt : Nat) (F : Fx κ A D K base cc own nL) (hd : decode cc pc = .ok (.lookupswitch dflt ps, len)) (hp : (ps.toList.zip (ps.toList.drop 1)).all (fun (a, next) => a.1 < next.1) = true) (ho : Op.lookupswitch.offset ps.toList dflt x.toInt = off) (ht : (pc : Int) + off = (tgt : Int)) (kk : G κ l R A Q D nL cells slots σ (tgt) L (S)) : G κ l R A Q D nL cells slots σ (pc) L (.int x :: S) :=
  fun H locs ls hP hD hS hl => lv_lookup F.ex F.hb hd hp ho ht (kk H locs ls hP hD hS hl)
/-- the same state by another name -/
theorem G.st {σ' : va_W} (h : σ' = σ) (kk : G κ l R A Q D nL cells slots σ' pc L S) : G κ l R A Q D nL cells slots σ pc L S := h ▸ kk
theorem G.widen {k n : Nat} (h1 : cells ≤ k) (h2 : slots ≤ n) (kk : G κ l R A Q D nL k n σ pc L S) : G κ l R A Q D nL cells slots σ pc L S :=
  fun H locs ls hP hD hS hl => W.widen h1 h2 (kk H locs ls hP hD hS hl)
/-- fewer locals are known -/
theorem G.loc {L' : List (Nat × Value)} (h : ∀ z ∈ L', z ∈ L) (kk : G κ l R A Q D nL cells slots σ pc L' S) : G κ l R A Q D nL cells slots σ pc L S :=
  fun H locs ls hP hD hS hl => kk H locs ls hP hD hS ⟨hl.1, hl.2.1, fun q hq => hl.2.2 q (h q hq)⟩
theorem G.drop {z : Nat × Value} (kk : G κ l R A Q D nL cells slots σ pc L S) : G κ l R A Q D nL cells slots σ pc (z :: L) S := G.loc (fun y hy => List.mem_cons_of_mem _ hy) kk
/-- the number on top by another name -/
theorem G.tope {x : Int32} (y : Int32) (h : x = y) (kk : G κ l R A Q D nL cells slots σ pc L (.int y :: S)) : G κ l R A Q D nL cells slots σ pc L (.int x :: S) := h ▸ kk
end GR
-- ===== fields, arrays =====
section GF
variable {κ : KM} {l : Launch} {R : Room} {A : Nat → Prop} {Q : State → Prop} {D : va_G} {K : Nat → ClassId} {base : Nat} {cc : ByteArray} {own : String} {nL cells slots pc : Nat} {σ : va_W} {L : List (Nat × Value)} {S : List Value}
theorem G.getf {ci k N idx a : Nat} {C : String} {T : u_T} {fs : List Value} {v : Value} (q0 : Nat) (F : Fx κ A D K base cc own nL) (he : σ[q0]? = some (a, .inr (ci, fs))) (hc : cl4[ci]? = some (C, T, N)) (hin : ∀ w ∈ u_ws C T N, w ∈ WSg) (hk : k < N) (ho : (T k).1 = C) (hl : FL own idx C (T k).2.1 (T k).2.2.1) (hv : fs[k]? = some v) (hd : decode cc pc = .ok (.getfield idx, 3))
    (kk : G κ l R A Q D nL cells slots σ (pc + 3) L (v :: S)) : G κ l R A Q D nL cells slots σ pc L (.ref a :: S) := by
  intro H locs ls hP hD hS hl9
  rcases hl with hl | ⟨host, hl⟩
  · exact va_get F.ex F.hb F.ts hin F.ow F.ev.1 hP q0 he hc k hk (F.ts _ hl) (fun x hx => by rw [ho] at hx; exact hx) hv hd (kk H locs ls hP hD hS hl9)
  · exact va_getN F.ex F.hb F.ts hin F.ow F.ev.1 hP q0 he hc k hk (va_Nw.use rfl (F.ev.2.1 _ hl)) (fun x hx => by rw [ho] at hx; exact hx) hv hd (kk H locs ls hP hD hS hl9)
theorem G.putf {ci k N idx a : Nat} {C : String} {T : u_T} {fs : List Value} {v : Value} {ty : FieldType} {σ' : va_W} (ty0 : Nat → FieldType) (q0 : Nat) (F : Fx κ A D K base cc own nL) (hty : ∀ k, k < N → parseFieldDescriptor (T k).2.2.1 = some (ty0 k)) (hnm : ∀ a, a < N → ∀ b, b < N → a ≠ b → (T a).2.1 ≠ (T b).2.1) (he : σ[q0]? = some (a, .inr (ci, fs))) (hc : cl4[ci]? = some (C, T, N)) (hin : ∀ w ∈ u_ws C T N, w ∈ WSg) (hk : k < N) (ho : (T k).1 = C) (hl : FL own idx C (T k).2.1 (T k).2.2.1) (hfin : (T k).2.2.2 = false) (hd0 : ty0 k = ty) (hn : narrow ty v = v) (hfit : fits ty v = true) (hlen : k < fs.length) (hd : decode cc pc = .ok (.putfield idx, 3)) (hσ : σ.set q0 (a, .inr (ci, fs.set k v)) = σ')
    (kk : G κ l R A Q D nL cells slots σ' (pc + 3) L S) : G κ l R A Q D nL cells slots σ pc L (v :: .ref a :: S) := by
  intro H locs ls hP hD hS hl9
  have hd1 : parseFieldDescriptor (T k).2.2.1 = some ty := by rw [hty k hk, hd0]
  rcases hl with hl | ⟨host, hl⟩
  · refine va_put F.ex F.hb F.ts hin ty0 hty hnm F.ow F.ev.1 hP hD hS q0 he hc k hk (F.ts _ hl) (fun x hx => by rw [ho] at hx; exact hx) hfin hd1 hn hfit hlen hd (fun H1 locs1 hP1 hD1 hS1 => ?_)
    rw [hσ] at hP1 hD1
    exact kk H1 locs1 ls hP1 hD1 hS1 hl9
  · refine va_putN F.ex F.hb F.ts hin ty0 hty hnm F.ow F.ev.1 hP hD hS q0 he hc k hk (va_Nw.use rfl (F.ev.2.1 _ hl)) (fun x hx => by rw [ho] at hx; exact hx) hfin hd1 hn hfit hlen hd (fun H1 locs1 hP1 hD1 hS1 => ?_)
    rw [hσ] at hP1 hD1
    exact kk H1 locs1 ls hP1 hD1 hS1 hl9
variable {X : Nat → Nat} {c : CS}
theorem ix_lt {v : Int32} {n : Nat} (h : vp_in v n) : v.toNatClampNeg < n := Nat.not_le.mp fun q => h (Or.inr q)
theorem bF_at {k f : Nat} (h : f < 6) : (bF c k)[f]? = some (.int (c f k)) := by
  rcases (show f = 0 ∨ f = 1 ∨ f = 2 ∨ f = 3 ∨ f = 4 ∨ f = 5 by omega) with rfl | rfl | rfl | rfl | rfl | rfl <;> rfl
theorem wF_at {t f : Nat} (h : f < 16) : (wF c t)[f]? = some (.int (c (6 + f) t)) := by
  rcases (show f = 0 ∨ f = 1 ∨ f = 2 ∨ f = 3 ∨ f = 4 ∨ f = 5 ∨ f = 6 ∨ f = 7 ∨ f = 8 ∨ f = 9 ∨ f = 10 ∨ f = 11 ∨ f = 12 ∨ f = 13 ∨ f = 14 ∨ f = 15 by omega) with rfl | rfl | rfl | rfl | rfl | rfl | rfl | rfl | rfl | rfl | rfl | rfl | rfl | rfl | rfl | rfl <;> rfl
/-- a block's number -/
theorem G.gB {k idx : Nat} (f : Nat) (F : Fx κ A D K base cc own nL) (hk : k < 21) (hf : f < 6) (hl : FL own idx RB (TB f).2.1 (TB f).2.2.1) (hd : decode cc pc = .ok (.getfield idx, 3))
    (kk : G κ l R A Q D nL cells slots (cW X K c) (pc + 3) L (.int (c f k) :: S)) : G κ l R A Q D nL cells slots (cW X K c) pc L (.ref (X (2 + k)) :: S) :=
  G.getf (2 + k) F (cW_b hk) rfl inTB hf (owTB f hf) hl (bF_at hf) hd kk
theorem G.pB {k idx : Nat} {v : Int32} (f : Nat) (F : Fx κ A D K base cc own nL) (hk : k < 21) (hf : f < 6) (hl : FL own idx RB (TB f).2.1 (TB f).2.2.1) (hn : narrow (tyTB f) (.int v) = .int v) (hfit : fits (tyTB f) (.int v) = true) (hd : decode cc pc = .ok (.putfield idx, 3))
    (kk : G κ l R A Q D nL cells slots (cW X K (up2 c f k v)) (pc + 3) L S) : G κ l R A Q D nL cells slots (cW X K c) pc L (.int v :: .ref (X (2 + k)) :: S) :=
  G.putf tyTB (2 + k) F tyTB_ok nmTB (cW_b hk) rfl inTB hf (owTB f hf) hl (fiTB f hf) rfl hn hfit hf hd (cW_setb hk hf) kk
/-- a worker's number -/
theorem G.gT {t idx : Nat} (f g : Nat) (F : Fx κ A D K base cc own nL) (hg : 6 + f = g) (ht : t < 4) (hf : f < 16) (hl : FL own idx RK (TK f).2.1 (TK f).2.2.1) (hd : decode cc pc = .ok (.getfield idx, 3))
    (kk : G κ l R A Q D nL cells slots (cW X K c) (pc + 3) L (.int (c g t) :: S)) : G κ l R A Q D nL cells slots (cW X K c) pc L (.ref (X (24 + t)) :: S) := by
  subst hg
  exact G.getf (24 + t) F (cW_t ht) rfl inTK hf (owTK f hf) hl (wF_at hf) hd kk
theorem G.pT {t idx : Nat} {v : Int32} (f g : Nat) (F : Fx κ A D K base cc own nL) (hg : 6 + f = g) (ht : t < 4) (hf : f < 16) (hf0 : 0 < f) (hl : FL own idx RK (TK f).2.1 (TK f).2.2.1) (hn : narrow (tyTK f) (.int v) = .int v) (hfit : fits (tyTK f) (.int v) = true) (hd : decode cc pc = .ok (.putfield idx, 3))
    (kk : G κ l R A Q D nL cells slots (cW X K (up2 c g t v)) (pc + 3) L S) : G κ l R A Q D nL cells slots (cW X K c) pc L (.int v :: .ref (X (24 + t)) :: S) := by
  subst hg
  exact G.putf tyTK (24 + t) F tyTK_ok nmTK (cW_t ht) rfl inTK hf (owTK f hf) hl (fiTK f hf hf0) rfl hn hfit hf hd (cW_sett ht hf) kk
/-- the list's own numbers and arrays -/
theorem G.gX {idx : Nat} {v : Value} (f : Nat) (F : Fx κ A D K base cc own nL) (hf : f < 5) (hl : FL own idx RS (TS f).2.1 (TS f).2.2.1) (hv : (xF X c)[f]? = some v) (hd : decode cc pc = .ok (.getfield idx, 3))
    (kk : G κ l R A Q D nL cells slots (cW X K c) (pc + 3) L (v :: S)) : G κ l R A Q D nL cells slots (cW X K c) pc L (.ref (X 0) :: S) :=
  G.getf 0 F cW_x rfl inTS hf (owTS f hf) hl hv hd kk
theorem G.pX3 {idx : Nat} {v : Int32} (F : Fx κ A D K base cc own nL) (hl : FL own idx RS (TS 3).2.1 (TS 3).2.2.1) (hd : decode cc pc = .ok (.putfield idx, 3))
    (kk : G κ l R A Q D nL cells slots (cW X K (up2 c 22 1 v)) (pc + 3) L S) : G κ l R A Q D nL cells slots (cW X K c) pc L (.int v :: .ref (X 0) :: S) :=
  G.putf tyTS 0 F tyTS_ok nmTS cW_x rfl inTS (by decide) (owTS 3 (by decide)) hl rfl (ty := .int) rfl rfl rfl (Nat.le_of_ble_eq_true rfl) hd cW_set3 kk
theorem G.pX4 {idx : Nat} {v : Int32} (F : Fx κ A D K base cc own nL) (hl : FL own idx RS (TS 4).2.1 (TS 4).2.2.1) (hd : decode cc pc = .ok (.putfield idx, 3))
    (kk : G κ l R A Q D nL cells slots (cW X K (up2 c 22 2 v)) (pc + 3) L S) : G κ l R A Q D nL cells slots (cW X K c) pc L (.int v :: .ref (X 0) :: S) :=
  G.putf tyTS 0 F tyTS_ok nmTS cW_x rfl inTS (by decide) (owTS 4 (by decide)) hl rfl (ty := .int) rfl rfl rfl (Nat.le_of_ble_eq_true rfl) hd cW_set4 kk
/-- blocks[v], workers[v] -/
theorem G.ldB {v : Int32} (F : Fx κ A D K base cc own nL) (hv : vp_in v 21) (hd : decode cc pc = .ok (.aaload, 1)) (kk : G κ l R A Q D nL cells slots (cW X K c) (pc + 1) L (.ref (X (2 + v.toNatClampNeg)) :: S)) : G κ l R A Q D nL cells slots (cW X K c) pc L (.int v :: .ref (X 1) :: S) :=
  fun H locs ls hP hD hS hl9 => va_aldq F.ex F.hb F.ev.1 hP 1 0 cW_ab rfl hv hd (kk H locs ls hP hD hS hl9)
theorem G.ldT {v : Int32} (F : Fx κ A D K base cc own nL) (hv : vp_in v 4) (hd : decode cc pc = .ok (.aaload, 1)) (kk : G κ l R A Q D nL cells slots (cW X K c) (pc + 1) L (.ref (X (24 + v.toNatClampNeg)) :: S)) : G κ l R A Q D nL cells slots (cW X K c) pc L (.int v :: .ref (X 23) :: S) :=
  fun H locs ls hP hD hS hl9 => va_aldq F.ex F.hb F.ev.1 hP 23 1 cW_aw rfl hv hd (kk H locs ls hP hD hS hl9)
-- ===== the reference =====
variable {Y : Nat → Nat} {m : CS}
theorem mF_at {i : Nat} (h : i < 4) : (mF Y m)[i]? = some (.int (m 20 i)) := by
  rcases (show i = 0 ∨ i = 1 ∨ i = 2 ∨ i = 3 by omega) with rfl | rfl | rfl | rfl <;> rfl
theorem G.gM {idx : Nat} {v : Value} (f : Nat) (F : Fx κ A D K base cc own nL) (hf : f < 24) (hl : FL own idx RM (TM f).2.1 (TM f).2.2.1) (hv : (mF Y m)[f]? = some v) (hd : decode cc pc = .ok (.getfield idx, 3))
    (kk : G κ l R A Q D nL cells slots (mW Y K m) (pc + 3) L (v :: S)) : G κ l R A Q D nL cells slots (mW Y K m) pc L (.ref (Y 0) :: S) :=
  G.getf 0 F mW_m rfl inTM hf (owTM f hf) hl hv hd kk
theorem G.pM {idx : Nat} {v : Int32} (f : Nat) (F : Fx κ A D K base cc own nL) (hf : f < 4) (hl : FL own idx RM (TM f).2.1 (TM f).2.2.1) (hd : decode cc pc = .ok (.putfield idx, 3))
    (kk : G κ l R A Q D nL cells slots (mW Y K (up2 m 20 f v)) (pc + 3) L S) : G κ l R A Q D nL cells slots (mW Y K m) pc L (.int v :: .ref (Y 0) :: S) :=
  G.putf tyTM 0 F tyTM_ok nmTM mW_m rfl inTM (by omega) (owTM f (by omega)) hl (fiTM f hf) (tiTM f hf) rfl rfl (Nat.lt_of_lt_of_le hf (Nat.le_of_ble_eq_true rfl)) hd (mW_setm hf) kk
theorem G.ldM {v : Int32} (f : Nat) (F : Fx κ A D K base cc own nL) (hf : f < 20) (hb : mK K f = K 2) (hv : vp_in v (mlen f)) (hd : decode cc pc = .ok (.iaload, 1)) (kk : G κ l R A Q D nL cells slots (mW Y K m) (pc + 1) L (.int (m f v.toNatClampNeg) :: S)) : G κ l R A Q D nL cells slots (mW Y K m) pc L (.int v :: .ref (Y (1 + f)) :: S) :=
  fun H locs ls hP hD hS hl9 => va_iald F.ex F.hb F.ev.1 hP (1 + f) 2 (mW_a hf) (by rw [hb]; rfl) hv hd (kk H locs ls hP hD hS hl9)
theorem G.ldMz {v : Int32} (f : Nat) (F : Fx κ A D K base cc own nL) (hf : f < 20) (hb : mK K f = K 3) (hv : vp_in v (mlen f)) (hd : decode cc pc = .ok (.baload, 1)) (kk : G κ l R A Q D nL cells slots (mW Y K m) (pc + 1) L (.int (m f v.toNatClampNeg) :: S)) : G κ l R A Q D nL cells slots (mW Y K m) pc L (.int v :: .ref (Y (1 + f)) :: S) :=
  fun H locs ls hP hD hS hl9 => va_zald F.ex F.hb F.ev.1 hP (1 + f) 3 (mW_a hf) (by rw [hb]; rfl) hv hd (kk H locs ls hP hD hS hl9)
theorem G.stM {v x : Int32} (f : Nat) (F : Fx κ A D K base cc own nL) (hf : f < 20) (hb : mK K f = K 2) (hv : vp_in v (mlen f)) (hd : decode cc pc = .ok (.iastore, 1)) (kk : G κ l R A Q D nL cells slots (mW Y K (up2 m f v.toNatClampNeg x)) (pc + 1) L S) : G κ l R A Q D nL cells slots (mW Y K m) pc L (.int x :: .int v :: .ref (Y (1 + f)) :: S) := by
  intro H locs ls hP hD hS hl9
  refine va_iast F.ex F.hb F.ev.1 hP hD hS (1 + f) 2 (mW_a hf) (by rw [hb]; rfl) hv hd (fun H1 locs1 hP1 hD1 hS1 => ?_)
  rw [mW_seta hf] at hP1 hD1
  exact kk H1 locs1 ls hP1 hD1 hS1 hl9
theorem G.stMz {v x : Int32} (f : Nat) (F : Fx κ A D K base cc own nL) (hf : f < 20) (hb : mK K f = K 3) (hx : vp_nar .boolean x = x) (hv : vp_in v (mlen f)) (hd : decode cc pc = .ok (.bastore, 1)) (kk : G κ l R A Q D nL cells slots (mW Y K (up2 m f v.toNatClampNeg x)) (pc + 1) L S) : G κ l R A Q D nL cells slots (mW Y K m) pc L (.int x :: .int v :: .ref (Y (1 + f)) :: S) := by
  intro H locs ls hP hD hS hl9
  refine va_zast F.ex F.hb F.ev.1 hP hD hS (1 + f) 3 (mW_a hf) (by rw [hb]; rfl) hv hd (fun H1 locs1 hP1 hD1 hS1 => ?_)
  rw [hx, mW_seta hf] at hP1 hD1
  exact kk H1 locs1 ls hP1 hD1 hS1 hl9
/-- by a natural number -/
theorem vp_nat {v : Int32} {k n : Nat} (hv : v = nI k) (hk : k < n) (hn : n ≤ 1000) : vp_in v n ∧ v.toNatClampNeg = k := by
  subst hv
  exact ⟨vp_in_nI hk (by omega), nI_clamp (by omega)⟩
theorem G.ldBn {v : Int32} (k : Nat) (F : Fx κ A D K base cc own nL) (hv : v = nI k) (hk : k < 21) (hd : decode cc pc = .ok (.aaload, 1)) (kk : G κ l R A Q D nL cells slots (cW X K c) (pc + 1) L (.ref (X (2 + k)) :: S)) : G κ l R A Q D nL cells slots (cW X K c) pc L (.int v :: .ref (X 1) :: S) := by
  obtain ⟨h1, h2⟩ := vp_nat hv hk (by decide)
  refine G.ldB F h1 hd ?_
  rw [h2]; exact kk
theorem G.ldTn {v : Int32} (k : Nat) (F : Fx κ A D K base cc own nL) (hv : v = nI k) (hk : k < 4) (hd : decode cc pc = .ok (.aaload, 1)) (kk : G κ l R A Q D nL cells slots (cW X K c) (pc + 1) L (.ref (X (24 + k)) :: S)) : G κ l R A Q D nL cells slots (cW X K c) pc L (.int v :: .ref (X 23) :: S) := by
  obtain ⟨h1, h2⟩ := vp_nat hv hk (by decide)
  refine G.ldT F h1 hd ?_
  rw [h2]; exact kk
theorem mlen_le (f : Nat) : mlen f ≤ 1000 := by
  unfold mlen
  split
  · decide
  · split <;> decide
theorem G.ldMn {v : Int32} {k : Nat} (f : Nat) (F : Fx κ A D K base cc own nL) (hf : f < 20) (hb : mK K f = K 2) (hv : v = nI k) (hk : k < mlen f) (hd : decode cc pc = .ok (.iaload, 1)) (kk : G κ l R A Q D nL cells slots (mW Y K m) (pc + 1) L (.int (m f k) :: S)) : G κ l R A Q D nL cells slots (mW Y K m) pc L (.int v :: .ref (Y (1 + f)) :: S) := by
  obtain ⟨h1, h2⟩ := vp_nat hv hk (mlen_le f)
  refine G.ldM f F hf hb h1 hd ?_
  rw [h2]; exact kk
theorem G.stMn {v x : Int32} {k : Nat} (f : Nat) (F : Fx κ A D K base cc own nL) (hf : f < 20) (hb : mK K f = K 2) (hv : v = nI k) (hk : k < mlen f) (hd : decode cc pc = .ok (.iastore, 1)) (kk : G κ l R A Q D nL cells slots (mW Y K (up2 m f k x)) (pc + 1) L S) : G κ l R A Q D nL cells slots (mW Y K m) pc L (.int x :: .int v :: .ref (Y (1 + f)) :: S) := by
  obtain ⟨h1, h2⟩ := vp_nat hv hk (mlen_le f)
  refine G.stM f F hf hb h1 hd ?_
  rw [h2]; exact kk
theorem G.ldMzn {v : Int32} {k : Nat} (f : Nat) (F : Fx κ A D K base cc own nL) (hf : f < 20) (hb : mK K f = K 3) (hv : v = nI k) (hk : k < mlen f) (hd : decode cc pc = .ok (.baload, 1)) (kk : G κ l R A Q D nL cells slots (mW Y K m) (pc + 1) L (.int (m f k) :: S)) : G κ l R A Q D nL cells slots (mW Y K m) pc L (.int v :: .ref (Y (1 + f)) :: S) := by
  obtain ⟨h1, h2⟩ := vp_nat hv hk (mlen_le f)
  refine G.ldMz f F hf hb h1 hd ?_
  rw [h2]; exact kk
theorem G.stMzn {v x : Int32} {k : Nat} (f : Nat) (F : Fx κ A D K base cc own nL) (hf : f < 20) (hb : mK K f = K 3) (hx : vp_nar .boolean x = x) (hv : v = nI k) (hk : k < mlen f) (hd : decode cc pc = .ok (.bastore, 1)) (kk : G κ l R A Q D nL cells slots (mW Y K (up2 m f k x)) (pc + 1) L S) : G κ l R A Q D nL cells slots (mW Y K m) pc L (.int x :: .int v :: .ref (Y (1 + f)) :: S) := by
  obtain ⟨h1, h2⟩ := vp_nat hv hk (mlen_le f)
  refine G.stMz f F hf hb hx h1 hd ?_
  rw [h2]; exact kk
end GF
end
section
-- ===== contracts over worlds =====
def PreC (D : va_G) (K : Nat → ClassId) (base : Nat) (σ : va_W) (sz : Nat) (U : State) : Prop :=
  U.heap.size = sz ∧ va_P D cl4 σ U.heap ∧ va_D (fun q => base ≤ q) σ ∧ base ≤ U.heap.size ∧ EV D K base U
def PostC (D : va_G) (σ σ' : va_W) (sz : Nat) (t : State) : Prop := va_P D cl4 σ' t.heap ∧ va_D (va_A σ sz) σ'
/-- a method without an answer: its world σ becomes σ' -/
def CtV (l : Launch) (D : va_G) (K : Nat → ClassId) (base : Nat) (y : MethodName) (b : ByteArray) (n : Nat) (rm : Room) (av : List Value) (σ σ' : va_W) : Prop :=
  ∀ sz, Met l y (.code y b n none :: WSg) rm (va_Pc av (PreC D K base σ sz)) (va_Qv (fun _ : Unit => True) (fun _ => PostC D σ σ' sz) (va_A σ sz)) rm.cells rm.slots (va_A σ sz)
/-- .. with an int (or boolean) r as its answer -/
def CtI (l : Launch) (D : va_G) (K : Nat → ClassId) (base : Nat) (y : MethodName) (b : ByteArray) (n : Nat) (ty : FieldType) (rm : Room) (av : List Value) (σ : va_W) (r : Int32) (σ' : va_W) : Prop :=
  ∀ sz, Met l y (.code y b n (some ty) :: WSg) rm (va_Pc av (PreC D K base σ sz)) (va_Qi (fun (x : Int32) (_ : Unit) => x = r) (fun _ => PostC D σ σ' sz) (va_A σ sz)) rm.cells rm.slots (va_A σ sz)
/-- .. with the cell ra as its answer -/
def CtR (l : Launch) (D : va_G) (K : Nat → ClassId) (base : Nat) (y : MethodName) (b : ByteArray) (n : Nat) (C : String) (rm : Room) (av : List Value) (σ : va_W) (ra : Nat) (σ' : va_W) : Prop :=
  ∀ sz, Met l y (.code y b n (some (.object C)) :: WSg) rm (va_Pc av (PreC D K base σ sz)) (va_Qr (fun _ : Unit => True) (fun _ a t => a = ra ∧ PostC D σ σ' sz t) (va_A σ sz)) rm.cells rm.slots (va_A σ sz)
section CTE
variable {l : Launch} {D : va_G} {K : Nat → ClassId} {base : Nat} {y : MethodName} {b : ByteArray} {n : Nat} {rm : Room} {av : List Value} {σ σ' : va_W} {r : Int32} {ra : Nat} {ty : FieldType} {C : String}
theorem A_base {sz : Nat} (h : va_D (fun q => base ≤ q) σ) (hb : base ≤ sz) : ∀ q, va_A σ sz q → base ≤ q := by
  intro q hq
  rcases hq with ⟨k, e, hk⟩ | hq
  · exact h.2 k (q, e) hk
  · exact Nat.le_trans hb hq
theorem CtV.enter (hy : plainName y.cls = true) (hn : (lg_sl av).length ≤ n)
    (body : ∀ (κ : KM) (A : Nat → Prop) (Q : State → Prop), Fx κ A D K base b y.cls n → (∀ pc L, decode b pc = .ok (.return_, 1) → G κ l rm A Q D n rm.cells rm.slots σ' pc L []) → G κ l rm A Q D n 0 0 σ 0 (lv_args 0 av) []) : CtV l D K base y b n rm av σ σ' := by
  intro sz
  refine Met.ofW (cc := b) (maxL := n) (ret := none) hy rfl ?_
  intro p e s m args below meth c s₁ B hml hv
  obtain ⟨rfl, hsz, hP, hD0, hbz, hE⟩ := hv
  subst hsz
  have hts := atoms_spec (ws := .code y b n none :: WSg) B.pre
  have hl := lv_entry av (n := n) hn
  rw [lg_entry_eq]
  refine body (p, e, s, m, av.toArray, below, meth, c) (va_A σ s.heap.size) _ ⟨B.exec, B.bytes, hml, findClass_of_methodNamed B.named, fun w hw => hts w (List.mem_cons_of_mem _ hw), hE, A_base hD0 hbz, fun q h => Or.inr h, B.notSynchronized, hbz⟩ ?_ s.heap [] _ hP hD0.self va_S.rf hl
  intro pc L hd H locs ls hP hD hS hl
  exact W.vret B.exec B.bytes B.returns (fun t ht hW => ⟨⟨(), rfl, trivial, by rw [ht]; exact hP, hD⟩, hS.F ht⟩) hS.2.2 hd B.notSynchronized
theorem CtI.enter (hy : plainName y.cls = true) (hn : (lg_sl av).length ≤ n)
    (body : ∀ (κ : KM) (A : Nat → Prop) (Q : State → Prop), Fx κ A D K base b y.cls n → (∀ pc L v, decode b pc = .ok (.ireturn, 1) → narrow ty (.int v) = .int v → v = r → G κ l rm A Q D n rm.cells rm.slots σ' pc L [.int v]) → G κ l rm A Q D n 0 0 σ 0 (lv_args 0 av) []) : CtI l D K base y b n ty rm av σ r σ' := by
  intro sz
  refine Met.ofW (cc := b) (maxL := n) (ret := some ty) hy rfl ?_
  intro p e s m args below meth c s₁ B hml hv
  obtain ⟨rfl, hsz, hP, hD0, hbz, hE⟩ := hv
  subst hsz
  have hts := atoms_spec (ws := .code y b n (some ty) :: WSg) B.pre
  have hl := lv_entry av (n := n) hn
  rw [lg_entry_eq]
  refine body (p, e, s, m, av.toArray, below, meth, c) (va_A σ s.heap.size) _ ⟨B.exec, B.bytes, hml, findClass_of_methodNamed B.named, fun w hw => hts w (List.mem_cons_of_mem _ hw), hE, A_base hD0 hbz, fun q h => Or.inr h, B.notSynchronized, hbz⟩ ?_ s.heap [] _ hP hD0.self va_S.rf hl
  intro pc L v hd hnv hv H locs ls hP hD hS hl
  exact W.zret B.exec B.bytes B.returns hnv (fun t ht hW => ⟨⟨v, (), rfl, hv, by rw [ht]; exact hP, hD⟩, hS.F ht⟩) hS.2.2 hd B.notSynchronized
theorem CtR.enter (hy : plainName y.cls = true) (hn : (lg_sl av).length ≤ n)
    (body : ∀ (κ : KM) (A : Nat → Prop) (Q : State → Prop), Fx κ A D K base b y.cls n → (∀ pc L v, decode b pc = .ok (.areturn, 1) → v = ra → G κ l rm A Q D n rm.cells rm.slots σ' pc L [.ref v]) → G κ l rm A Q D n 0 0 σ 0 (lv_args 0 av) []) : CtR l D K base y b n C rm av σ ra σ' := by
  intro sz
  refine Met.ofW (cc := b) (maxL := n) (ret := some (.object C)) hy rfl ?_
  intro p e s m args below meth c s₁ B hml hv
  obtain ⟨rfl, hsz, hP, hD0, hbz, hE⟩ := hv
  subst hsz
  have hts := atoms_spec (ws := .code y b n (some (.object C)) :: WSg) B.pre
  have hl := lv_entry av (n := n) hn
  rw [lg_entry_eq]
  refine body (p, e, s, m, av.toArray, below, meth, c) (va_A σ s.heap.size) _ ⟨B.exec, B.bytes, hml, findClass_of_methodNamed B.named, fun w hw => hts w (List.mem_cons_of_mem _ hw), hE, A_base hD0 hbz, fun q h => Or.inr h, B.notSynchronized, hbz⟩ ?_ s.heap [] _ hP hD0.self va_S.rf hl
  intro pc L v hd hv H locs ls hP hD hS hl
  exact W.aret B.exec B.bytes B.returns (Or.inl ⟨_, rfl⟩) (Or.inr ⟨_, rfl⟩) (fun t ht hW => ⟨⟨(), v, rfl, trivial, hv, by rw [ht]; exact hP, hD⟩, hS.F ht⟩) hS.2.2 hd B.notSynchronized
end CTE
-- ===== calls =====
/-- what the tables say of a call of the instance method y at the place idx of own's pool -/
def CK (own : String) (idx : Nat) (y : MethodName) (b : ByteArray) (n : Nat) (ret : Option FieldType) (np : Nat) : Prop :=
  Cond.code y b n ret ∈ WSg ∧ Cond.initialized y.cls ∈ WSg ∧ Cond.instanceMethod y ∈ WSg ∧ Cond.selects y.cls y y ∈ WSg ∧ (Cond.methodLink own idx y ∈ WSg ∨ ∃ host, Cond.methodLinkNest own idx y host ∈ NWl) ∧ (y.cls ≠ "java/lang/invoke/MethodHandle" ∧ y.cls ≠ "java/lang/invoke/VarHandle") ∧ (parseMethodDescriptor y.desc).map (fun d => d.parameters.length) = some np
def CKs (own : String) (idx : Nat) (y : MethodName) (b : ByteArray) (n : Nat) (ret : Option FieldType) (np : Nat) : Prop :=
  Cond.code y b n ret ∈ WSg ∧ Cond.initialized y.cls ∈ WSg ∧ Cond.static y ∈ WSg ∧ Cond.methodLink own idx y ∈ WSg ∧ (y.cls ≠ "java/lang/invoke/MethodHandle" ∧ y.cls ≠ "java/lang/invoke/VarHandle") ∧ (parseMethodDescriptor y.desc).map (fun d => d.parameters.length) = some np
section CAL
variable {κ : KM} {l : Launch} {R : Room} {A : Nat → Prop} {Q : State → Prop} {D : va_G} {K : Nat → ClassId} {base : Nat} {cc : ByteArray} {own : String} {nL cells slots pc : Nat} {σ σ' : va_W} {L : List (Nat × Value)} {S : List Value}
variable {y : MethodName} {b : ByteArray} {n np idx a : Nat} {ret : Option FieldType} {rm : Room} {av As rest : List Value} {H : Heap} {locs : List Loc} {ls : Array Slot}
theorem Fx.pay (F : Fx κ A D K base cc own nL) (hc : Cond.code y b n ret ∈ WSg) : ∀ w ∈ Cond.code y b n ret :: WSg, ∀ (a' : Array Value) (U : State), κ.2.2.1.WarmedH U.vm → w.before a' U = true := by
  intro w hw a' U hW
  have h : w ∈ WSg := by
    rcases List.mem_cons.mp hw with rfl | h
    · exact hc
    · exact h
  exact word_at hW (WSg_good h) (F.ts w h)
theorem Fx.run {Pc : Array Value → State → Prop} {Qc : Array Value → State → Outcome → State → Prop} {mc ms : Nat} {free : Addr → Prop} (F : Fx κ A D K base cc own nL) (ck : CK own idx y b n ret np) (hM : Met l y (.code y b n ret :: WSg) rm Pc Qc mc ms free) (hmc : rm.cells = mc) (hms : rm.slots = ms) (hR : rm.frames + 1 ≤ R.frames ∧ 8 + (n + 11) + rm.locals ≤ R.locals)
    (hp : PreV κ.2.2.1 H y.cls a Pc As) (hn : As.length = np) (hsz : ls.size = nL) (hst : S = As.reverse ++ .ref a :: rest) (hW : (rest.map fun v => v.category).sum ≤ 8) (hd : decode cc pc = .ok (.invokevirtual idx, 3)) (hf : cells + mc ≤ R.cells ∧ slots + ms ≤ R.slots) :
    va_Run κ.1 l κ.2.1 R κ.2.2.1 κ.2.2.2.1 κ.2.2.2.2.1 κ.2.2.2.2.2.1 κ.2.2.2.2.2.2.1 κ.2.2.2.2.2.2.2 H locs cells slots mc ms (F0 κ.2.2.2.1 pc ls S) rest (Qc (Value.ref a :: As).toArray) free := by
  obtain ⟨c1, c2, c3, c4, c5, c6, c7⟩ := ck
  have hlen : ∀ sig, parseMethodDescriptor y.desc = some sig → np = sig.parameters.length := fun sig h => by
    rw [h] at c7
    exact (Option.some.inj c7).symm
  rcases c5 with c5 | ⟨host, c5⟩
  · exact va_runV (cc := cc) (nL := nL) (Ts := WSg) (own := own) ⟨F.ex, F.hb, F.ml, F.ow, F.ts⟩ hM ⟨⟨hmc, hms, hR.1, hR.2, F.pay c1, List.mem_cons_self, F.ts _ c1, F.ts _ c2, c6, hlen, F.ts _ c5⟩, F.ts _ c3, F.ts _ c4⟩ hp rfl hn hsz hst (lv_room hW) hd hf
  · exact va_runVN (cc := cc) (nL := nL) (Ts := WSg) (own := own) (host := host) ⟨F.ex, F.hb, F.ml, F.ow, F.ts⟩ hM ⟨⟨⟨hmc, hms, hR.1, hR.2, F.pay c1, List.mem_cons_self⟩, F.ts _ c1, F.ts _ c2, c6, hlen, va_Nw.use rfl (F.ev.2.1 _ c5)⟩, F.ts _ c3, F.ts _ c4⟩ hp rfl hn hsz hst (lv_room hW) hd hf
theorem PreC.blind {sz : Nat} : FrameBlind (va_Pc av (PreC D K base σ sz)) := by
  intro a U g mk h
  obtain ⟨h0, h1, h2, h3, h4, h5⟩ := h
  exact ⟨h0, h1, h2, h3, h4, h5.warm (State.WarmedH.refl U) (fun _ _ _ => rfl)⟩
/-- the callee's start holds where the caller's world holds -/
theorem Fx.pre (F : Fx κ A D K base cc own nL) (hP : va_P D cl4 σ H) (hD : va_D A σ) (hS : va_S A κ.2.2.1.heap H locs) : ∀ U : State, U.heap = H → κ.2.2.1.WarmedH U.vm → va_Pc av (PreC D K base σ H.size) av.toArray U := by
  intro U hU hW
  refine ⟨rfl, by rw [hU], by rw [hU]; exact hP, hD.weaken (fun _ _ _ h => F.ab _ h), by rw [hU]; exact Nat.le_trans F.bs hS.1, F.ev.warm hW (fun q h1 h2 => ?_)⟩
  rw [hU]
  exact hS.2.1 q h1 (fun h => by have := F.ab _ h; omega)
theorem Fx.free (F : Fx κ A D K base cc own nL) (hD : va_D A σ) (hS : va_S A κ.2.2.1.heap H locs) : ∀ q, va_A σ H.size q → A q := by
  intro q h
  rcases h with ⟨k, e, h⟩ | h
  · exact hD.2 k (q, e) h
  · exact F.an q (Nat.le_trans hS.1 h)
theorem Fx.recv {q0 ci : Nat} {fs : List Value} {r : vw_C} (F : Fx κ A D K base cc own nL) (hP : va_P D cl4 σ H) (hq : σ[q0]? = some (a, .inr (ci, fs))) (hc : cl4[ci]? = some r) (hr : r.1 = y.cls) : ∃ cellB : Cell, H[a]? = some cellB ∧ cellB.vm.isStatics = false ∧ κ.2.2.1.vm.findClass y.cls = some cellB.cls := by
  rw [← hr]
  exact va_recv F.ev.1 hP hc hq
theorem G.callv {q0 ci : Nat} {fs : List Value} {r : vw_C} (F : Fx κ A D K base cc own nL) (h : CtV l D K base y b n rm (.ref a :: As) σ σ') (ck : CK own idx y b n none np) (hq : σ[q0]? = some (a, .inr (ci, fs))) (hc : cl4[ci]? = some r) (hr : r.1 = y.cls) (hz : rm.cells = 0 ∧ rm.slots = 0) (hR : rm.frames + 1 ≤ R.frames ∧ 8 + (n + 11) + rm.locals ≤ R.locals) (hf : cells ≤ R.cells ∧ slots ≤ R.slots) (hn : As.length = np) (hst : S = As.reverse ++ .ref a :: rest) (hW : (rest.map fun v => v.category).sum ≤ 8) (hd : decode cc pc = .ok (.invokevirtual idx, 3))
    (kk : G κ l R A Q D nL cells slots σ' (pc + 3) L rest) : G κ l R A Q D nL cells slots σ pc L S := by
  intro H locs ls hP hD hS hl
  have hF := F.free hD hS
  have hM := h H.size
  rw [hz.1, hz.2] at hM
  refine va_callv (F.run (np := np) (a := a) (As := As) (rest := rest) ck hM hz.1 hz.2 hR ⟨PreC.blind, F.recv hP hq hc hr, F.pre hP hD hS⟩ hn hl.1 hst hW hd hf) hS (fun q _ h => hF q h) hF (fun u t H1 locs1 ht hvm hp hB hz1 hk1 hS1 => ?_)
  obtain ⟨hP1, hD1⟩ := hB
  rw [ht] at hP1
  exact kk H1 locs1 ls hP1 (hD1.weaken (fun _ _ _ h => hF _ h)) hS1 hl
theorem G.calli {q0 ci : Nat} {fs : List Value} {r : vw_C} {ty : FieldType} {v : Int32} (F : Fx κ A D K base cc own nL) (h : CtI l D K base y b n ty rm (.ref a :: As) σ v σ') (ck : CK own idx y b n (some ty) np) (hq : σ[q0]? = some (a, .inr (ci, fs))) (hc : cl4[ci]? = some r) (hr : r.1 = y.cls) (hz : rm.cells = 0 ∧ rm.slots = 0) (hR : rm.frames + 1 ≤ R.frames ∧ 8 + (n + 11) + rm.locals ≤ R.locals) (hf : cells ≤ R.cells ∧ slots ≤ R.slots) (hn : As.length = np) (hst : S = As.reverse ++ .ref a :: rest) (hW : (rest.map fun v => v.category).sum ≤ 8) (hd : decode cc pc = .ok (.invokevirtual idx, 3))
    (kk : G κ l R A Q D nL cells slots σ' (pc + 3) L (.int v :: rest)) : G κ l R A Q D nL cells slots σ pc L S := by
  intro H locs ls hP hD hS hl
  have hF := F.free hD hS
  have hM := h H.size
  rw [hz.1, hz.2] at hM
  refine va_calli (F.run (np := np) (a := a) (As := As) (rest := rest) ck hM hz.1 hz.2 hR ⟨PreC.blind, F.recv hP hq hc hr, F.pre hP hD hS⟩ hn hl.1 hst hW hd hf) hS (fun q _ h => hF q h) hF (fun x u t H1 locs1 ht hvm hp hB hz1 hk1 hS1 => ?_)
  obtain ⟨hP1, hD1⟩ := hB
  rw [ht] at hP1
  subst hp
  exact kk H1 locs1 ls hP1 (hD1.weaken (fun _ _ _ h => hF _ h)) hS1 hl
theorem G.callr {q0 ci : Nat} {fs : List Value} {r : vw_C} {C : String} {v : Nat} (F : Fx κ A D K base cc own nL) (h : CtR l D K base y b n C rm (.ref a :: As) σ v σ') (ck : CK own idx y b n (some (.object C)) np) (hq : σ[q0]? = some (a, .inr (ci, fs))) (hc : cl4[ci]? = some r) (hr : r.1 = y.cls) (hz : rm.cells = 0 ∧ rm.slots = 0) (hR : rm.frames + 1 ≤ R.frames ∧ 8 + (n + 11) + rm.locals ≤ R.locals) (hf : cells ≤ R.cells ∧ slots ≤ R.slots) (hn : As.length = np) (hst : S = As.reverse ++ .ref a :: rest) (hW : (rest.map fun v => v.category).sum ≤ 8) (hd : decode cc pc = .ok (.invokevirtual idx, 3))
    (kk : G κ l R A Q D nL cells slots σ' (pc + 3) L (.ref v :: rest)) : G κ l R A Q D nL cells slots σ pc L S := by
  intro H locs ls hP hD hS hl
  have hF := F.free hD hS
  have hM := h H.size
  rw [hz.1, hz.2] at hM
  refine va_callr (F.run (np := np) (a := a) (As := As) (rest := rest) ck hM hz.1 hz.2 hR ⟨PreC.blind, F.recv hP hq hc hr, F.pre hP hD hS⟩ hn hl.1 hst hW hd hf) hS (fun q _ h => hF q h) hF (fun u x t H1 locs1 ht hvm hp hB hz1 hk1 hS1 => ?_)
  obtain ⟨rfl, hP1, hD1⟩ := hB
  rw [ht] at hP1
  exact kk H1 locs1 ls hP1 (hD1.weaken (fun _ _ _ h => hF _ h)) hS1 hl
/-- .. of a static method of the class itself -/
theorem Fx.runs {Pc : Array Value → State → Prop} {Qc : Array Value → State → Outcome → State → Prop} {mc ms : Nat} {free : Addr → Prop} (F : Fx κ A D K base cc own nL) (ck : CKs own idx y b n ret np) (hM : Met l y (.code y b n ret :: WSg) rm Pc Qc mc ms free) (hmc : rm.cells = mc) (hms : rm.slots = ms) (hR : rm.frames + 1 ≤ R.frames ∧ 8 + (n + 11) + rm.locals ≤ R.locals)
    (hp : PreS κ.2.2.1 H Pc As) (hn : As.length = np) (hsz : ls.size = nL) (hst : S = As.reverse ++ rest) (hW : (rest.map fun v => v.category).sum ≤ 8) (hd : decode cc pc = .ok (.invokestatic idx, 3)) (hf : cells + mc ≤ R.cells ∧ slots + ms ≤ R.slots) :
    va_Run κ.1 l κ.2.1 R κ.2.2.1 κ.2.2.2.1 κ.2.2.2.2.1 κ.2.2.2.2.2.1 κ.2.2.2.2.2.2.1 κ.2.2.2.2.2.2.2 H locs cells slots mc ms (F0 κ.2.2.2.1 pc ls S) rest (Qc As.toArray) free := by
  obtain ⟨c1, c2, c3, c5, c6, c7⟩ := ck
  have hlen : ∀ sig, parseMethodDescriptor y.desc = some sig → np = sig.parameters.length := fun sig h => by
    rw [h] at c7
    exact (Option.some.inj c7).symm
  exact va_runS (cc := cc) (nL := nL) (Ts := WSg) (own := own) ⟨F.ex, F.hb, F.ml, F.ow, F.ts⟩ hM ⟨⟨hmc, hms, hR.1, hR.2, F.pay c1, List.mem_cons_self, F.ts _ c1, F.ts _ c2, c6, hlen, F.ts _ c5⟩, F.ts _ c3⟩ hp rfl hn hsz hst (lv_room hW) hd hf
theorem G.callsi {ty : FieldType} {v : Int32} (F : Fx κ A D K base cc own nL) (h : CtI l D K base y b n ty rm As σ v σ') (ck : CKs own idx y b n (some ty) np) (hz : rm.cells = 0 ∧ rm.slots = 0) (hR : rm.frames + 1 ≤ R.frames ∧ 8 + (n + 11) + rm.locals ≤ R.locals) (hf : cells ≤ R.cells ∧ slots ≤ R.slots) (hn : As.length = np) (hst : S = As.reverse ++ rest) (hW : (rest.map fun v => v.category).sum ≤ 8) (hd : decode cc pc = .ok (.invokestatic idx, 3))
    (kk : G κ l R A Q D nL cells slots σ' (pc + 3) L (.int v :: rest)) : G κ l R A Q D nL cells slots σ pc L S := by
  intro H locs ls hP hD hS hl
  have hF := F.free hD hS
  have hM := h H.size
  rw [hz.1, hz.2] at hM
  refine va_calli (F.runs (np := np) (As := As) (rest := rest) ck hM hz.1 hz.2 hR ⟨PreC.blind, F.pre hP hD hS⟩ hn hl.1 hst hW hd hf) hS (fun q _ h => hF q h) hF (fun x u t H1 locs1 ht hvm hp hB hz1 hk1 hS1 => ?_)
  obtain ⟨hP1, hD1⟩ := hB
  rw [ht] at hP1
  subst hp
  exact kk H1 locs1 ls hP1 (hD1.weaken (fun _ _ _ h => hF _ h)) hS1 hl
end CAL
end
section
-- ===== worlds side by side =====
theorem P_iff {D : va_G} {cl : List vw_C} {ws : va_W} {H : Heap} : va_P D cl ws H ↔ ∀ q ∈ ws, va_at D cl q H := by
  constructor
  · intro h q hq
    obtain ⟨k, hk⟩ := List.getElem?_of_mem hq
    exact h k q hk
  · intro h k q hk
    exact h q (List.mem_of_getElem? hk)
theorem D_iff {A : Nat → Prop} {ws : va_W} : va_D A ws ↔ (ws.map (·.1)).Nodup ∧ ∀ q ∈ ws, A q.1 := by
  constructor
  · intro h
    refine ⟨?_, fun q hq => ?_⟩
    · unfold List.Nodup
      rw [List.pairwise_iff_getElem]
      intro i j hi hj hij e
      rw [List.length_map] at hi hj
      rw [List.getElem_map, List.getElem_map] at e
      have := h.1 i j ws[i] ws[j] (List.getElem?_eq_getElem hi) (List.getElem?_eq_getElem hj) e
      omega
    · obtain ⟨k, hk⟩ := List.getElem?_of_mem hq
      exact h.2 k q hk
  · intro h
    refine ⟨fun i j p q hp hq e => ?_, fun k q hk => h.2 q (List.mem_of_getElem? hk)⟩
    have hi : i < (ws.map (·.1)).length := by rw [List.length_map]; exact (List.getElem?_eq_some_iff.mp hp).1
    refine (List.getElem?_inj hi h.1).mp ?_
    rw [List.getElem?_map, List.getElem?_map, hp, hq]
    simp [e]
theorem A_iff {ws : va_W} {sz q : Nat} : va_A ws sz q ↔ (∃ z ∈ ws, z.1 = q) ∨ sz ≤ q := by
  constructor
  · rintro (⟨k, e, h⟩ | h)
    · exact Or.inl ⟨(q, e), List.mem_of_getElem? h, rfl⟩
    · exact Or.inr h
  · rintro (⟨z, hz, rfl⟩ | h)
    · obtain ⟨k, hk⟩ := List.getElem?_of_mem hz
      exact Or.inl ⟨k, z.2, hk⟩
    · exact Or.inr h
section FRA
variable {D : va_G} {cl : List vw_C} {A : Nat → Prop} {α σ σ' ρ : va_W} {H H1 : Heap}
theorem P_mid (h : va_P D cl (α ++ (σ ++ ρ)) H) : va_P D cl σ H := P_iff.mpr fun q hq => P_iff.mp h q (List.mem_append_right _ (List.mem_append_left _ hq))
theorem D_mid (h : va_D A (α ++ (σ ++ ρ))) : va_D A σ := by
  rw [D_iff] at h ⊢
  refine ⟨?_, fun q hq => h.2 q (List.mem_append_right _ (List.mem_append_left _ hq))⟩
  have h1 := h.1
  rw [List.map_append, List.map_append, List.nodup_append] at h1
  have h2 := h1.2.1
  rw [List.nodup_append] at h2
  exact h2.1
/-- behind a call that had the middle part -/
theorem frame_join (hP : va_P D cl (α ++ (σ ++ ρ)) H) (hD : va_D A (α ++ (σ ++ ρ))) (hk : ∀ q : Nat, q < H.size → ¬ va_A σ H.size q → H1[q]? = H[q]?) (hF : ∀ q, va_A σ H.size q → A q) (hP1 : va_P D cl σ' H1) (hD1 : va_D (va_A σ H.size) σ') : va_P D cl (α ++ (σ' ++ ρ)) H1 ∧ va_D A (α ++ (σ' ++ ρ)) := by
  rw [P_iff] at hP
  have hPa := P_iff.mp hP1
  have hD' := D_iff.mp hD
  have hDa := D_iff.mp hD1
  have hn := hD'.1
  rw [List.map_append, List.map_append, List.nodup_append] at hn
  obtain ⟨n1, n23, n4⟩ := hn
  rw [List.nodup_append] at n23
  obtain ⟨n2, n3, n5⟩ := n23
  -- a cell beside the middle part isn't in what the callee may change
  have out : ∀ q : Nat × va_E, (q ∈ α ∨ q ∈ ρ) → q.1 < H.size ∧ ¬ va_A σ H.size q.1 := by
    intro q hq
    have hm : q ∈ α ++ (σ ++ ρ) := by
      rcases hq with h | h
      · exact List.mem_append_left _ h
      · exact List.mem_append_right _ (List.mem_append_right _ h)
    have hl := (hP q hm).lt
    refine ⟨hl, fun h => ?_⟩
    rcases A_iff.mp h with ⟨z, hz, e⟩ | h
    · rcases hq with hq | hq
      · exact n4 q.1 (List.mem_map.mpr ⟨q, hq, rfl⟩) z.1 (List.mem_append_left _ (List.mem_map.mpr ⟨z, hz, rfl⟩)) e.symm
      · exact n5 z.1 (List.mem_map.mpr ⟨z, hz, rfl⟩) q.1 (List.mem_map.mpr ⟨q, hq, rfl⟩) e
    · omega
  refine ⟨P_iff.mpr fun q hq => ?_, D_iff.mpr ⟨?_, fun q hq => ?_⟩⟩
  · rcases List.mem_append.mp hq with h | h
    · have := out q (Or.inl h)
      exact (hP q (List.mem_append_left _ h)).kept (hk q.1 this.1 this.2)
    · rcases List.mem_append.mp h with h | h
      · exact hPa q h
      · have := out q (Or.inr h)
        exact (hP q (List.mem_append_right _ (List.mem_append_right _ h))).kept (hk q.1 this.1 this.2)
  · rw [List.map_append, List.map_append, List.nodup_append]
    refine ⟨n1, ?_, fun a ha b hb e => ?_⟩
    · rw [List.nodup_append]
      refine ⟨hDa.1, n3, fun a ha b hb e => ?_⟩
      obtain ⟨z, hz, rfl⟩ := List.mem_map.mp ha
      obtain ⟨y, hy, rfl⟩ := List.mem_map.mp hb
      exact (out y (Or.inr hy)).2 (by rw [← e]; exact hDa.2 z hz)
    · obtain ⟨y, hy, rfl⟩ := List.mem_map.mp ha
      rcases List.mem_append.mp hb with hb | hb
      · obtain ⟨z, hz, rfl⟩ := List.mem_map.mp hb
        exact (out y (Or.inl hy)).2 (by rw [e]; exact hDa.2 z hz)
      · exact n4 _ (List.mem_map.mpr ⟨y, hy, rfl⟩) b (List.mem_append_right _ hb) e
  · rcases List.mem_append.mp hq with h | h
    · exact hD'.2 q (List.mem_append_left _ h)
    · rcases List.mem_append.mp h with h | h
      · exact hF _ (hDa.2 q h)
      · exact hD'.2 q (List.mem_append_right _ (List.mem_append_right _ h))
end FRA
end
section
-- ===== methods that throw =====
/-- room for d calls one in another, and for one exception -/
def rmX (d : Nat) : Room := { frames := d + 6, cells := 1, slots := 6, locals := 30 * d + 100 }
def Xf (D : va_G) (σ : va_W) (E : String) (sz : Nat) : String → State → State → Prop := vx_X (fun _ : Unit => True) (fun E' _ t => E' = E ∧ PostC D σ σ sz t) (va_A σ sz)
/-- a method that throws E; its world stays -/
def CtX (l : Launch) (D : va_G) (K : Nat → ClassId) (base : Nat) (y : MethodName) (b : ByteArray) (n : Nat) (ret : Option FieldType) (rm : Room) (av : List Value) (σ : va_W) (E : String) : Prop :=
  ∀ sz, vx_Met l y (.code y b n ret :: WSg) rm (va_Pc av (PreC D K base σ sz)) (fun _ _ _ _ => False) (Xf D σ E sz) rm.cells rm.slots (va_A σ sz)
def Qx (κ : KM) (D : va_G) (σ : va_W) (E : String) : State → Prop := vx_MQ κ.2.2.2.2.2.1 (fun _ _ _ _ => False) (Xf D σ E κ.2.2.1.heap.size) κ.2.2.2.2.1 κ.2.2.1 1 6 (va_A σ κ.2.2.1.heap.size)
/-- what the tables say of 'throw new E(text)' -/
def TW (own : String) (ik is ic : Nat) (cls text : String) (names : List String) : Prop :=
  Bundle.fit cls = true ∧ (∀ n ∈ names, Bundle.fit n = true) ∧ Cond.classLink own ik cls ∈ WSg ∧ Cond.initialized cls ∈ WSg ∧ (own, is, text) ∈ STl ∧ (∀ w ∈ vx_atS own ic cls names, w ∈ WSg ∨ w ∈ NWl) ∧ ∀ w ∈ Cond.classLink own ik cls :: Cond.initialized cls :: vx_atS own ic cls names, vx_ot w = true
section THR
variable {κ : KM} {l : Launch} {R : Room} {A : Nat → Prop} {Q : State → Prop} {D : va_G} {K : Nat → ClassId} {base : Nat} {cc : ByteArray} {own E : String} {nL cells slots pc : Nat} {σ σ' α ρ : va_W} {L : List (Nat × Value)} {S : List Value}
variable {y : MethodName} {b : ByteArray} {n np idx a : Nat} {ret : Option FieldType} {rm : Room} {av As rest : List Value} {H : Heap} {locs : List Loc} {ls : Array Slot}
theorem CtX.enter (hy : plainName y.cls = true) (hn : (lg_sl av).length ≤ n) (hz : rm.cells = 1 ∧ rm.slots = 6)
    (body : ∀ (κ : KM), Fx κ (va_A σ κ.2.2.1.heap.size) D K base b y.cls n → (∀ x ∈ κ.2.2.2.2.2.2.2.exceptionTable.toList, False) → G κ l rm (va_A σ κ.2.2.1.heap.size) (Qx κ D σ E) D n 0 0 σ 0 (lv_args 0 av) []) : CtX l D K base y b n ret rm av σ E := by
  intro sz
  refine vx_ofW (cc := b) (maxL := n) (ret := ret) hy rfl ?_
  intro p e s m args below meth c s₁ B hml htab hv
  obtain ⟨rfl, hsz, hP, hD0, hbz, hE⟩ := hv
  subst hsz
  have hts := atoms_spec (ws := .code y b n ret :: WSg) B.pre
  have hl := lv_entry av (n := n) hn
  rw [lg_entry_eq, hz.1, hz.2]
  exact body (p, e, s, m, av.toArray, below, meth, c) ⟨B.exec, B.bytes, hml, findClass_of_methodNamed B.named, fun w hw => hts w (List.mem_cons_of_mem _ hw), hE, A_base hD0 hbz, fun q h => Or.inr h, B.notSynchronized, hbz⟩ htab s.heap [] _ hP hD0.self va_S.rf hl
theorem G.throwS {cls text : String} {names : List String} {ik is ic : Nat} (F : Fx κ (va_A σ κ.2.2.1.heap.size) D K base cc own nL) (htab : ∀ x ∈ κ.2.2.2.2.2.2.2.exceptionTable.toList, False) (hl : l.stackTraces = false) (hw : TW own ik is ic cls text names)
    (d0 : decode cc pc = .ok (.new ik, 3)) (d3 : decode cc (pc + 3) = .ok (.dup, 1)) (d4 : decode cc (pc + 4) = .ok (.ldc is, 2)) (d6 : decode cc (pc + 6) = .ok (.invokespecial ic, 3)) (d9 : decode cc (pc + 9) = .ok (.athrow, 1))
    (hR : names.length + 3 < R.frames ∧ (S.map fun v => v.category).sum + (13 * (names.length + 1) + 43) ≤ R.locals ∧ 1 ≤ R.cells ∧ 6 ≤ R.slots) : G κ l R (va_A σ κ.2.2.1.heap.size) (Qx κ D σ cls) D nL 0 0 σ pc L S := by
  intro H locs ls hP hD hS hl9
  obtain ⟨w1, w2, w3, w4, w5, w6, w7⟩ := hw
  obtain ⟨sa, hsa⟩ := F.ev.2.2.1 _ w5
  refine vx_throwS F.ex F.hb hl F.ow w1 w2 (F.ts _ w3) (F.ts _ w4) hsa (fun w h => ?_) w7 (F.ev.2.2.2.2.1.narrow F.ab) (F.ev.2.2.2.2.2.narrow F.ab) hS (hl9.1.trans F.ml.symm) d0 d3 d4 d6 d9 (fun x hx => absurd hx (htab x)) hR.1 hR.2.1 (by omega) (by omega) F.lk (fun t hvm hz hk => ?_) hS.2.2 (by omega) (by omega)
  · rcases w6 w h with h | h
    · exact F.ts _ h
    · exact va_Nw.use (nest_tab (List.mem_filter.mp h).2) (F.ev.2.1 _ h)
  · refine ⟨(), trivial, ⟨rfl, hP.kept (fun k q hq => hk q.1 (hP k q hq).lt), hD⟩, Nat.le_trans hS.1 hz, fun q h1 h2 => ?_⟩
    rw [hk q (Nat.lt_of_lt_of_le h1 hS.1)]
    exact hS.2.1 q h1 h2
theorem Fx.runx {Pc : Array Value → State → Prop} {Qc : Array Value → State → Outcome → State → Prop} {XC : String → State → State → Prop} {mc ms : Nat} {free : Addr → Prop} (F : Fx κ A D K base cc own nL) (ck : CK own idx y b n ret np) (hlk : Cond.methodLink own idx y ∈ WSg) (hM : vx_Met l y (.code y b n ret :: WSg) rm Pc Qc XC mc ms free) (hmc : rm.cells = mc) (hms : rm.slots = ms) (hR : rm.frames + 1 ≤ R.frames ∧ 8 + (n + 11) + rm.locals ≤ R.locals)
    (hp : PreV κ.2.2.1 H y.cls a Pc As) (hn : As.length = np) (hsz : ls.size = nL) (hst : S = As.reverse ++ .ref a :: rest) (hW : (rest.map fun v => v.category).sum ≤ 8) (hd : decode cc pc = .ok (.invokevirtual idx, 3)) (hf : cells + mc ≤ R.cells ∧ slots + ms ≤ R.slots) :
    vx_Run κ.1 l κ.2.1 R κ.2.2.1 κ.2.2.2.1 κ.2.2.2.2.1 κ.2.2.2.2.2.1 κ.2.2.2.2.2.2.1 κ.2.2.2.2.2.2.2 H locs cells slots mc ms (F0 κ.2.2.2.1 pc ls S) rest (Qc (Value.ref a :: As).toArray) XC free := by
  obtain ⟨c1, c2, c3, c4, c5, c6, c7⟩ := ck
  have hlen : ∀ sig, parseMethodDescriptor y.desc = some sig → np = sig.parameters.length := fun sig h => by
    rw [h] at c7
    exact (Option.some.inj c7).symm
  exact vx_runV (cc := cc) (nL := nL) (Ts := WSg) (own := own) ⟨F.ex, F.hb, F.ml, F.ow, F.ts⟩ hM ⟨⟨hmc, hms, hR.1, hR.2, F.pay c1, List.mem_cons_self, F.ts _ c1, F.ts _ c2, c6, hlen, F.ts _ hlk⟩, F.ts _ c3, F.ts _ c4⟩ hp rfl hn hsz hst (lv_room hW) hd hf
/-- a call that throws: what comes then is asked of the frame with the exception over it -/
theorem G.callX {q0 ci : Nat} {fs : List Value} {r : vw_C} (F : Fx κ A D K base cc own nL) (h : CtX l D K base y b n ret rm (.ref a :: As) σ E) (ck : CK own idx y b n ret np) (hlk : Cond.methodLink own idx y ∈ WSg) (hq : σ[q0]? = some (a, .inr (ci, fs))) (hc : cl4[ci]? = some r) (hr : r.1 = y.cls) (hz : rm.cells = 1 ∧ rm.slots = 6) (hR : rm.frames + 1 ≤ R.frames ∧ 8 + (n + 11) + rm.locals ≤ R.locals) (hf : cells + 1 ≤ R.cells ∧ slots + 6 ≤ R.slots) (hn : As.length = np) (hst : S = As.reverse ++ .ref a :: rest) (hW : (rest.map fun v => v.category).sum ≤ 8) (hd : decode cc pc = .ok (.invokevirtual idx, 3))
    (kk : ∀ (H : Heap) (locs : List Loc) (ls : Array Slot) (q : Addr) (ce : Cell), va_P D cl4 (α ++ (σ ++ ρ)) H → va_D A (α ++ (σ ++ ρ)) → va_S A κ.2.2.1.heap H locs → lv_has ls nL L → H[q]? = some ce → ce.vm = .none → κ.2.2.1.vm.findClass E = some ce.cls →
      vx_W κ.1 l κ.2.1 R κ.2.2.1 κ.2.2.2.1 κ.2.2.2.2.1 κ.2.2.2.2.2.1 κ.2.2.2.2.2.2.1 κ.2.2.2.2.2.2.2 H locs (cells + 1) (slots + 6) Q (F0 κ.2.2.2.1 pc ls rest) q) : G κ l R A Q D nL cells slots (α ++ (σ ++ ρ)) pc L S := by
  intro H locs ls hP hD hS hl
  have hP1 := P_mid hP
  have hD1 := D_mid hD
  have hF := F.free hD1 hS
  have hM := h H.size
  rw [hz.1, hz.2] at hM
  have hrun := F.runx (np := np) (a := a) (As := As) (rest := rest) (locs := locs) (cells := cells) (slots := slots) ck hlk hM hz.1 hz.2 hR ⟨PreC.blind, F.recv hP1 hq hc hr, F.pre hP1 hD1 hS⟩ hn hl.1 hst hW hd hf
  intro T hT X
  rcases hrun T hT X with ⟨v, st₀, t, T', L', h0, X', hL, e1, e2, hq, st⟩ | ⟨q, st₀, t, T', L', E', ce, h0, X', hL, e1, e2, ⟨u, -, ⟨rfl, hPt, hDt⟩, hFt⟩, hce, hcv, hcl, st⟩
  · exact absurd hq id
  · obtain ⟨k1, k2, k3⟩ := vx_keep h0 e1 hS (fun q _ h => hF q h) hF hL hFt
    rw [← e1] at hPt
    obtain ⟨hPj, hDj⟩ := frame_join hP hD k2 hF hPt hDt
    obtain ⟨t2, a1, b1⟩ := kk T'.heap (locs ++ L') ls q ce hPj hDj k3 hl (by rw [e1]; exact hce) hcv hcl T' rfl X'
    exact ⟨t2, st.trans a1, b1⟩
/-- .. and goes on to the caller's caller -/
theorem G.callXo {q0 ci : Nat} {fs : List Value} {r : vw_C} (F : Fx κ (va_A σ κ.2.2.1.heap.size) D K base cc own nL) (htab : ∀ x ∈ κ.2.2.2.2.2.2.2.exceptionTable.toList, False) (h : CtX l D K base y b n ret rm (.ref a :: As) σ E) (ck : CK own idx y b n ret np) (hlk : Cond.methodLink own idx y ∈ WSg) (hq : σ[q0]? = some (a, .inr (ci, fs))) (hc : cl4[ci]? = some r) (hr : r.1 = y.cls) (hz : rm.cells = 1 ∧ rm.slots = 6) (hR : rm.frames + 1 ≤ R.frames ∧ 8 + (n + 11) + rm.locals ≤ R.locals) (hf : 0 + 1 ≤ R.cells ∧ 0 + 6 ≤ R.slots) (hn : As.length = np) (hst : S = As.reverse ++ .ref a :: rest) (hW : (rest.map fun v => v.category).sum ≤ 8) (hd : decode cc pc = .ok (.invokevirtual idx, 3)) :
    G κ l R (va_A σ κ.2.2.1.heap.size) (Qx κ D σ E) D nL 0 0 σ pc L S := by
  have e0 : ([] : va_W) ++ (σ ++ []) = σ := by simp
  rw [← e0]
  refine G.callX (α := []) (ρ := []) (rest := rest) (by rw [e0]; exact F) h ck hlk hq hc hr hz hR hf hn hst hW hd ?_
  intro H locs ls q ce hP hD hS hl hce hcv hcl
  rw [e0] at hP hD hS ⊢
  refine vx_out (E := E) (fun x hx => absurd hx (htab x)) F.lk hce hcv hcl (fun t ht hvm => ⟨(), trivial, ⟨rfl, by rw [ht]; exact hP, hD⟩, hS.F ht⟩) hS.2.2 (Nat.le_refl _) (Nat.le_refl _)
end THR
end
section
theorem dB_init_0 : decode cB_init 0 = .ok (.aload_n 0, 1) := by decide +kernel
theorem dB_init_1 : decode cB_init 1 = .ok (.invokespecial 3, 3) := by decide +kernel
theorem dB_init_4 : decode cB_init 4 = .ok (.aload_n 0, 1) := by decide +kernel
theorem dB_init_5 : decode cB_init 5 = .ok (.iconst 0, 1) := by decide +kernel
theorem dB_init_6 : decode cB_init 6 = .ok (.putfield 9, 3) := by decide +kernel
theorem dB_init_9 : decode cB_init 9 = .ok (.aload_n 0, 1) := by decide +kernel
theorem dB_init_10 : decode cB_init 10 = .ok (.iconst (-1), 1) := by decide +kernel
theorem dB_init_11 : decode cB_init 11 = .ok (.putfield 15, 3) := by decide +kernel
theorem dB_init_14 : decode cB_init 14 = .ok (.return_, 1) := by decide +kernel
theorem dB_leadsTo_0 : decode cB_leadsTo 0 = .ok (.aload_n 0, 1) := by decide +kernel
theorem dB_leadsTo_1 : decode cB_leadsTo 1 = .ok (.getfield 18, 3) := by decide +kernel
theorem dB_leadsTo_4 : decode cB_leadsTo 4 = .ok (.iload_n 1, 1) := by decide +kernel
theorem dB_leadsTo_5 : decode cB_leadsTo 5 = .ok (.if_icmp .ne 14, 3) := by decide +kernel
theorem dB_leadsTo_8 : decode cB_leadsTo 8 = .ok (.aload_n 0, 1) := by decide +kernel
theorem dB_leadsTo_9 : decode cB_leadsTo 9 = .ok (.getfield 21, 3) := by decide +kernel
theorem dB_leadsTo_12 : decode cB_leadsTo 12 = .ok (.ifCond .ne 7, 3) := by decide +kernel
theorem dB_leadsTo_15 : decode cB_leadsTo 15 = .ok (.iconst 1, 1) := by decide +kernel
theorem dB_leadsTo_16 : decode cB_leadsTo 16 = .ok (.goto 4, 3) := by decide +kernel
theorem dB_leadsTo_19 : decode cB_leadsTo 19 = .ok (.iconst 0, 1) := by decide +kernel
theorem dB_leadsTo_20 : decode cB_leadsTo 20 = .ok (.ireturn, 1) := by decide +kernel
theorem dB_lead_0 : decode cB_lead 0 = .ok (.aload_n 0, 1) := by decide +kernel
theorem dB_lead_1 : decode cB_lead 1 = .ok (.iload_n 1, 1) := by decide +kernel
theorem dB_lead_2 : decode cB_lead 2 = .ok (.putfield 18, 3) := by decide +kernel
theorem dB_lead_5 : decode cB_lead 5 = .ok (.aload_n 0, 1) := by decide +kernel
theorem dB_lead_6 : decode cB_lead 6 = .ok (.iconst 0, 1) := by decide +kernel
theorem dB_lead_7 : decode cB_lead 7 = .ok (.putfield 21, 3) := by decide +kernel
theorem dB_lead_10 : decode cB_lead 10 = .ok (.return_, 1) := by decide +kernel
theorem dB_retireWith_0 : decode cB_retireWith 0 = .ok (.aload_n 0, 1) := by decide +kernel
theorem dB_retireWith_1 : decode cB_retireWith 1 = .ok (.iconst 2, 1) := by decide +kernel
theorem dB_retireWith_2 : decode cB_retireWith 2 = .ok (.putfield 9, 3) := by decide +kernel
theorem dB_retireWith_5 : decode cB_retireWith 5 = .ok (.aload_n 0, 1) := by decide +kernel
theorem dB_retireWith_6 : decode cB_retireWith 6 = .ok (.iload_n 1, 1) := by decide +kernel
theorem dB_retireWith_7 : decode cB_retireWith 7 = .ok (.putfield 15, 3) := by decide +kernel
theorem dB_retireWith_10 : decode cB_retireWith 10 = .ok (.return_, 1) := by decide +kernel
theorem dB_setFree_0 : decode cB_setFree 0 = .ok (.aload_n 0, 1) := by decide +kernel
theorem dB_setFree_1 : decode cB_setFree 1 = .ok (.iconst 0, 1) := by decide +kernel
theorem dB_setFree_2 : decode cB_setFree 2 = .ok (.putfield 9, 3) := by decide +kernel
theorem dB_setFree_5 : decode cB_setFree 5 = .ok (.aload_n 0, 1) := by decide +kernel
theorem dB_setFree_6 : decode cB_setFree 6 = .ok (.iconst (-1), 1) := by decide +kernel
theorem dB_setFree_7 : decode cB_setFree 7 = .ok (.putfield 15, 3) := by decide +kernel
theorem dB_setFree_10 : decode cB_setFree 10 = .ok (.return_, 1) := by decide +kernel
theorem dB_tell_0 : decode cB_tell 0 = .ok (.iload_n 1, 1) := by decide +kernel
theorem dB_tell_1 : decode cB_tell 1 = .ok (.tableswitch 68 0 4 #[35, 40, 45, 50, 63], 35) := by decide +kernel
theorem dB_tell_36 : decode cB_tell 36 = .ok (.aload_n 0, 1) := by decide +kernel
theorem dB_tell_37 : decode cB_tell 37 = .ok (.getfield 9, 3) := by decide +kernel
theorem dB_tell_40 : decode cB_tell 40 = .ok (.ireturn, 1) := by decide +kernel
theorem dB_tell_41 : decode cB_tell 41 = .ok (.aload_n 0, 1) := by decide +kernel
theorem dB_tell_42 : decode cB_tell 42 = .ok (.getfield 25, 3) := by decide +kernel
theorem dB_tell_45 : decode cB_tell 45 = .ok (.ireturn, 1) := by decide +kernel
theorem dB_tell_46 : decode cB_tell 46 = .ok (.aload_n 0, 1) := by decide +kernel
theorem dB_tell_47 : decode cB_tell 47 = .ok (.getfield 18, 3) := by decide +kernel
theorem dB_tell_50 : decode cB_tell 50 = .ok (.ireturn, 1) := by decide +kernel
theorem dB_tell_51 : decode cB_tell 51 = .ok (.aload_n 0, 1) := by decide +kernel
theorem dB_tell_52 : decode cB_tell 52 = .ok (.getfield 21, 3) := by decide +kernel
theorem dB_tell_55 : decode cB_tell 55 = .ok (.ifCond .eq 7, 3) := by decide +kernel
theorem dB_tell_58 : decode cB_tell 58 = .ok (.iconst 1, 1) := by decide +kernel
theorem dB_tell_59 : decode cB_tell 59 = .ok (.goto 4, 3) := by decide +kernel
theorem dB_tell_62 : decode cB_tell 62 = .ok (.iconst 0, 1) := by decide +kernel
theorem dB_tell_63 : decode cB_tell 63 = .ok (.ireturn, 1) := by decide +kernel
theorem dB_tell_64 : decode cB_tell 64 = .ok (.aload_n 0, 1) := by decide +kernel
theorem dB_tell_65 : decode cB_tell 65 = .ok (.getfield 28, 3) := by decide +kernel
theorem dB_tell_68 : decode cB_tell 68 = .ok (.ireturn, 1) := by decide +kernel
theorem dB_tell_69 : decode cB_tell 69 = .ok (.aload_n 0, 1) := by decide +kernel
theorem dB_tell_70 : decode cB_tell 70 = .ok (.getfield 15, 3) := by decide +kernel
theorem dB_tell_73 : decode cB_tell 73 = .ok (.ireturn, 1) := by decide +kernel
end
section
theorem dK_init_0 : decode cK_init 0 = .ok (.aload_n 0, 1) := by decide +kernel
theorem dK_init_1 : decode cK_init 1 = .ok (.invokespecial 3, 3) := by decide +kernel
theorem dK_init_4 : decode cK_init 4 = .ok (.aload_n 0, 1) := by decide +kernel
theorem dK_init_5 : decode cK_init 5 = .ok (.iconst 0, 1) := by decide +kernel
theorem dK_init_6 : decode cK_init 6 = .ok (.putfield 9, 3) := by decide +kernel
theorem dK_init_9 : decode cK_init 9 = .ok (.aload_n 0, 1) := by decide +kernel
theorem dK_init_10 : decode cK_init 10 = .ok (.iconst (-1), 1) := by decide +kernel
theorem dK_init_11 : decode cK_init 11 = .ok (.putfield 15, 3) := by decide +kernel
theorem dK_init_14 : decode cK_init 14 = .ok (.aload_n 0, 1) := by decide +kernel
theorem dK_init_15 : decode cK_init 15 = .ok (.iconst (-1), 1) := by decide +kernel
theorem dK_init_16 : decode cK_init 16 = .ok (.putfield 18, 3) := by decide +kernel
theorem dK_init_19 : decode cK_init 19 = .ok (.aload_n 0, 1) := by decide +kernel
theorem dK_init_20 : decode cK_init 20 = .ok (.iconst (-1), 1) := by decide +kernel
theorem dK_init_21 : decode cK_init 21 = .ok (.putfield 21, 3) := by decide +kernel
theorem dK_init_24 : decode cK_init 24 = .ok (.aload_n 0, 1) := by decide +kernel
theorem dK_init_25 : decode cK_init 25 = .ok (.iconst (-1), 1) := by decide +kernel
theorem dK_init_26 : decode cK_init 26 = .ok (.putfield 24, 3) := by decide +kernel
theorem dK_init_29 : decode cK_init 29 = .ok (.aload_n 0, 1) := by decide +kernel
theorem dK_init_30 : decode cK_init 30 = .ok (.iconst (-1), 1) := by decide +kernel
theorem dK_init_31 : decode cK_init 31 = .ok (.putfield 27, 3) := by decide +kernel
theorem dK_init_34 : decode cK_init 34 = .ok (.aload_n 0, 1) := by decide +kernel
theorem dK_init_35 : decode cK_init 35 = .ok (.iload_n 1, 1) := by decide +kernel
theorem dK_init_36 : decode cK_init 36 = .ok (.putfield 30, 3) := by decide +kernel
theorem dK_init_39 : decode cK_init 39 = .ok (.return_, 1) := by decide +kernel
theorem dK_forget_0 : decode cK_forget 0 = .ok (.aload_n 0, 1) := by decide +kernel
theorem dK_forget_1 : decode cK_forget 1 = .ok (.iconst 0, 1) := by decide +kernel
theorem dK_forget_2 : decode cK_forget 2 = .ok (.putfield 33, 3) := by decide +kernel
theorem dK_forget_5 : decode cK_forget 5 = .ok (.aload_n 0, 1) := by decide +kernel
theorem dK_forget_6 : decode cK_forget 6 = .ok (.iconst 0, 1) := by decide +kernel
theorem dK_forget_7 : decode cK_forget 7 = .ok (.putfield 36, 3) := by decide +kernel
theorem dK_forget_10 : decode cK_forget 10 = .ok (.aload_n 0, 1) := by decide +kernel
theorem dK_forget_11 : decode cK_forget 11 = .ok (.iconst 0, 1) := by decide +kernel
theorem dK_forget_12 : decode cK_forget 12 = .ok (.putfield 39, 3) := by decide +kernel
theorem dK_forget_15 : decode cK_forget 15 = .ok (.aload_n 0, 1) := by decide +kernel
theorem dK_forget_16 : decode cK_forget 16 = .ok (.iconst 0, 1) := by decide +kernel
theorem dK_forget_17 : decode cK_forget 17 = .ok (.putfield 42, 3) := by decide +kernel
theorem dK_forget_20 : decode cK_forget 20 = .ok (.aload_n 0, 1) := by decide +kernel
theorem dK_forget_21 : decode cK_forget 21 = .ok (.iconst 0, 1) := by decide +kernel
theorem dK_forget_22 : decode cK_forget 22 = .ok (.putfield 45, 3) := by decide +kernel
theorem dK_forget_25 : decode cK_forget 25 = .ok (.aload_n 0, 1) := by decide +kernel
theorem dK_forget_26 : decode cK_forget 26 = .ok (.iconst 0, 1) := by decide +kernel
theorem dK_forget_27 : decode cK_forget 27 = .ok (.putfield 48, 3) := by decide +kernel
theorem dK_forget_30 : decode cK_forget 30 = .ok (.aload_n 0, 1) := by decide +kernel
theorem dK_forget_31 : decode cK_forget 31 = .ok (.iconst 0, 1) := by decide +kernel
theorem dK_forget_32 : decode cK_forget 32 = .ok (.putfield 52, 3) := by decide +kernel
theorem dK_forget_35 : decode cK_forget 35 = .ok (.return_, 1) := by decide +kernel
end
section
theorem dL_cell_0 : decode cL_cell 0 = .ok (.iload_n 1, 1) := by decide +kernel
theorem dL_cell_1 : decode cL_cell 1 = .ok (.aload_n 0, 1) := by decide +kernel
theorem dL_cell_2 : decode cL_cell 2 = .ok (.arraylength, 1) := by decide +kernel
theorem dL_cell_3 : decode cL_cell 3 = .ok (.if_icmp .ge 9, 3) := by decide +kernel
theorem dL_cell_6 : decode cL_cell 6 = .ok (.aload_n 0, 1) := by decide +kernel
theorem dL_cell_7 : decode cL_cell 7 = .ok (.iload_n 1, 1) := by decide +kernel
theorem dL_cell_8 : decode cL_cell 8 = .ok (.iaload, 1) := by decide +kernel
theorem dL_cell_9 : decode cL_cell 9 = .ok (.goto 4, 3) := by decide +kernel
theorem dL_cell_12 : decode cL_cell 12 = .ok (.iconst 0, 1) := by decide +kernel
theorem dL_cell_13 : decode cL_cell 13 = .ok (.ireturn, 1) := by decide +kernel
theorem dL_begin_0 : decode cL_begin 0 = .ok (.aload_n 0, 1) := by decide +kernel
theorem dL_begin_1 : decode cL_begin 1 = .ok (.iload_n 1, 1) := by decide +kernel
theorem dL_begin_2 : decode cL_begin 2 = .ok (.iload_n 2, 1) := by decide +kernel
theorem dL_begin_3 : decode cL_begin 3 = .ok (.iload_n 3, 1) := by decide +kernel
theorem dL_begin_4 : decode cL_begin 4 = .ok (.invokevirtual 7, 3) := by decide +kernel
theorem dL_begin_7 : decode cL_begin 7 = .ok (.goto 15, 3) := by decide +kernel
theorem dL_begin_10 : decode cL_begin 10 = .ok (.astore 4, 2) := by decide +kernel
theorem dL_begin_12 : decode cL_begin 12 = .ok (.iconst 1, 1) := by decide +kernel
theorem dL_begin_13 : decode cL_begin 13 = .ok (.ireturn, 1) := by decide +kernel
theorem dL_begin_14 : decode cL_begin 14 = .ok (.astore 4, 2) := by decide +kernel
theorem dL_begin_16 : decode cL_begin 16 = .ok (.iconst 2, 1) := by decide +kernel
theorem dL_begin_17 : decode cL_begin 17 = .ok (.ireturn, 1) := by decide +kernel
theorem dL_begin_18 : decode cL_begin 18 = .ok (.astore 4, 2) := by decide +kernel
theorem dL_begin_20 : decode cL_begin 20 = .ok (.iconst 3, 1) := by decide +kernel
theorem dL_begin_21 : decode cL_begin 21 = .ok (.ireturn, 1) := by decide +kernel
theorem dL_begin_22 : decode cL_begin 22 = .ok (.iconst 0, 1) := by decide +kernel
theorem dL_begin_23 : decode cL_begin 23 = .ok (.ireturn, 1) := by decide +kernel
theorem dL_step_0 : decode cL_step 0 = .ok (.aload_n 2, 1) := by decide +kernel
theorem dL_step_1 : decode cL_step 1 = .ok (.iconst 0, 1) := by decide +kernel
theorem dL_step_2 : decode cL_step 2 = .ok (.aload_n 0, 1) := by decide +kernel
theorem dL_step_3 : decode cL_step 3 = .ok (.iload_n 1, 1) := by decide +kernel
theorem dL_step_4 : decode cL_step 4 = .ok (.invokevirtual 19, 3) := by decide +kernel
theorem dL_step_7 : decode cL_step 7 = .ok (.i2l, 1) := by decide +kernel
theorem dL_step_8 : decode cL_step 8 = .ok (.lastore, 1) := by decide +kernel
theorem dL_step_9 : decode cL_step 9 = .ok (.goto 9, 3) := by decide +kernel
theorem dL_step_12 : decode cL_step 12 = .ok (.astore_n 3, 1) := by decide +kernel
theorem dL_step_13 : decode cL_step 13 = .ok (.iconst 1, 1) := by decide +kernel
theorem dL_step_14 : decode cL_step 14 = .ok (.ireturn, 1) := by decide +kernel
theorem dL_step_15 : decode cL_step 15 = .ok (.astore_n 3, 1) := by decide +kernel
theorem dL_step_16 : decode cL_step 16 = .ok (.iconst 2, 1) := by decide +kernel
theorem dL_step_17 : decode cL_step 17 = .ok (.ireturn, 1) := by decide +kernel
theorem dL_step_18 : decode cL_step 18 = .ok (.iconst 0, 1) := by decide +kernel
theorem dL_step_19 : decode cL_step 19 = .ok (.ireturn, 1) := by decide +kernel
theorem dL_finish_0 : decode cL_finish 0 = .ok (.aload_n 2, 1) := by decide +kernel
theorem dL_finish_1 : decode cL_finish 1 = .ok (.iconst 0, 1) := by decide +kernel
theorem dL_finish_2 : decode cL_finish 2 = .ok (.aload_n 0, 1) := by decide +kernel
theorem dL_finish_3 : decode cL_finish 3 = .ok (.iload_n 1, 1) := by decide +kernel
theorem dL_finish_4 : decode cL_finish 4 = .ok (.invokevirtual 23, 3) := by decide +kernel
theorem dL_finish_7 : decode cL_finish 7 = .ok (.i2l, 1) := by decide +kernel
theorem dL_finish_8 : decode cL_finish 8 = .ok (.lastore, 1) := by decide +kernel
theorem dL_finish_9 : decode cL_finish 9 = .ok (.goto 9, 3) := by decide +kernel
theorem dL_finish_12 : decode cL_finish 12 = .ok (.astore_n 3, 1) := by decide +kernel
theorem dL_finish_13 : decode cL_finish 13 = .ok (.iconst 1, 1) := by decide +kernel
theorem dL_finish_14 : decode cL_finish 14 = .ok (.ireturn, 1) := by decide +kernel
theorem dL_finish_15 : decode cL_finish 15 = .ok (.astore_n 3, 1) := by decide +kernel
theorem dL_finish_16 : decode cL_finish 16 = .ok (.iconst 2, 1) := by decide +kernel
theorem dL_finish_17 : decode cL_finish 17 = .ok (.ireturn, 1) := by decide +kernel
theorem dL_finish_18 : decode cL_finish 18 = .ok (.iconst 0, 1) := by decide +kernel
theorem dL_finish_19 : decode cL_finish 19 = .ok (.ireturn, 1) := by decide +kernel
theorem dL_result_0 : decode cL_result 0 = .ok (.aload_n 2, 1) := by decide +kernel
theorem dL_result_1 : decode cL_result 1 = .ok (.iconst 0, 1) := by decide +kernel
theorem dL_result_2 : decode cL_result 2 = .ok (.aload_n 0, 1) := by decide +kernel
theorem dL_result_3 : decode cL_result 3 = .ok (.iload_n 1, 1) := by decide +kernel
theorem dL_result_4 : decode cL_result 4 = .ok (.invokevirtual 26, 3) := by decide +kernel
theorem dL_result_7 : decode cL_result 7 = .ok (.i2l, 1) := by decide +kernel
theorem dL_result_8 : decode cL_result 8 = .ok (.lastore, 1) := by decide +kernel
theorem dL_result_9 : decode cL_result 9 = .ok (.goto 9, 3) := by decide +kernel
theorem dL_result_12 : decode cL_result 12 = .ok (.astore_n 3, 1) := by decide +kernel
theorem dL_result_13 : decode cL_result 13 = .ok (.iconst 1, 1) := by decide +kernel
theorem dL_result_14 : decode cL_result 14 = .ok (.ireturn, 1) := by decide +kernel
theorem dL_result_15 : decode cL_result 15 = .ok (.astore_n 3, 1) := by decide +kernel
theorem dL_result_16 : decode cL_result 16 = .ok (.iconst 2, 1) := by decide +kernel
theorem dL_result_17 : decode cL_result 17 = .ok (.ireturn, 1) := by decide +kernel
theorem dL_result_18 : decode cL_result 18 = .ok (.iconst 0, 1) := by decide +kernel
theorem dL_result_19 : decode cL_result 19 = .ok (.ireturn, 1) := by decide +kernel
theorem dL_at_0 : decode cL_at 0 = .ok (.aload_n 2, 1) := by decide +kernel
theorem dL_at_1 : decode cL_at 1 = .ok (.iconst 0, 1) := by decide +kernel
theorem dL_at_2 : decode cL_at 2 = .ok (.aload_n 0, 1) := by decide +kernel
theorem dL_at_3 : decode cL_at 3 = .ok (.iload_n 1, 1) := by decide +kernel
theorem dL_at_4 : decode cL_at 4 = .ok (.invokevirtual 31, 3) := by decide +kernel
theorem dL_at_7 : decode cL_at 7 = .ok (.i2l, 1) := by decide +kernel
theorem dL_at_8 : decode cL_at 8 = .ok (.lastore, 1) := by decide +kernel
theorem dL_at_9 : decode cL_at 9 = .ok (.goto 6, 3) := by decide +kernel
theorem dL_at_12 : decode cL_at 12 = .ok (.astore_n 3, 1) := by decide +kernel
theorem dL_at_13 : decode cL_at 13 = .ok (.iconst 1, 1) := by decide +kernel
theorem dL_at_14 : decode cL_at 14 = .ok (.ireturn, 1) := by decide +kernel
theorem dL_at_15 : decode cL_at 15 = .ok (.iconst 0, 1) := by decide +kernel
theorem dL_at_16 : decode cL_at 16 = .ok (.ireturn, 1) := by decide +kernel
theorem dL_known_0 : decode cL_known 0 = .ok (.aload_n 3, 1) := by decide +kernel
theorem dL_known_1 : decode cL_known 1 = .ok (.iconst 0, 1) := by decide +kernel
theorem dL_known_2 : decode cL_known 2 = .ok (.aload_n 0, 1) := by decide +kernel
theorem dL_known_3 : decode cL_known 3 = .ok (.iload_n 1, 1) := by decide +kernel
theorem dL_known_4 : decode cL_known 4 = .ok (.iload_n 2, 1) := by decide +kernel
theorem dL_known_5 : decode cL_known 5 = .ok (.invokevirtual 34, 3) := by decide +kernel
theorem dL_known_8 : decode cL_known 8 = .ok (.i2l, 1) := by decide +kernel
theorem dL_known_9 : decode cL_known 9 = .ok (.lastore, 1) := by decide +kernel
theorem dL_known_10 : decode cL_known 10 = .ok (.goto 7, 3) := by decide +kernel
theorem dL_known_13 : decode cL_known 13 = .ok (.astore 4, 2) := by decide +kernel
theorem dL_known_15 : decode cL_known 15 = .ok (.iconst 1, 1) := by decide +kernel
theorem dL_known_16 : decode cL_known 16 = .ok (.ireturn, 1) := by decide +kernel
theorem dL_known_17 : decode cL_known 17 = .ok (.iconst 0, 1) := by decide +kernel
theorem dL_known_18 : decode cL_known 18 = .ok (.ireturn, 1) := by decide +kernel
theorem dL_says_0 : decode cL_says 0 = .ok (.aload_n 3, 1) := by decide +kernel
theorem dL_says_1 : decode cL_says 1 = .ok (.iconst 0, 1) := by decide +kernel
theorem dL_says_2 : decode cL_says 2 = .ok (.aload_n 0, 1) := by decide +kernel
theorem dL_says_3 : decode cL_says 3 = .ok (.iload_n 1, 1) := by decide +kernel
theorem dL_says_4 : decode cL_says 4 = .ok (.iload_n 2, 1) := by decide +kernel
theorem dL_says_5 : decode cL_says 5 = .ok (.invokevirtual 38, 3) := by decide +kernel
theorem dL_says_8 : decode cL_says 8 = .ok (.i2l, 1) := by decide +kernel
theorem dL_says_9 : decode cL_says 9 = .ok (.lastore, 1) := by decide +kernel
theorem dL_says_10 : decode cL_says 10 = .ok (.goto 7, 3) := by decide +kernel
theorem dL_says_13 : decode cL_says 13 = .ok (.astore 4, 2) := by decide +kernel
theorem dL_says_15 : decode cL_says 15 = .ok (.iconst 1, 1) := by decide +kernel
theorem dL_says_16 : decode cL_says 16 = .ok (.ireturn, 1) := by decide +kernel
theorem dL_says_17 : decode cL_says 17 = .ok (.iconst 0, 1) := by decide +kernel
theorem dL_says_18 : decode cL_says 18 = .ok (.ireturn, 1) := by decide +kernel
theorem dL_advance_0 : decode cL_advance 0 = .ok (.aload_n 1, 1) := by decide +kernel
theorem dL_advance_1 : decode cL_advance 1 = .ok (.iconst 0, 1) := by decide +kernel
theorem dL_advance_2 : decode cL_advance 2 = .ok (.aload_n 0, 1) := by decide +kernel
theorem dL_advance_3 : decode cL_advance 3 = .ok (.invokevirtual 41, 3) := by decide +kernel
theorem dL_advance_6 : decode cL_advance 6 = .ok (.ifCond .eq 7, 3) := by decide +kernel
theorem dL_advance_9 : decode cL_advance 9 = .ok (.lconst 1, 1) := by decide +kernel
theorem dL_advance_10 : decode cL_advance 10 = .ok (.goto 4, 3) := by decide +kernel
theorem dL_advance_13 : decode cL_advance 13 = .ok (.lconst 0, 1) := by decide +kernel
theorem dL_advance_14 : decode cL_advance 14 = .ok (.lastore, 1) := by decide +kernel
theorem dL_advance_15 : decode cL_advance 15 = .ok (.goto 6, 3) := by decide +kernel
theorem dL_advance_18 : decode cL_advance 18 = .ok (.astore_n 2, 1) := by decide +kernel
theorem dL_advance_19 : decode cL_advance 19 = .ok (.iconst 1, 1) := by decide +kernel
theorem dL_advance_20 : decode cL_advance 20 = .ok (.ireturn, 1) := by decide +kernel
theorem dL_advance_21 : decode cL_advance 21 = .ok (.iconst 0, 1) := by decide +kernel
theorem dL_advance_22 : decode cL_advance 22 = .ok (.ireturn, 1) := by decide +kernel
theorem dL_scan_0 : decode cL_scan 0 = .ok (.aload_n 2, 1) := by decide +kernel
theorem dL_scan_1 : decode cL_scan 1 = .ok (.iconst 0, 1) := by decide +kernel
theorem dL_scan_2 : decode cL_scan 2 = .ok (.aload_n 0, 1) := by decide +kernel
theorem dL_scan_3 : decode cL_scan 3 = .ok (.iload_n 1, 1) := by decide +kernel
theorem dL_scan_4 : decode cL_scan 4 = .ok (.invokevirtual 47, 3) := by decide +kernel
theorem dL_scan_7 : decode cL_scan 7 = .ok (.i2l, 1) := by decide +kernel
theorem dL_scan_8 : decode cL_scan 8 = .ok (.lastore, 1) := by decide +kernel
theorem dL_scan_9 : decode cL_scan 9 = .ok (.goto 9, 3) := by decide +kernel
theorem dL_scan_12 : decode cL_scan 12 = .ok (.astore_n 3, 1) := by decide +kernel
theorem dL_scan_13 : decode cL_scan 13 = .ok (.iconst 1, 1) := by decide +kernel
theorem dL_scan_14 : decode cL_scan 14 = .ok (.ireturn, 1) := by decide +kernel
theorem dL_scan_15 : decode cL_scan 15 = .ok (.astore_n 3, 1) := by decide +kernel
theorem dL_scan_16 : decode cL_scan 16 = .ok (.iconst 2, 1) := by decide +kernel
theorem dL_scan_17 : decode cL_scan 17 = .ok (.ireturn, 1) := by decide +kernel
theorem dL_scan_18 : decode cL_scan 18 = .ok (.iconst 0, 1) := by decide +kernel
theorem dL_scan_19 : decode cL_scan 19 = .ok (.ireturn, 1) := by decide +kernel
theorem dL_block_0 : decode cL_block 0 = .ok (.aload_n 3, 1) := by decide +kernel
theorem dL_block_1 : decode cL_block 1 = .ok (.iconst 0, 1) := by decide +kernel
theorem dL_block_2 : decode cL_block 2 = .ok (.aload_n 0, 1) := by decide +kernel
theorem dL_block_3 : decode cL_block 3 = .ok (.iload_n 1, 1) := by decide +kernel
theorem dL_block_4 : decode cL_block 4 = .ok (.iload_n 2, 1) := by decide +kernel
theorem dL_block_5 : decode cL_block 5 = .ok (.invokevirtual 50, 3) := by decide +kernel
theorem dL_block_8 : decode cL_block 8 = .ok (.i2l, 1) := by decide +kernel
theorem dL_block_9 : decode cL_block 9 = .ok (.lastore, 1) := by decide +kernel
theorem dL_block_10 : decode cL_block 10 = .ok (.goto 7, 3) := by decide +kernel
theorem dL_block_13 : decode cL_block 13 = .ok (.astore 4, 2) := by decide +kernel
theorem dL_block_15 : decode cL_block 15 = .ok (.iconst 1, 1) := by decide +kernel
theorem dL_block_16 : decode cL_block 16 = .ok (.ireturn, 1) := by decide +kernel
theorem dL_block_17 : decode cL_block 17 = .ok (.iconst 0, 1) := by decide +kernel
theorem dL_block_18 : decode cL_block 18 = .ok (.ireturn, 1) := by decide +kernel
theorem dL_law_0 : decode code 0 = .ok (.new 8, 3) := by decide +kernel
theorem dL_law_3 : decode code 3 = .ok (.dup, 1) := by decide +kernel
theorem dL_law_4 : decode code 4 = .ok (.aload_n 0, 1) := by decide +kernel
theorem dL_law_5 : decode code 5 = .ok (.iconst 0, 1) := by decide +kernel
theorem dL_law_6 : decode code 6 = .ok (.invokestatic 53, 3) := by decide +kernel
theorem dL_law_9 : decode code 9 = .ok (.invokespecial 59, 3) := by decide +kernel
theorem dL_law_12 : decode code 12 = .ok (.astore_n 1, 1) := by decide +kernel
theorem dL_law_13 : decode code 13 = .ok (.new 62, 3) := by decide +kernel
theorem dL_law_16 : decode code 16 = .ok (.dup, 1) := by decide +kernel
theorem dL_law_17 : decode code 17 = .ok (.aload_n 0, 1) := by decide +kernel
theorem dL_law_18 : decode code 18 = .ok (.iconst 0, 1) := by decide +kernel
theorem dL_law_19 : decode code 19 = .ok (.invokestatic 53, 3) := by decide +kernel
theorem dL_law_22 : decode code 22 = .ok (.invokespecial 64, 3) := by decide +kernel
theorem dL_law_25 : decode code 25 = .ok (.astore_n 2, 1) := by decide +kernel
theorem dL_law_26 : decode code 26 = .ok (.iconst 1, 1) := by decide +kernel
theorem dL_law_27 : decode code 27 = .ok (.newarray .long, 2) := by decide +kernel
theorem dL_law_29 : decode code 29 = .ok (.astore_n 3, 1) := by decide +kernel
theorem dL_law_30 : decode code 30 = .ok (.iconst 1, 1) := by decide +kernel
theorem dL_law_31 : decode code 31 = .ok (.istore 4, 2) := by decide +kernel
theorem dL_law_33 : decode code 33 = .ok (.iload 4, 2) := by decide +kernel
theorem dL_law_35 : decode code 35 = .ok (.aload_n 0, 1) := by decide +kernel
theorem dL_law_36 : decode code 36 = .ok (.arraylength, 1) := by decide +kernel
theorem dL_law_37 : decode code 37 = .ok (.iconst 4, 1) := by decide +kernel
theorem dL_law_38 : decode code 38 = .ok (.isub, 1) := by decide +kernel
theorem dL_law_39 : decode code 39 = .ok (.if_icmp .gt 746, 3) := by decide +kernel
theorem dL_law_42 : decode code 42 = .ok (.aload_n 0, 1) := by decide +kernel
theorem dL_law_43 : decode code 43 = .ok (.iload 4, 2) := by decide +kernel
theorem dL_law_45 : decode code 45 = .ok (.iaload, 1) := by decide +kernel
theorem dL_law_46 : decode code 46 = .ok (.bipush 15, 2) := by decide +kernel
theorem dL_law_48 : decode code 48 = .ok (.iand, 1) := by decide +kernel
theorem dL_law_49 : decode code 49 = .ok (.tableswitch 730 0 13 #[71, 131, 187, 243, 299, 355, 423, 491, 542, 598, 666, 679, 704, 717], 71) := by decide +kernel
theorem dL_law_120 : decode code 120 = .ok (.aload_n 1, 1) := by decide +kernel
theorem dL_law_121 : decode code 121 = .ok (.aload_n 0, 1) := by decide +kernel
theorem dL_law_122 : decode code 122 = .ok (.iload 4, 2) := by decide +kernel
theorem dL_law_124 : decode code 124 = .ok (.iconst 1, 1) := by decide +kernel
theorem dL_law_125 : decode code 125 = .ok (.iadd, 1) := by decide +kernel
theorem dL_law_126 : decode code 126 = .ok (.iaload, 1) := by decide +kernel
theorem dL_law_127 : decode code 127 = .ok (.aload_n 0, 1) := by decide +kernel
theorem dL_law_128 : decode code 128 = .ok (.iload 4, 2) := by decide +kernel
theorem dL_law_130 : decode code 130 = .ok (.iconst 2, 1) := by decide +kernel
theorem dL_law_131 : decode code 131 = .ok (.iadd, 1) := by decide +kernel
theorem dL_law_132 : decode code 132 = .ok (.iaload, 1) := by decide +kernel
theorem dL_law_133 : decode code 133 = .ok (.aload_n 0, 1) := by decide +kernel
theorem dL_law_134 : decode code 134 = .ok (.iload 4, 2) := by decide +kernel
theorem dL_law_136 : decode code 136 = .ok (.iconst 3, 1) := by decide +kernel
theorem dL_law_137 : decode code 137 = .ok (.iadd, 1) := by decide +kernel
theorem dL_law_138 : decode code 138 = .ok (.iaload, 1) := by decide +kernel
theorem dL_law_139 : decode code 139 = .ok (.invokestatic 65, 3) := by decide +kernel
theorem dL_law_142 : decode code 142 = .ok (.istore 5, 2) := by decide +kernel
theorem dL_law_144 : decode code 144 = .ok (.aload_n 2, 1) := by decide +kernel
theorem dL_law_145 : decode code 145 = .ok (.aload_n 0, 1) := by decide +kernel
theorem dL_law_146 : decode code 146 = .ok (.iload 4, 2) := by decide +kernel
theorem dL_law_148 : decode code 148 = .ok (.iconst 1, 1) := by decide +kernel
theorem dL_law_149 : decode code 149 = .ok (.iadd, 1) := by decide +kernel
theorem dL_law_150 : decode code 150 = .ok (.iaload, 1) := by decide +kernel
theorem dL_law_151 : decode code 151 = .ok (.aload_n 0, 1) := by decide +kernel
theorem dL_law_152 : decode code 152 = .ok (.iload 4, 2) := by decide +kernel
theorem dL_law_154 : decode code 154 = .ok (.iconst 2, 1) := by decide +kernel
theorem dL_law_155 : decode code 155 = .ok (.iadd, 1) := by decide +kernel
theorem dL_law_156 : decode code 156 = .ok (.iaload, 1) := by decide +kernel
theorem dL_law_157 : decode code 157 = .ok (.aload_n 0, 1) := by decide +kernel
theorem dL_law_158 : decode code 158 = .ok (.iload 4, 2) := by decide +kernel
theorem dL_law_160 : decode code 160 = .ok (.iconst 3, 1) := by decide +kernel
theorem dL_law_161 : decode code 161 = .ok (.iadd, 1) := by decide +kernel
theorem dL_law_162 : decode code 162 = .ok (.iaload, 1) := by decide +kernel
theorem dL_law_163 : decode code 163 = .ok (.invokevirtual 68, 3) := by decide +kernel
theorem dL_law_166 : decode code 166 = .ok (.aload_n 2, 1) := by decide +kernel
theorem dL_law_167 : decode code 167 = .ok (.invokevirtual 69, 3) := by decide +kernel
theorem dL_law_170 : decode code 170 = .ok (.iload 5, 2) := by decide +kernel
theorem dL_law_172 : decode code 172 = .ok (.if_icmp .eq 5, 3) := by decide +kernel
theorem dL_law_175 : decode code 175 = .ok (.iconst 0, 1) := by decide +kernel
theorem dL_law_176 : decode code 176 = .ok (.ireturn, 1) := by decide +kernel
theorem dL_law_177 : decode code 177 = .ok (.goto 602, 3) := by decide +kernel
theorem dL_law_180 : decode code 180 = .ok (.aload_n 1, 1) := by decide +kernel
theorem dL_law_181 : decode code 181 = .ok (.aload_n 0, 1) := by decide +kernel
theorem dL_law_182 : decode code 182 = .ok (.iload 4, 2) := by decide +kernel
theorem dL_law_184 : decode code 184 = .ok (.iconst 1, 1) := by decide +kernel
theorem dL_law_185 : decode code 185 = .ok (.iadd, 1) := by decide +kernel
theorem dL_law_186 : decode code 186 = .ok (.iaload, 1) := by decide +kernel
theorem dL_law_187 : decode code 187 = .ok (.aload_n 3, 1) := by decide +kernel
theorem dL_law_188 : decode code 188 = .ok (.invokestatic 73, 3) := by decide +kernel
theorem dL_law_191 : decode code 191 = .ok (.istore 5, 2) := by decide +kernel
theorem dL_law_193 : decode code 193 = .ok (.aload_n 2, 1) := by decide +kernel
theorem dL_law_194 : decode code 194 = .ok (.aload_n 0, 1) := by decide +kernel
theorem dL_law_195 : decode code 195 = .ok (.iload 4, 2) := by decide +kernel
theorem dL_law_197 : decode code 197 = .ok (.iconst 1, 1) := by decide +kernel
theorem dL_law_198 : decode code 198 = .ok (.iadd, 1) := by decide +kernel
theorem dL_law_199 : decode code 199 = .ok (.iaload, 1) := by decide +kernel
theorem dL_law_200 : decode code 200 = .ok (.invokevirtual 76, 3) := by decide +kernel
theorem dL_law_203 : decode code 203 = .ok (.istore 6, 2) := by decide +kernel
theorem dL_law_205 : decode code 205 = .ok (.aload_n 2, 1) := by decide +kernel
theorem dL_law_206 : decode code 206 = .ok (.invokevirtual 69, 3) := by decide +kernel
theorem dL_law_209 : decode code 209 = .ok (.iload 5, 2) := by decide +kernel
theorem dL_law_211 : decode code 211 = .ok (.if_icmp .eq 5, 3) := by decide +kernel
theorem dL_law_214 : decode code 214 = .ok (.iconst 0, 1) := by decide +kernel
theorem dL_law_215 : decode code 215 = .ok (.ireturn, 1) := by decide +kernel
theorem dL_law_216 : decode code 216 = .ok (.iload 5, 2) := by decide +kernel
theorem dL_law_218 : decode code 218 = .ok (.ifCond .ne 15, 3) := by decide +kernel
theorem dL_law_221 : decode code 221 = .ok (.aload_n 3, 1) := by decide +kernel
theorem dL_law_222 : decode code 222 = .ok (.iconst 0, 1) := by decide +kernel
theorem dL_law_223 : decode code 223 = .ok (.laload, 1) := by decide +kernel
theorem dL_law_224 : decode code 224 = .ok (.iload 6, 2) := by decide +kernel
theorem dL_law_226 : decode code 226 = .ok (.i2l, 1) := by decide +kernel
theorem dL_law_227 : decode code 227 = .ok (.lcmp, 1) := by decide +kernel
theorem dL_law_228 : decode code 228 = .ok (.ifCond .eq 5, 3) := by decide +kernel
theorem dL_law_231 : decode code 231 = .ok (.iconst 0, 1) := by decide +kernel
theorem dL_law_232 : decode code 232 = .ok (.ireturn, 1) := by decide +kernel
theorem dL_law_233 : decode code 233 = .ok (.goto 546, 3) := by decide +kernel
theorem dL_law_236 : decode code 236 = .ok (.aload_n 1, 1) := by decide +kernel
theorem dL_law_237 : decode code 237 = .ok (.aload_n 0, 1) := by decide +kernel
theorem dL_law_238 : decode code 238 = .ok (.iload 4, 2) := by decide +kernel
theorem dL_law_240 : decode code 240 = .ok (.iconst 1, 1) := by decide +kernel
theorem dL_law_241 : decode code 241 = .ok (.iadd, 1) := by decide +kernel
theorem dL_law_242 : decode code 242 = .ok (.iaload, 1) := by decide +kernel
theorem dL_law_243 : decode code 243 = .ok (.aload_n 3, 1) := by decide +kernel
theorem dL_law_244 : decode code 244 = .ok (.invokestatic 77, 3) := by decide +kernel
theorem dL_law_247 : decode code 247 = .ok (.istore 5, 2) := by decide +kernel
theorem dL_law_249 : decode code 249 = .ok (.aload_n 2, 1) := by decide +kernel
theorem dL_law_250 : decode code 250 = .ok (.aload_n 0, 1) := by decide +kernel
theorem dL_law_251 : decode code 251 = .ok (.iload 4, 2) := by decide +kernel
theorem dL_law_253 : decode code 253 = .ok (.iconst 1, 1) := by decide +kernel
theorem dL_law_254 : decode code 254 = .ok (.iadd, 1) := by decide +kernel
theorem dL_law_255 : decode code 255 = .ok (.iaload, 1) := by decide +kernel
theorem dL_law_256 : decode code 256 = .ok (.invokevirtual 79, 3) := by decide +kernel
theorem dL_law_259 : decode code 259 = .ok (.istore 6, 2) := by decide +kernel
theorem dL_law_261 : decode code 261 = .ok (.aload_n 2, 1) := by decide +kernel
theorem dL_law_262 : decode code 262 = .ok (.invokevirtual 69, 3) := by decide +kernel
theorem dL_law_265 : decode code 265 = .ok (.iload 5, 2) := by decide +kernel
theorem dL_law_267 : decode code 267 = .ok (.if_icmp .eq 5, 3) := by decide +kernel
theorem dL_law_270 : decode code 270 = .ok (.iconst 0, 1) := by decide +kernel
theorem dL_law_271 : decode code 271 = .ok (.ireturn, 1) := by decide +kernel
theorem dL_law_272 : decode code 272 = .ok (.iload 5, 2) := by decide +kernel
theorem dL_law_274 : decode code 274 = .ok (.ifCond .ne 15, 3) := by decide +kernel
theorem dL_law_277 : decode code 277 = .ok (.aload_n 3, 1) := by decide +kernel
theorem dL_law_278 : decode code 278 = .ok (.iconst 0, 1) := by decide +kernel
theorem dL_law_279 : decode code 279 = .ok (.laload, 1) := by decide +kernel
theorem dL_law_280 : decode code 280 = .ok (.iload 6, 2) := by decide +kernel
theorem dL_law_282 : decode code 282 = .ok (.i2l, 1) := by decide +kernel
theorem dL_law_283 : decode code 283 = .ok (.lcmp, 1) := by decide +kernel
theorem dL_law_284 : decode code 284 = .ok (.ifCond .eq 5, 3) := by decide +kernel
theorem dL_law_287 : decode code 287 = .ok (.iconst 0, 1) := by decide +kernel
theorem dL_law_288 : decode code 288 = .ok (.ireturn, 1) := by decide +kernel
theorem dL_law_289 : decode code 289 = .ok (.goto 490, 3) := by decide +kernel
theorem dL_law_292 : decode code 292 = .ok (.aload_n 1, 1) := by decide +kernel
theorem dL_law_293 : decode code 293 = .ok (.aload_n 0, 1) := by decide +kernel
theorem dL_law_294 : decode code 294 = .ok (.iload 4, 2) := by decide +kernel
theorem dL_law_296 : decode code 296 = .ok (.iconst 1, 1) := by decide +kernel
theorem dL_law_297 : decode code 297 = .ok (.iadd, 1) := by decide +kernel
theorem dL_law_298 : decode code 298 = .ok (.iaload, 1) := by decide +kernel
theorem dL_law_299 : decode code 299 = .ok (.aload_n 3, 1) := by decide +kernel
theorem dL_law_300 : decode code 300 = .ok (.invokestatic 80, 3) := by decide +kernel
theorem dL_law_303 : decode code 303 = .ok (.istore 5, 2) := by decide +kernel
theorem dL_law_305 : decode code 305 = .ok (.aload_n 2, 1) := by decide +kernel
theorem dL_law_306 : decode code 306 = .ok (.aload_n 0, 1) := by decide +kernel
theorem dL_law_307 : decode code 307 = .ok (.iload 4, 2) := by decide +kernel
theorem dL_law_309 : decode code 309 = .ok (.iconst 1, 1) := by decide +kernel
theorem dL_law_310 : decode code 310 = .ok (.iadd, 1) := by decide +kernel
theorem dL_law_311 : decode code 311 = .ok (.iaload, 1) := by decide +kernel
theorem dL_law_312 : decode code 312 = .ok (.invokevirtual 82, 3) := by decide +kernel
theorem dL_law_315 : decode code 315 = .ok (.istore 6, 2) := by decide +kernel
theorem dL_law_317 : decode code 317 = .ok (.aload_n 2, 1) := by decide +kernel
theorem dL_law_318 : decode code 318 = .ok (.invokevirtual 69, 3) := by decide +kernel
theorem dL_law_321 : decode code 321 = .ok (.iload 5, 2) := by decide +kernel
theorem dL_law_323 : decode code 323 = .ok (.if_icmp .eq 5, 3) := by decide +kernel
theorem dL_law_326 : decode code 326 = .ok (.iconst 0, 1) := by decide +kernel
theorem dL_law_327 : decode code 327 = .ok (.ireturn, 1) := by decide +kernel
theorem dL_law_328 : decode code 328 = .ok (.iload 5, 2) := by decide +kernel
theorem dL_law_330 : decode code 330 = .ok (.ifCond .ne 15, 3) := by decide +kernel
theorem dL_law_333 : decode code 333 = .ok (.aload_n 3, 1) := by decide +kernel
theorem dL_law_334 : decode code 334 = .ok (.iconst 0, 1) := by decide +kernel
theorem dL_law_335 : decode code 335 = .ok (.laload, 1) := by decide +kernel
theorem dL_law_336 : decode code 336 = .ok (.iload 6, 2) := by decide +kernel
theorem dL_law_338 : decode code 338 = .ok (.i2l, 1) := by decide +kernel
theorem dL_law_339 : decode code 339 = .ok (.lcmp, 1) := by decide +kernel
theorem dL_law_340 : decode code 340 = .ok (.ifCond .eq 5, 3) := by decide +kernel
theorem dL_law_343 : decode code 343 = .ok (.iconst 0, 1) := by decide +kernel
theorem dL_law_344 : decode code 344 = .ok (.ireturn, 1) := by decide +kernel
theorem dL_law_345 : decode code 345 = .ok (.goto 434, 3) := by decide +kernel
theorem dL_law_348 : decode code 348 = .ok (.aload_n 1, 1) := by decide +kernel
theorem dL_law_349 : decode code 349 = .ok (.aload_n 0, 1) := by decide +kernel
theorem dL_law_350 : decode code 350 = .ok (.iload 4, 2) := by decide +kernel
theorem dL_law_352 : decode code 352 = .ok (.iconst 1, 1) := by decide +kernel
theorem dL_law_353 : decode code 353 = .ok (.iadd, 1) := by decide +kernel
theorem dL_law_354 : decode code 354 = .ok (.iaload, 1) := by decide +kernel
theorem dL_law_355 : decode code 355 = .ok (.aload_n 3, 1) := by decide +kernel
theorem dL_law_356 : decode code 356 = .ok (.invokestatic 83, 3) := by decide +kernel
theorem dL_law_359 : decode code 359 = .ok (.istore 5, 2) := by decide +kernel
theorem dL_law_361 : decode code 361 = .ok (.aload_n 2, 1) := by decide +kernel
theorem dL_law_362 : decode code 362 = .ok (.aload_n 0, 1) := by decide +kernel
theorem dL_law_363 : decode code 363 = .ok (.iload 4, 2) := by decide +kernel
theorem dL_law_365 : decode code 365 = .ok (.iconst 1, 1) := by decide +kernel
theorem dL_law_366 : decode code 366 = .ok (.iadd, 1) := by decide +kernel
theorem dL_law_367 : decode code 367 = .ok (.iaload, 1) := by decide +kernel
theorem dL_law_368 : decode code 368 = .ok (.invokevirtual 85, 3) := by decide +kernel
theorem dL_law_371 : decode code 371 = .ok (.istore 6, 2) := by decide +kernel
theorem dL_law_373 : decode code 373 = .ok (.aload_n 2, 1) := by decide +kernel
theorem dL_law_374 : decode code 374 = .ok (.invokevirtual 69, 3) := by decide +kernel
theorem dL_law_377 : decode code 377 = .ok (.iload 5, 2) := by decide +kernel
theorem dL_law_379 : decode code 379 = .ok (.if_icmp .eq 5, 3) := by decide +kernel
theorem dL_law_382 : decode code 382 = .ok (.iconst 0, 1) := by decide +kernel
theorem dL_law_383 : decode code 383 = .ok (.ireturn, 1) := by decide +kernel
theorem dL_law_384 : decode code 384 = .ok (.iload 5, 2) := by decide +kernel
theorem dL_law_386 : decode code 386 = .ok (.ifCond .ne 15, 3) := by decide +kernel
theorem dL_law_389 : decode code 389 = .ok (.aload_n 3, 1) := by decide +kernel
theorem dL_law_390 : decode code 390 = .ok (.iconst 0, 1) := by decide +kernel
theorem dL_law_391 : decode code 391 = .ok (.laload, 1) := by decide +kernel
theorem dL_law_392 : decode code 392 = .ok (.iload 6, 2) := by decide +kernel
theorem dL_law_394 : decode code 394 = .ok (.i2l, 1) := by decide +kernel
theorem dL_law_395 : decode code 395 = .ok (.lcmp, 1) := by decide +kernel
theorem dL_law_396 : decode code 396 = .ok (.ifCond .eq 5, 3) := by decide +kernel
theorem dL_law_399 : decode code 399 = .ok (.iconst 0, 1) := by decide +kernel
theorem dL_law_400 : decode code 400 = .ok (.ireturn, 1) := by decide +kernel
theorem dL_law_401 : decode code 401 = .ok (.goto 378, 3) := by decide +kernel
theorem dL_law_404 : decode code 404 = .ok (.aload_n 1, 1) := by decide +kernel
theorem dL_law_405 : decode code 405 = .ok (.aload_n 0, 1) := by decide +kernel
theorem dL_law_406 : decode code 406 = .ok (.iload 4, 2) := by decide +kernel
theorem dL_law_408 : decode code 408 = .ok (.iconst 1, 1) := by decide +kernel
theorem dL_law_409 : decode code 409 = .ok (.iadd, 1) := by decide +kernel
theorem dL_law_410 : decode code 410 = .ok (.iaload, 1) := by decide +kernel
theorem dL_law_411 : decode code 411 = .ok (.aload_n 0, 1) := by decide +kernel
theorem dL_law_412 : decode code 412 = .ok (.iload 4, 2) := by decide +kernel
theorem dL_law_414 : decode code 414 = .ok (.iconst 2, 1) := by decide +kernel
theorem dL_law_415 : decode code 415 = .ok (.iadd, 1) := by decide +kernel
theorem dL_law_416 : decode code 416 = .ok (.iaload, 1) := by decide +kernel
theorem dL_law_417 : decode code 417 = .ok (.aload_n 3, 1) := by decide +kernel
theorem dL_law_418 : decode code 418 = .ok (.invokestatic 86, 3) := by decide +kernel
theorem dL_law_421 : decode code 421 = .ok (.istore 5, 2) := by decide +kernel
theorem dL_law_423 : decode code 423 = .ok (.aload_n 2, 1) := by decide +kernel
theorem dL_law_424 : decode code 424 = .ok (.aload_n 0, 1) := by decide +kernel
theorem dL_law_425 : decode code 425 = .ok (.iload 4, 2) := by decide +kernel
theorem dL_law_427 : decode code 427 = .ok (.iconst 1, 1) := by decide +kernel
theorem dL_law_428 : decode code 428 = .ok (.iadd, 1) := by decide +kernel
theorem dL_law_429 : decode code 429 = .ok (.iaload, 1) := by decide +kernel
theorem dL_law_430 : decode code 430 = .ok (.aload_n 0, 1) := by decide +kernel
theorem dL_law_431 : decode code 431 = .ok (.iload 4, 2) := by decide +kernel
theorem dL_law_433 : decode code 433 = .ok (.iconst 2, 1) := by decide +kernel
theorem dL_law_434 : decode code 434 = .ok (.iadd, 1) := by decide +kernel
theorem dL_law_435 : decode code 435 = .ok (.iaload, 1) := by decide +kernel
theorem dL_law_436 : decode code 436 = .ok (.invokevirtual 89, 3) := by decide +kernel
end
section
theorem dL_law_439 : decode code 439 = .ok (.istore 6, 2) := by decide +kernel
theorem dL_law_441 : decode code 441 = .ok (.aload_n 2, 1) := by decide +kernel
theorem dL_law_442 : decode code 442 = .ok (.invokevirtual 69, 3) := by decide +kernel
theorem dL_law_445 : decode code 445 = .ok (.iload 5, 2) := by decide +kernel
theorem dL_law_447 : decode code 447 = .ok (.if_icmp .eq 5, 3) := by decide +kernel
theorem dL_law_450 : decode code 450 = .ok (.iconst 0, 1) := by decide +kernel
theorem dL_law_451 : decode code 451 = .ok (.ireturn, 1) := by decide +kernel
theorem dL_law_452 : decode code 452 = .ok (.iload 5, 2) := by decide +kernel
theorem dL_law_454 : decode code 454 = .ok (.ifCond .ne 15, 3) := by decide +kernel
theorem dL_law_457 : decode code 457 = .ok (.aload_n 3, 1) := by decide +kernel
theorem dL_law_458 : decode code 458 = .ok (.iconst 0, 1) := by decide +kernel
theorem dL_law_459 : decode code 459 = .ok (.laload, 1) := by decide +kernel
theorem dL_law_460 : decode code 460 = .ok (.iload 6, 2) := by decide +kernel
theorem dL_law_462 : decode code 462 = .ok (.i2l, 1) := by decide +kernel
theorem dL_law_463 : decode code 463 = .ok (.lcmp, 1) := by decide +kernel
theorem dL_law_464 : decode code 464 = .ok (.ifCond .eq 5, 3) := by decide +kernel
theorem dL_law_467 : decode code 467 = .ok (.iconst 0, 1) := by decide +kernel
theorem dL_law_468 : decode code 468 = .ok (.ireturn, 1) := by decide +kernel
theorem dL_law_469 : decode code 469 = .ok (.goto 310, 3) := by decide +kernel
theorem dL_law_472 : decode code 472 = .ok (.aload_n 1, 1) := by decide +kernel
theorem dL_law_473 : decode code 473 = .ok (.aload_n 0, 1) := by decide +kernel
theorem dL_law_474 : decode code 474 = .ok (.iload 4, 2) := by decide +kernel
theorem dL_law_476 : decode code 476 = .ok (.iconst 1, 1) := by decide +kernel
theorem dL_law_477 : decode code 477 = .ok (.iadd, 1) := by decide +kernel
theorem dL_law_478 : decode code 478 = .ok (.iaload, 1) := by decide +kernel
theorem dL_law_479 : decode code 479 = .ok (.aload_n 0, 1) := by decide +kernel
theorem dL_law_480 : decode code 480 = .ok (.iload 4, 2) := by decide +kernel
theorem dL_law_482 : decode code 482 = .ok (.iconst 2, 1) := by decide +kernel
theorem dL_law_483 : decode code 483 = .ok (.iadd, 1) := by decide +kernel
theorem dL_law_484 : decode code 484 = .ok (.iaload, 1) := by decide +kernel
theorem dL_law_485 : decode code 485 = .ok (.aload_n 3, 1) := by decide +kernel
theorem dL_law_486 : decode code 486 = .ok (.invokestatic 90, 3) := by decide +kernel
theorem dL_law_489 : decode code 489 = .ok (.istore 5, 2) := by decide +kernel
theorem dL_law_491 : decode code 491 = .ok (.aload_n 2, 1) := by decide +kernel
theorem dL_law_492 : decode code 492 = .ok (.aload_n 0, 1) := by decide +kernel
theorem dL_law_493 : decode code 493 = .ok (.iload 4, 2) := by decide +kernel
theorem dL_law_495 : decode code 495 = .ok (.iconst 1, 1) := by decide +kernel
theorem dL_law_496 : decode code 496 = .ok (.iadd, 1) := by decide +kernel
theorem dL_law_497 : decode code 497 = .ok (.iaload, 1) := by decide +kernel
theorem dL_law_498 : decode code 498 = .ok (.aload_n 0, 1) := by decide +kernel
theorem dL_law_499 : decode code 499 = .ok (.iload 4, 2) := by decide +kernel
theorem dL_law_501 : decode code 501 = .ok (.iconst 2, 1) := by decide +kernel
theorem dL_law_502 : decode code 502 = .ok (.iadd, 1) := by decide +kernel
theorem dL_law_503 : decode code 503 = .ok (.iaload, 1) := by decide +kernel
theorem dL_law_504 : decode code 504 = .ok (.invokevirtual 92, 3) := by decide +kernel
theorem dL_law_507 : decode code 507 = .ok (.istore 6, 2) := by decide +kernel
theorem dL_law_509 : decode code 509 = .ok (.aload_n 2, 1) := by decide +kernel
theorem dL_law_510 : decode code 510 = .ok (.invokevirtual 69, 3) := by decide +kernel
theorem dL_law_513 : decode code 513 = .ok (.iload 5, 2) := by decide +kernel
theorem dL_law_515 : decode code 515 = .ok (.if_icmp .eq 5, 3) := by decide +kernel
theorem dL_law_518 : decode code 518 = .ok (.iconst 0, 1) := by decide +kernel
theorem dL_law_519 : decode code 519 = .ok (.ireturn, 1) := by decide +kernel
theorem dL_law_520 : decode code 520 = .ok (.iload 5, 2) := by decide +kernel
theorem dL_law_522 : decode code 522 = .ok (.ifCond .ne 15, 3) := by decide +kernel
theorem dL_law_525 : decode code 525 = .ok (.aload_n 3, 1) := by decide +kernel
theorem dL_law_526 : decode code 526 = .ok (.iconst 0, 1) := by decide +kernel
theorem dL_law_527 : decode code 527 = .ok (.laload, 1) := by decide +kernel
theorem dL_law_528 : decode code 528 = .ok (.iload 6, 2) := by decide +kernel
theorem dL_law_530 : decode code 530 = .ok (.i2l, 1) := by decide +kernel
theorem dL_law_531 : decode code 531 = .ok (.lcmp, 1) := by decide +kernel
theorem dL_law_532 : decode code 532 = .ok (.ifCond .eq 5, 3) := by decide +kernel
theorem dL_law_535 : decode code 535 = .ok (.iconst 0, 1) := by decide +kernel
theorem dL_law_536 : decode code 536 = .ok (.ireturn, 1) := by decide +kernel
theorem dL_law_537 : decode code 537 = .ok (.goto 242, 3) := by decide +kernel
theorem dL_law_540 : decode code 540 = .ok (.aload_n 1, 1) := by decide +kernel
theorem dL_law_541 : decode code 541 = .ok (.aload_n 3, 1) := by decide +kernel
theorem dL_law_542 : decode code 542 = .ok (.invokestatic 93, 3) := by decide +kernel
theorem dL_law_545 : decode code 545 = .ok (.istore 5, 2) := by decide +kernel
theorem dL_law_547 : decode code 547 = .ok (.aload_n 2, 1) := by decide +kernel
theorem dL_law_548 : decode code 548 = .ok (.invokevirtual 96, 3) := by decide +kernel
theorem dL_law_551 : decode code 551 = .ok (.istore 6, 2) := by decide +kernel
theorem dL_law_553 : decode code 553 = .ok (.aload_n 2, 1) := by decide +kernel
theorem dL_law_554 : decode code 554 = .ok (.invokevirtual 69, 3) := by decide +kernel
theorem dL_law_557 : decode code 557 = .ok (.iload 5, 2) := by decide +kernel
theorem dL_law_559 : decode code 559 = .ok (.if_icmp .eq 5, 3) := by decide +kernel
theorem dL_law_562 : decode code 562 = .ok (.iconst 0, 1) := by decide +kernel
theorem dL_law_563 : decode code 563 = .ok (.ireturn, 1) := by decide +kernel
theorem dL_law_564 : decode code 564 = .ok (.iload 5, 2) := by decide +kernel
theorem dL_law_566 : decode code 566 = .ok (.ifCond .ne 22, 3) := by decide +kernel
theorem dL_law_569 : decode code 569 = .ok (.aload_n 3, 1) := by decide +kernel
theorem dL_law_570 : decode code 570 = .ok (.iconst 0, 1) := by decide +kernel
theorem dL_law_571 : decode code 571 = .ok (.laload, 1) := by decide +kernel
theorem dL_law_572 : decode code 572 = .ok (.iload 6, 2) := by decide +kernel
theorem dL_law_574 : decode code 574 = .ok (.ifCond .eq 7, 3) := by decide +kernel
theorem dL_law_577 : decode code 577 = .ok (.lconst 1, 1) := by decide +kernel
theorem dL_law_578 : decode code 578 = .ok (.goto 4, 3) := by decide +kernel
theorem dL_law_581 : decode code 581 = .ok (.lconst 0, 1) := by decide +kernel
theorem dL_law_582 : decode code 582 = .ok (.lcmp, 1) := by decide +kernel
theorem dL_law_583 : decode code 583 = .ok (.ifCond .eq 5, 3) := by decide +kernel
theorem dL_law_586 : decode code 586 = .ok (.iconst 0, 1) := by decide +kernel
theorem dL_law_587 : decode code 587 = .ok (.ireturn, 1) := by decide +kernel
theorem dL_law_588 : decode code 588 = .ok (.goto 191, 3) := by decide +kernel
theorem dL_law_591 : decode code 591 = .ok (.aload_n 1, 1) := by decide +kernel
theorem dL_law_592 : decode code 592 = .ok (.aload_n 0, 1) := by decide +kernel
theorem dL_law_593 : decode code 593 = .ok (.iload 4, 2) := by decide +kernel
theorem dL_law_595 : decode code 595 = .ok (.iconst 1, 1) := by decide +kernel
theorem dL_law_596 : decode code 596 = .ok (.iadd, 1) := by decide +kernel
theorem dL_law_597 : decode code 597 = .ok (.iaload, 1) := by decide +kernel
theorem dL_law_598 : decode code 598 = .ok (.aload_n 3, 1) := by decide +kernel
theorem dL_law_599 : decode code 599 = .ok (.invokestatic 97, 3) := by decide +kernel
theorem dL_law_602 : decode code 602 = .ok (.istore 5, 2) := by decide +kernel
theorem dL_law_604 : decode code 604 = .ok (.aload_n 2, 1) := by decide +kernel
theorem dL_law_605 : decode code 605 = .ok (.aload_n 0, 1) := by decide +kernel
theorem dL_law_606 : decode code 606 = .ok (.iload 4, 2) := by decide +kernel
theorem dL_law_608 : decode code 608 = .ok (.iconst 1, 1) := by decide +kernel
theorem dL_law_609 : decode code 609 = .ok (.iadd, 1) := by decide +kernel
theorem dL_law_610 : decode code 610 = .ok (.iaload, 1) := by decide +kernel
theorem dL_law_611 : decode code 611 = .ok (.invokevirtual 99, 3) := by decide +kernel
theorem dL_law_614 : decode code 614 = .ok (.istore 6, 2) := by decide +kernel
theorem dL_law_616 : decode code 616 = .ok (.aload_n 2, 1) := by decide +kernel
theorem dL_law_617 : decode code 617 = .ok (.invokevirtual 69, 3) := by decide +kernel
theorem dL_law_620 : decode code 620 = .ok (.iload 5, 2) := by decide +kernel
theorem dL_law_622 : decode code 622 = .ok (.if_icmp .eq 5, 3) := by decide +kernel
theorem dL_law_625 : decode code 625 = .ok (.iconst 0, 1) := by decide +kernel
theorem dL_law_626 : decode code 626 = .ok (.ireturn, 1) := by decide +kernel
theorem dL_law_627 : decode code 627 = .ok (.iload 5, 2) := by decide +kernel
theorem dL_law_629 : decode code 629 = .ok (.ifCond .ne 15, 3) := by decide +kernel
theorem dL_law_632 : decode code 632 = .ok (.aload_n 3, 1) := by decide +kernel
theorem dL_law_633 : decode code 633 = .ok (.iconst 0, 1) := by decide +kernel
theorem dL_law_634 : decode code 634 = .ok (.laload, 1) := by decide +kernel
theorem dL_law_635 : decode code 635 = .ok (.iload 6, 2) := by decide +kernel
theorem dL_law_637 : decode code 637 = .ok (.i2l, 1) := by decide +kernel
theorem dL_law_638 : decode code 638 = .ok (.lcmp, 1) := by decide +kernel
theorem dL_law_639 : decode code 639 = .ok (.ifCond .eq 5, 3) := by decide +kernel
theorem dL_law_642 : decode code 642 = .ok (.iconst 0, 1) := by decide +kernel
theorem dL_law_643 : decode code 643 = .ok (.ireturn, 1) := by decide +kernel
theorem dL_law_644 : decode code 644 = .ok (.goto 135, 3) := by decide +kernel
theorem dL_law_647 : decode code 647 = .ok (.aload_n 1, 1) := by decide +kernel
theorem dL_law_648 : decode code 648 = .ok (.aload_n 0, 1) := by decide +kernel
theorem dL_law_649 : decode code 649 = .ok (.iload 4, 2) := by decide +kernel
theorem dL_law_651 : decode code 651 = .ok (.iconst 1, 1) := by decide +kernel
theorem dL_law_652 : decode code 652 = .ok (.iadd, 1) := by decide +kernel
theorem dL_law_653 : decode code 653 = .ok (.iaload, 1) := by decide +kernel
theorem dL_law_654 : decode code 654 = .ok (.aload_n 0, 1) := by decide +kernel
theorem dL_law_655 : decode code 655 = .ok (.iload 4, 2) := by decide +kernel
theorem dL_law_657 : decode code 657 = .ok (.iconst 2, 1) := by decide +kernel
theorem dL_law_658 : decode code 658 = .ok (.iadd, 1) := by decide +kernel
theorem dL_law_659 : decode code 659 = .ok (.iaload, 1) := by decide +kernel
theorem dL_law_660 : decode code 660 = .ok (.aload_n 3, 1) := by decide +kernel
theorem dL_law_661 : decode code 661 = .ok (.invokestatic 100, 3) := by decide +kernel
theorem dL_law_664 : decode code 664 = .ok (.istore 5, 2) := by decide +kernel
theorem dL_law_666 : decode code 666 = .ok (.aload_n 2, 1) := by decide +kernel
theorem dL_law_667 : decode code 667 = .ok (.aload_n 0, 1) := by decide +kernel
theorem dL_law_668 : decode code 668 = .ok (.iload 4, 2) := by decide +kernel
theorem dL_law_670 : decode code 670 = .ok (.iconst 1, 1) := by decide +kernel
theorem dL_law_671 : decode code 671 = .ok (.iadd, 1) := by decide +kernel
theorem dL_law_672 : decode code 672 = .ok (.iaload, 1) := by decide +kernel
theorem dL_law_673 : decode code 673 = .ok (.aload_n 0, 1) := by decide +kernel
theorem dL_law_674 : decode code 674 = .ok (.iload 4, 2) := by decide +kernel
theorem dL_law_676 : decode code 676 = .ok (.iconst 2, 1) := by decide +kernel
theorem dL_law_677 : decode code 677 = .ok (.iadd, 1) := by decide +kernel
theorem dL_law_678 : decode code 678 = .ok (.iaload, 1) := by decide +kernel
theorem dL_law_679 : decode code 679 = .ok (.invokevirtual 102, 3) := by decide +kernel
theorem dL_law_682 : decode code 682 = .ok (.istore 6, 2) := by decide +kernel
theorem dL_law_684 : decode code 684 = .ok (.aload_n 2, 1) := by decide +kernel
theorem dL_law_685 : decode code 685 = .ok (.invokevirtual 69, 3) := by decide +kernel
theorem dL_law_688 : decode code 688 = .ok (.iload 5, 2) := by decide +kernel
theorem dL_law_690 : decode code 690 = .ok (.if_icmp .eq 5, 3) := by decide +kernel
theorem dL_law_693 : decode code 693 = .ok (.iconst 0, 1) := by decide +kernel
theorem dL_law_694 : decode code 694 = .ok (.ireturn, 1) := by decide +kernel
theorem dL_law_695 : decode code 695 = .ok (.iload 5, 2) := by decide +kernel
theorem dL_law_697 : decode code 697 = .ok (.ifCond .ne 15, 3) := by decide +kernel
theorem dL_law_700 : decode code 700 = .ok (.aload_n 3, 1) := by decide +kernel
theorem dL_law_701 : decode code 701 = .ok (.iconst 0, 1) := by decide +kernel
theorem dL_law_702 : decode code 702 = .ok (.laload, 1) := by decide +kernel
theorem dL_law_703 : decode code 703 = .ok (.iload 6, 2) := by decide +kernel
theorem dL_law_705 : decode code 705 = .ok (.i2l, 1) := by decide +kernel
theorem dL_law_706 : decode code 706 = .ok (.lcmp, 1) := by decide +kernel
theorem dL_law_707 : decode code 707 = .ok (.ifCond .eq 5, 3) := by decide +kernel
theorem dL_law_710 : decode code 710 = .ok (.iconst 0, 1) := by decide +kernel
theorem dL_law_711 : decode code 711 = .ok (.ireturn, 1) := by decide +kernel
theorem dL_law_712 : decode code 712 = .ok (.goto 67, 3) := by decide +kernel
theorem dL_law_715 : decode code 715 = .ok (.aload_n 1, 1) := by decide +kernel
theorem dL_law_716 : decode code 716 = .ok (.invokevirtual 103, 3) := by decide +kernel
theorem dL_law_719 : decode code 719 = .ok (.aload_n 2, 1) := by decide +kernel
theorem dL_law_720 : decode code 720 = .ok (.invokevirtual 106, 3) := by decide +kernel
theorem dL_law_723 : decode code 723 = .ok (.if_icmp .eq 56, 3) := by decide +kernel
theorem dL_law_726 : decode code 726 = .ok (.iconst 0, 1) := by decide +kernel
theorem dL_law_727 : decode code 727 = .ok (.ireturn, 1) := by decide +kernel
theorem dL_law_728 : decode code 728 = .ok (.aload_n 1, 1) := by decide +kernel
theorem dL_law_729 : decode code 729 = .ok (.aload_n 0, 1) := by decide +kernel
theorem dL_law_730 : decode code 730 = .ok (.iload 4, 2) := by decide +kernel
theorem dL_law_732 : decode code 732 = .ok (.iconst 1, 1) := by decide +kernel
theorem dL_law_733 : decode code 733 = .ok (.iadd, 1) := by decide +kernel
theorem dL_law_734 : decode code 734 = .ok (.iaload, 1) := by decide +kernel
theorem dL_law_735 : decode code 735 = .ok (.invokevirtual 107, 3) := by decide +kernel
theorem dL_law_738 : decode code 738 = .ok (.aload_n 2, 1) := by decide +kernel
theorem dL_law_739 : decode code 739 = .ok (.aload_n 0, 1) := by decide +kernel
theorem dL_law_740 : decode code 740 = .ok (.iload 4, 2) := by decide +kernel
theorem dL_law_742 : decode code 742 = .ok (.iconst 1, 1) := by decide +kernel
theorem dL_law_743 : decode code 743 = .ok (.iadd, 1) := by decide +kernel
theorem dL_law_744 : decode code 744 = .ok (.iaload, 1) := by decide +kernel
theorem dL_law_745 : decode code 745 = .ok (.invokevirtual 111, 3) := by decide +kernel
theorem dL_law_748 : decode code 748 = .ok (.if_icmp .eq 31, 3) := by decide +kernel
theorem dL_law_751 : decode code 751 = .ok (.iconst 0, 1) := by decide +kernel
theorem dL_law_752 : decode code 752 = .ok (.ireturn, 1) := by decide +kernel
theorem dL_law_753 : decode code 753 = .ok (.aload_n 1, 1) := by decide +kernel
theorem dL_law_754 : decode code 754 = .ok (.invokevirtual 112, 3) := by decide +kernel
theorem dL_law_757 : decode code 757 = .ok (.aload_n 2, 1) := by decide +kernel
theorem dL_law_758 : decode code 758 = .ok (.invokevirtual 115, 3) := by decide +kernel
theorem dL_law_761 : decode code 761 = .ok (.if_icmp .eq 18, 3) := by decide +kernel
theorem dL_law_764 : decode code 764 = .ok (.iconst 0, 1) := by decide +kernel
theorem dL_law_765 : decode code 765 = .ok (.ireturn, 1) := by decide +kernel
theorem dL_law_766 : decode code 766 = .ok (.aload_n 1, 1) := by decide +kernel
theorem dL_law_767 : decode code 767 = .ok (.invokevirtual 116, 3) := by decide +kernel
theorem dL_law_770 : decode code 770 = .ok (.aload_n 2, 1) := by decide +kernel
theorem dL_law_771 : decode code 771 = .ok (.invokevirtual 119, 3) := by decide +kernel
theorem dL_law_774 : decode code 774 = .ok (.if_icmp .eq 5, 3) := by decide +kernel
theorem dL_law_777 : decode code 777 = .ok (.iconst 0, 1) := by decide +kernel
theorem dL_law_778 : decode code 778 = .ok (.ireturn, 1) := by decide +kernel
theorem dL_law_779 : decode code 779 = .ok (.iinc 4 4, 3) := by decide +kernel
theorem dL_law_782 : decode code 782 = .ok (.goto (-749), 3) := by decide +kernel
theorem dL_law_785 : decode code 785 = .ok (.iconst 1, 1) := by decide +kernel
theorem dL_law_786 : decode code 786 = .ok (.ireturn, 1) := by decide +kernel
end
section
theorem dM_init_0 : decode cM_init 0 = .ok (.aload_n 0, 1) := by decide +kernel
theorem dM_init_1 : decode cM_init 1 = .ok (.invokespecial 1, 3) := by decide +kernel
theorem dM_init_4 : decode cM_init 4 = .ok (.aload_n 0, 1) := by decide +kernel
theorem dM_init_5 : decode cM_init 5 = .ok (.bipush 21, 2) := by decide +kernel
theorem dM_init_7 : decode cM_init 7 = .ok (.newarray .int, 2) := by decide +kernel
theorem dM_init_9 : decode cM_init 9 = .ok (.putfield 7, 3) := by decide +kernel
theorem dM_init_12 : decode cM_init 12 = .ok (.aload_n 0, 1) := by decide +kernel
theorem dM_init_13 : decode cM_init 13 = .ok (.bipush 21, 2) := by decide +kernel
theorem dM_init_15 : decode cM_init 15 = .ok (.newarray .int, 2) := by decide +kernel
theorem dM_init_17 : decode cM_init 17 = .ok (.putfield 13, 3) := by decide +kernel
theorem dM_init_20 : decode cM_init 20 = .ok (.aload_n 0, 1) := by decide +kernel
theorem dM_init_21 : decode cM_init 21 = .ok (.bipush 21, 2) := by decide +kernel
theorem dM_init_23 : decode cM_init 23 = .ok (.newarray .int, 2) := by decide +kernel
theorem dM_init_25 : decode cM_init 25 = .ok (.putfield 16, 3) := by decide +kernel
theorem dM_init_28 : decode cM_init 28 = .ok (.aload_n 0, 1) := by decide +kernel
theorem dM_init_29 : decode cM_init 29 = .ok (.bipush 21, 2) := by decide +kernel
theorem dM_init_31 : decode cM_init 31 = .ok (.newarray .boolean, 2) := by decide +kernel
theorem dM_init_33 : decode cM_init 33 = .ok (.putfield 19, 3) := by decide +kernel
theorem dM_init_36 : decode cM_init 36 = .ok (.aload_n 0, 1) := by decide +kernel
theorem dM_init_37 : decode cM_init 37 = .ok (.bipush 21, 2) := by decide +kernel
theorem dM_init_39 : decode cM_init 39 = .ok (.newarray .int, 2) := by decide +kernel
theorem dM_init_41 : decode cM_init 41 = .ok (.putfield 23, 3) := by decide +kernel
theorem dM_init_44 : decode cM_init 44 = .ok (.aload_n 0, 1) := by decide +kernel
theorem dM_init_45 : decode cM_init 45 = .ok (.bipush 21, 2) := by decide +kernel
theorem dM_init_47 : decode cM_init 47 = .ok (.newarray .int, 2) := by decide +kernel
theorem dM_init_49 : decode cM_init 49 = .ok (.putfield 26, 3) := by decide +kernel
theorem dM_init_52 : decode cM_init 52 = .ok (.aload_n 0, 1) := by decide +kernel
theorem dM_init_53 : decode cM_init 53 = .ok (.iconst 4, 1) := by decide +kernel
theorem dM_init_54 : decode cM_init 54 = .ok (.newarray .int, 2) := by decide +kernel
theorem dM_init_56 : decode cM_init 56 = .ok (.putfield 29, 3) := by decide +kernel
theorem dM_init_59 : decode cM_init 59 = .ok (.aload_n 0, 1) := by decide +kernel
theorem dM_init_60 : decode cM_init 60 = .ok (.iconst 4, 1) := by decide +kernel
theorem dM_init_61 : decode cM_init 61 = .ok (.newarray .int, 2) := by decide +kernel
theorem dM_init_63 : decode cM_init 63 = .ok (.putfield 32, 3) := by decide +kernel
theorem dM_init_66 : decode cM_init 66 = .ok (.aload_n 0, 1) := by decide +kernel
theorem dM_init_67 : decode cM_init 67 = .ok (.iconst 4, 1) := by decide +kernel
theorem dM_init_68 : decode cM_init 68 = .ok (.newarray .int, 2) := by decide +kernel
theorem dM_init_70 : decode cM_init 70 = .ok (.putfield 35, 3) := by decide +kernel
theorem dM_init_73 : decode cM_init 73 = .ok (.aload_n 0, 1) := by decide +kernel
theorem dM_init_74 : decode cM_init 74 = .ok (.iconst 4, 1) := by decide +kernel
theorem dM_init_75 : decode cM_init 75 = .ok (.newarray .int, 2) := by decide +kernel
theorem dM_init_77 : decode cM_init 77 = .ok (.putfield 38, 3) := by decide +kernel
theorem dM_init_80 : decode cM_init 80 = .ok (.aload_n 0, 1) := by decide +kernel
theorem dM_init_81 : decode cM_init 81 = .ok (.iconst 4, 1) := by decide +kernel
theorem dM_init_82 : decode cM_init 82 = .ok (.newarray .int, 2) := by decide +kernel
theorem dM_init_84 : decode cM_init 84 = .ok (.putfield 41, 3) := by decide +kernel
theorem dM_init_87 : decode cM_init 87 = .ok (.aload_n 0, 1) := by decide +kernel
theorem dM_init_88 : decode cM_init 88 = .ok (.iconst 4, 1) := by decide +kernel
theorem dM_init_89 : decode cM_init 89 = .ok (.newarray .int, 2) := by decide +kernel
theorem dM_init_91 : decode cM_init 91 = .ok (.putfield 44, 3) := by decide +kernel
theorem dM_init_94 : decode cM_init 94 = .ok (.aload_n 0, 1) := by decide +kernel
theorem dM_init_95 : decode cM_init 95 = .ok (.iconst 4, 1) := by decide +kernel
theorem dM_init_96 : decode cM_init 96 = .ok (.newarray .int, 2) := by decide +kernel
theorem dM_init_98 : decode cM_init 98 = .ok (.putfield 47, 3) := by decide +kernel
theorem dM_init_101 : decode cM_init 101 = .ok (.aload_n 0, 1) := by decide +kernel
theorem dM_init_102 : decode cM_init 102 = .ok (.iconst 4, 1) := by decide +kernel
theorem dM_init_103 : decode cM_init 103 = .ok (.newarray .int, 2) := by decide +kernel
theorem dM_init_105 : decode cM_init 105 = .ok (.putfield 50, 3) := by decide +kernel
theorem dM_init_108 : decode cM_init 108 = .ok (.aload_n 0, 1) := by decide +kernel
theorem dM_init_109 : decode cM_init 109 = .ok (.iconst 4, 1) := by decide +kernel
theorem dM_init_110 : decode cM_init 110 = .ok (.newarray .boolean, 2) := by decide +kernel
theorem dM_init_112 : decode cM_init 112 = .ok (.putfield 53, 3) := by decide +kernel
theorem dM_init_115 : decode cM_init 115 = .ok (.aload_n 0, 1) := by decide +kernel
theorem dM_init_116 : decode cM_init 116 = .ok (.iconst 4, 1) := by decide +kernel
theorem dM_init_117 : decode cM_init 117 = .ok (.newarray .int, 2) := by decide +kernel
theorem dM_init_119 : decode cM_init 119 = .ok (.putfield 56, 3) := by decide +kernel
theorem dM_init_122 : decode cM_init 122 = .ok (.aload_n 0, 1) := by decide +kernel
theorem dM_init_123 : decode cM_init 123 = .ok (.iconst 4, 1) := by decide +kernel
theorem dM_init_124 : decode cM_init 124 = .ok (.newarray .int, 2) := by decide +kernel
theorem dM_init_126 : decode cM_init 126 = .ok (.putfield 59, 3) := by decide +kernel
theorem dM_init_129 : decode cM_init 129 = .ok (.aload_n 0, 1) := by decide +kernel
theorem dM_init_130 : decode cM_init 130 = .ok (.iconst 4, 1) := by decide +kernel
theorem dM_init_131 : decode cM_init 131 = .ok (.newarray .int, 2) := by decide +kernel
theorem dM_init_133 : decode cM_init 133 = .ok (.putfield 62, 3) := by decide +kernel
theorem dM_init_136 : decode cM_init 136 = .ok (.aload_n 0, 1) := by decide +kernel
theorem dM_init_137 : decode cM_init 137 = .ok (.iconst 4, 1) := by decide +kernel
theorem dM_init_138 : decode cM_init 138 = .ok (.newarray .int, 2) := by decide +kernel
theorem dM_init_140 : decode cM_init 140 = .ok (.putfield 65, 3) := by decide +kernel
theorem dM_init_143 : decode cM_init 143 = .ok (.aload_n 0, 1) := by decide +kernel
theorem dM_init_144 : decode cM_init 144 = .ok (.bipush 8, 2) := by decide +kernel
theorem dM_init_146 : decode cM_init 146 = .ok (.newarray .int, 2) := by decide +kernel
theorem dM_init_148 : decode cM_init 148 = .ok (.putfield 68, 3) := by decide +kernel
theorem dM_init_151 : decode cM_init 151 = .ok (.aload_n 0, 1) := by decide +kernel
theorem dM_init_152 : decode cM_init 152 = .ok (.iload_n 1, 1) := by decide +kernel
theorem dM_init_153 : decode cM_init 153 = .ok (.iconst 1, 1) := by decide +kernel
theorem dM_init_154 : decode cM_init 154 = .ok (.if_icmp .eq 8, 3) := by decide +kernel
theorem dM_init_157 : decode cM_init 157 = .ok (.iload_n 1, 1) := by decide +kernel
theorem dM_init_158 : decode cM_init 158 = .ok (.iconst 2, 1) := by decide +kernel
theorem dM_init_159 : decode cM_init 159 = .ok (.if_icmp .ne 7, 3) := by decide +kernel
theorem dM_init_162 : decode cM_init 162 = .ok (.iload_n 1, 1) := by decide +kernel
theorem dM_init_163 : decode cM_init 163 = .ok (.goto 4, 3) := by decide +kernel
theorem dM_init_166 : decode cM_init 166 = .ok (.iconst 0, 1) := by decide +kernel
theorem dM_init_167 : decode cM_init 167 = .ok (.putfield 71, 3) := by decide +kernel
theorem dM_init_170 : decode cM_init 170 = .ok (.iconst 0, 1) := by decide +kernel
theorem dM_init_171 : decode cM_init 171 = .ok (.istore_n 2, 1) := by decide +kernel
theorem dM_init_172 : decode cM_init 172 = .ok (.iload_n 2, 1) := by decide +kernel
theorem dM_init_173 : decode cM_init 173 = .ok (.iconst 4, 1) := by decide +kernel
theorem dM_init_174 : decode cM_init 174 = .ok (.if_icmp .ge 23, 3) := by decide +kernel
theorem dM_init_177 : decode cM_init 177 = .ok (.aload_n 0, 1) := by decide +kernel
theorem dM_init_178 : decode cM_init 178 = .ok (.getfield 62, 3) := by decide +kernel
theorem dM_init_181 : decode cM_init 181 = .ok (.iload_n 2, 1) := by decide +kernel
theorem dM_init_182 : decode cM_init 182 = .ok (.iconst (-1), 1) := by decide +kernel
theorem dM_init_183 : decode cM_init 183 = .ok (.iastore, 1) := by decide +kernel
theorem dM_init_184 : decode cM_init 184 = .ok (.aload_n 0, 1) := by decide +kernel
theorem dM_init_185 : decode cM_init 185 = .ok (.getfield 65, 3) := by decide +kernel
theorem dM_init_188 : decode cM_init 188 = .ok (.iload_n 2, 1) := by decide +kernel
theorem dM_init_189 : decode cM_init 189 = .ok (.iconst (-1), 1) := by decide +kernel
theorem dM_init_190 : decode cM_init 190 = .ok (.iastore, 1) := by decide +kernel
theorem dM_init_191 : decode cM_init 191 = .ok (.iinc 2 1, 3) := by decide +kernel
theorem dM_init_194 : decode cM_init 194 = .ok (.goto (-22), 3) := by decide +kernel
theorem dM_init_197 : decode cM_init 197 = .ok (.return_, 1) := by decide +kernel
theorem dM_thrown_0 : decode cM_thrown 0 = .ok (.aload_n 0, 1) := by decide +kernel
theorem dM_thrown_1 : decode cM_thrown 1 = .ok (.getfield 75, 3) := by decide +kernel
theorem dM_thrown_4 : decode cM_thrown 4 = .ok (.ireturn, 1) := by decide +kernel
theorem dM_isThread_0 : decode cM_isThread 0 = .ok (.iload_n 0, 1) := by decide +kernel
theorem dM_isThread_1 : decode cM_isThread 1 = .ok (.ifCond .lt 12, 3) := by decide +kernel
theorem dM_isThread_4 : decode cM_isThread 4 = .ok (.iload_n 0, 1) := by decide +kernel
theorem dM_isThread_5 : decode cM_isThread 5 = .ok (.iconst 3, 1) := by decide +kernel
theorem dM_isThread_6 : decode cM_isThread 6 = .ok (.if_icmp .gt 7, 3) := by decide +kernel
theorem dM_isThread_9 : decode cM_isThread 9 = .ok (.iconst 1, 1) := by decide +kernel
theorem dM_isThread_10 : decode cM_isThread 10 = .ok (.goto 4, 3) := by decide +kernel
theorem dM_isThread_13 : decode cM_isThread 13 = .ok (.iconst 0, 1) := by decide +kernel
theorem dM_isThread_14 : decode cM_isThread 14 = .ok (.ireturn, 1) := by decide +kernel
theorem dM_begin_0 : decode cM_begin 0 = .ok (.aload_n 0, 1) := by decide +kernel
theorem dM_begin_1 : decode cM_begin 1 = .ok (.iload_n 1, 1) := by decide +kernel
theorem dM_begin_2 : decode cM_begin 2 = .ok (.invokestatic 78, 3) := by decide +kernel
theorem dM_begin_5 : decode cM_begin 5 = .ok (.ifCond .ne 7, 3) := by decide +kernel
theorem dM_begin_8 : decode cM_begin 8 = .ok (.iconst 1, 1) := by decide +kernel
theorem dM_begin_9 : decode cM_begin 9 = .ok (.goto 40, 3) := by decide +kernel
theorem dM_begin_12 : decode cM_begin 12 = .ok (.iload_n 2, 1) := by decide +kernel
theorem dM_begin_13 : decode cM_begin 13 = .ok (.ifCond .lt 18, 3) := by decide +kernel
theorem dM_begin_16 : decode cM_begin 16 = .ok (.iload_n 2, 1) := by decide +kernel
theorem dM_begin_17 : decode cM_begin 17 = .ok (.iconst 2, 1) := by decide +kernel
theorem dM_begin_18 : decode cM_begin 18 = .ok (.if_icmp .gt 13, 3) := by decide +kernel
theorem dM_begin_21 : decode cM_begin 21 = .ok (.iload_n 3, 1) := by decide +kernel
theorem dM_begin_22 : decode cM_begin 22 = .ok (.ifCond .lt 9, 3) := by decide +kernel
theorem dM_begin_25 : decode cM_begin 25 = .ok (.iload_n 3, 1) := by decide +kernel
theorem dM_begin_26 : decode cM_begin 26 = .ok (.bipush 31, 2) := by decide +kernel
theorem dM_begin_28 : decode cM_begin 28 = .ok (.if_icmp .le 7, 3) := by decide +kernel
theorem dM_begin_31 : decode cM_begin 31 = .ok (.iconst 2, 1) := by decide +kernel
theorem dM_begin_32 : decode cM_begin 32 = .ok (.goto 17, 3) := by decide +kernel
theorem dM_begin_35 : decode cM_begin 35 = .ok (.aload_n 0, 1) := by decide +kernel
theorem dM_begin_36 : decode cM_begin 36 = .ok (.getfield 29, 3) := by decide +kernel
theorem dM_begin_39 : decode cM_begin 39 = .ok (.iload_n 1, 1) := by decide +kernel
theorem dM_begin_40 : decode cM_begin 40 = .ok (.iaload, 1) := by decide +kernel
theorem dM_begin_41 : decode cM_begin 41 = .ok (.ifCond .eq 7, 3) := by decide +kernel
theorem dM_begin_44 : decode cM_begin 44 = .ok (.iconst 3, 1) := by decide +kernel
theorem dM_begin_45 : decode cM_begin 45 = .ok (.goto 4, 3) := by decide +kernel
theorem dM_begin_48 : decode cM_begin 48 = .ok (.iconst 0, 1) := by decide +kernel
theorem dM_begin_49 : decode cM_begin 49 = .ok (.putfield 75, 3) := by decide +kernel
theorem dM_begin_52 : decode cM_begin 52 = .ok (.aload_n 0, 1) := by decide +kernel
theorem dM_begin_53 : decode cM_begin 53 = .ok (.getfield 75, 3) := by decide +kernel
theorem dM_begin_56 : decode cM_begin 56 = .ok (.ifCond .le 4, 3) := by decide +kernel
theorem dM_begin_59 : decode cM_begin 59 = .ok (.return_, 1) := by decide +kernel
theorem dM_begin_60 : decode cM_begin 60 = .ok (.aload_n 0, 1) := by decide +kernel
theorem dM_begin_61 : decode cM_begin 61 = .ok (.getfield 32, 3) := by decide +kernel
theorem dM_begin_64 : decode cM_begin 64 = .ok (.iload_n 1, 1) := by decide +kernel
theorem dM_begin_65 : decode cM_begin 65 = .ok (.iload_n 2, 1) := by decide +kernel
theorem dM_begin_66 : decode cM_begin 66 = .ok (.iastore, 1) := by decide +kernel
theorem dM_begin_67 : decode cM_begin 67 = .ok (.aload_n 0, 1) := by decide +kernel
theorem dM_begin_68 : decode cM_begin 68 = .ok (.getfield 35, 3) := by decide +kernel
theorem dM_begin_71 : decode cM_begin 71 = .ok (.iload_n 1, 1) := by decide +kernel
theorem dM_begin_72 : decode cM_begin 72 = .ok (.iload_n 3, 1) := by decide +kernel
theorem dM_begin_73 : decode cM_begin 73 = .ok (.iastore, 1) := by decide +kernel
theorem dM_begin_74 : decode cM_begin 74 = .ok (.aload_n 0, 1) := by decide +kernel
theorem dM_begin_75 : decode cM_begin 75 = .ok (.getfield 38, 3) := by decide +kernel
theorem dM_begin_78 : decode cM_begin 78 = .ok (.iload_n 1, 1) := by decide +kernel
theorem dM_begin_79 : decode cM_begin 79 = .ok (.iconst 0, 1) := by decide +kernel
theorem dM_begin_80 : decode cM_begin 80 = .ok (.iastore, 1) := by decide +kernel
theorem dM_begin_81 : decode cM_begin 81 = .ok (.aload_n 0, 1) := by decide +kernel
theorem dM_begin_82 : decode cM_begin 82 = .ok (.getfield 44, 3) := by decide +kernel
theorem dM_begin_85 : decode cM_begin 85 = .ok (.iload_n 1, 1) := by decide +kernel
theorem dM_begin_86 : decode cM_begin 86 = .ok (.iconst 0, 1) := by decide +kernel
theorem dM_begin_87 : decode cM_begin 87 = .ok (.iastore, 1) := by decide +kernel
theorem dM_begin_88 : decode cM_begin 88 = .ok (.aload_n 0, 1) := by decide +kernel
theorem dM_begin_89 : decode cM_begin 89 = .ok (.getfield 50, 3) := by decide +kernel
theorem dM_begin_92 : decode cM_begin 92 = .ok (.iload_n 1, 1) := by decide +kernel
theorem dM_begin_93 : decode cM_begin 93 = .ok (.iconst 0, 1) := by decide +kernel
theorem dM_begin_94 : decode cM_begin 94 = .ok (.iastore, 1) := by decide +kernel
theorem dM_begin_95 : decode cM_begin 95 = .ok (.aload_n 0, 1) := by decide +kernel
theorem dM_begin_96 : decode cM_begin 96 = .ok (.getfield 53, 3) := by decide +kernel
theorem dM_begin_99 : decode cM_begin 99 = .ok (.iload_n 1, 1) := by decide +kernel
theorem dM_begin_100 : decode cM_begin 100 = .ok (.iconst 0, 1) := by decide +kernel
theorem dM_begin_101 : decode cM_begin 101 = .ok (.bastore, 1) := by decide +kernel
theorem dM_begin_102 : decode cM_begin 102 = .ok (.aload_n 0, 1) := by decide +kernel
theorem dM_begin_103 : decode cM_begin 103 = .ok (.getfield 56, 3) := by decide +kernel
theorem dM_begin_106 : decode cM_begin 106 = .ok (.iload_n 1, 1) := by decide +kernel
theorem dM_begin_107 : decode cM_begin 107 = .ok (.iconst 0, 1) := by decide +kernel
theorem dM_begin_108 : decode cM_begin 108 = .ok (.iastore, 1) := by decide +kernel
theorem dM_begin_109 : decode cM_begin 109 = .ok (.aload_n 0, 1) := by decide +kernel
theorem dM_begin_110 : decode cM_begin 110 = .ok (.getfield 29, 3) := by decide +kernel
theorem dM_begin_113 : decode cM_begin 113 = .ok (.iload_n 1, 1) := by decide +kernel
theorem dM_begin_114 : decode cM_begin 114 = .ok (.iconst 1, 1) := by decide +kernel
theorem dM_begin_115 : decode cM_begin 115 = .ok (.iastore, 1) := by decide +kernel
theorem dM_begin_116 : decode cM_begin 116 = .ok (.return_, 1) := by decide +kernel
theorem dM_isNamed_0 : decode cM_isNamed 0 = .ok (.iconst 0, 1) := by decide +kernel
theorem dM_isNamed_1 : decode cM_isNamed 1 = .ok (.istore_n 2, 1) := by decide +kernel
theorem dM_isNamed_2 : decode cM_isNamed 2 = .ok (.iconst 0, 1) := by decide +kernel
theorem dM_isNamed_3 : decode cM_isNamed 3 = .ok (.istore_n 3, 1) := by decide +kernel
theorem dM_isNamed_4 : decode cM_isNamed 4 = .ok (.iload_n 3, 1) := by decide +kernel
theorem dM_isNamed_5 : decode cM_isNamed 5 = .ok (.bipush 8, 2) := by decide +kernel
theorem dM_isNamed_7 : decode cM_isNamed 7 = .ok (.if_icmp .ge 29, 3) := by decide +kernel
theorem dM_isNamed_10 : decode cM_isNamed 10 = .ok (.iload_n 2, 1) := by decide +kernel
theorem dM_isNamed_11 : decode cM_isNamed 11 = .ok (.ifCond .ne 13, 3) := by decide +kernel
theorem dM_isNamed_14 : decode cM_isNamed 14 = .ok (.aload_n 0, 1) := by decide +kernel
theorem dM_isNamed_15 : decode cM_isNamed 15 = .ok (.getfield 68, 3) := by decide +kernel
theorem dM_isNamed_18 : decode cM_isNamed 18 = .ok (.iload_n 3, 1) := by decide +kernel
theorem dM_isNamed_19 : decode cM_isNamed 19 = .ok (.iaload, 1) := by decide +kernel
theorem dM_isNamed_20 : decode cM_isNamed 20 = .ok (.iload_n 1, 1) := by decide +kernel
theorem dM_isNamed_21 : decode cM_isNamed 21 = .ok (.if_icmp .ne 7, 3) := by decide +kernel
theorem dM_isNamed_24 : decode cM_isNamed 24 = .ok (.iconst 1, 1) := by decide +kernel
theorem dM_isNamed_25 : decode cM_isNamed 25 = .ok (.goto 4, 3) := by decide +kernel
theorem dM_isNamed_28 : decode cM_isNamed 28 = .ok (.iconst 0, 1) := by decide +kernel
theorem dM_isNamed_29 : decode cM_isNamed 29 = .ok (.istore_n 2, 1) := by decide +kernel
theorem dM_isNamed_30 : decode cM_isNamed 30 = .ok (.iinc 3 1, 3) := by decide +kernel
theorem dM_isNamed_33 : decode cM_isNamed 33 = .ok (.goto (-29), 3) := by decide +kernel
theorem dM_isNamed_36 : decode cM_isNamed 36 = .ok (.iload_n 2, 1) := by decide +kernel
theorem dM_isNamed_37 : decode cM_isNamed 37 = .ok (.ireturn, 1) := by decide +kernel
theorem dM_sweep_0 : decode cM_sweep 0 = .ok (.iconst 0, 1) := by decide +kernel
theorem dM_sweep_1 : decode cM_sweep 1 = .ok (.istore_n 2, 1) := by decide +kernel
theorem dM_sweep_2 : decode cM_sweep 2 = .ok (.iconst 1, 1) := by decide +kernel
theorem dM_sweep_3 : decode cM_sweep 3 = .ok (.istore_n 3, 1) := by decide +kernel
theorem dM_sweep_4 : decode cM_sweep 4 = .ok (.iload_n 3, 1) := by decide +kernel
theorem dM_sweep_5 : decode cM_sweep 5 = .ok (.bipush 20, 2) := by decide +kernel
theorem dM_sweep_7 : decode cM_sweep 7 = .ok (.if_icmp .gt 47, 3) := by decide +kernel
theorem dM_sweep_10 : decode cM_sweep 10 = .ok (.aload_n 0, 1) := by decide +kernel
theorem dM_sweep_11 : decode cM_sweep 11 = .ok (.getfield 7, 3) := by decide +kernel
theorem dM_sweep_14 : decode cM_sweep 14 = .ok (.iload_n 3, 1) := by decide +kernel
theorem dM_sweep_15 : decode cM_sweep 15 = .ok (.iaload, 1) := by decide +kernel
theorem dM_sweep_16 : decode cM_sweep 16 = .ok (.iconst 2, 1) := by decide +kernel
theorem dM_sweep_17 : decode cM_sweep 17 = .ok (.if_icmp .ne 31, 3) := by decide +kernel
theorem dM_sweep_20 : decode cM_sweep 20 = .ok (.aload_n 0, 1) := by decide +kernel
theorem dM_sweep_21 : decode cM_sweep 21 = .ok (.getfield 26, 3) := by decide +kernel
theorem dM_sweep_24 : decode cM_sweep 24 = .ok (.iload_n 3, 1) := by decide +kernel
theorem dM_sweep_25 : decode cM_sweep 25 = .ok (.iaload, 1) := by decide +kernel
theorem dM_sweep_26 : decode cM_sweep 26 = .ok (.iload_n 1, 1) := by decide +kernel
theorem dM_sweep_27 : decode cM_sweep 27 = .ok (.if_icmp .ne 21, 3) := by decide +kernel
theorem dM_sweep_30 : decode cM_sweep 30 = .ok (.aload_n 0, 1) := by decide +kernel
theorem dM_sweep_31 : decode cM_sweep 31 = .ok (.iload_n 3, 1) := by decide +kernel
theorem dM_sweep_32 : decode cM_sweep 32 = .ok (.invokevirtual 82, 3) := by decide +kernel
theorem dM_sweep_35 : decode cM_sweep 35 = .ok (.ifCond .ne 13, 3) := by decide +kernel
theorem dM_sweep_38 : decode cM_sweep 38 = .ok (.aload_n 0, 1) := by decide +kernel
theorem dM_sweep_39 : decode cM_sweep 39 = .ok (.getfield 7, 3) := by decide +kernel
theorem dM_sweep_42 : decode cM_sweep 42 = .ok (.iload_n 3, 1) := by decide +kernel
theorem dM_sweep_43 : decode cM_sweep 43 = .ok (.iconst 0, 1) := by decide +kernel
theorem dM_sweep_44 : decode cM_sweep 44 = .ok (.iastore, 1) := by decide +kernel
theorem dM_sweep_45 : decode cM_sweep 45 = .ok (.iinc 2 1, 3) := by decide +kernel
theorem dM_sweep_48 : decode cM_sweep 48 = .ok (.iinc 3 1, 3) := by decide +kernel
theorem dM_sweep_51 : decode cM_sweep 51 = .ok (.goto (-47), 3) := by decide +kernel
theorem dM_sweep_54 : decode cM_sweep 54 = .ok (.iload_n 2, 1) := by decide +kernel
theorem dM_sweep_55 : decode cM_sweep 55 = .ok (.ireturn, 1) := by decide +kernel
theorem dM_retire_0 : decode cM_retire 0 = .ok (.aload_n 0, 1) := by decide +kernel
theorem dM_retire_1 : decode cM_retire 1 = .ok (.getfield 7, 3) := by decide +kernel
theorem dM_retire_4 : decode cM_retire 4 = .ok (.iload_n 2, 1) := by decide +kernel
theorem dM_retire_5 : decode cM_retire 5 = .ok (.aload_n 0, 1) := by decide +kernel
theorem dM_retire_6 : decode cM_retire 6 = .ok (.getfield 71, 3) := by decide +kernel
theorem dM_retire_9 : decode cM_retire 9 = .ok (.iconst 2, 1) := by decide +kernel
theorem dM_retire_10 : decode cM_retire 10 = .ok (.if_icmp .ne 7, 3) := by decide +kernel
theorem dM_retire_13 : decode cM_retire 13 = .ok (.iconst 0, 1) := by decide +kernel
theorem dM_retire_14 : decode cM_retire 14 = .ok (.goto 4, 3) := by decide +kernel
theorem dM_retire_17 : decode cM_retire 17 = .ok (.iconst 2, 1) := by decide +kernel
theorem dM_retire_18 : decode cM_retire 18 = .ok (.iastore, 1) := by decide +kernel
theorem dM_retire_19 : decode cM_retire 19 = .ok (.aload_n 0, 1) := by decide +kernel
theorem dM_retire_20 : decode cM_retire 20 = .ok (.getfield 26, 3) := by decide +kernel
theorem dM_retire_23 : decode cM_retire 23 = .ok (.iload_n 2, 1) := by decide +kernel
theorem dM_retire_24 : decode cM_retire 24 = .ok (.aload_n 0, 1) := by decide +kernel
theorem dM_retire_25 : decode cM_retire 25 = .ok (.getfield 71, 3) := by decide +kernel
theorem dM_retire_28 : decode cM_retire 28 = .ok (.ifCond .ne 10, 3) := by decide +kernel
theorem dM_retire_31 : decode cM_retire 31 = .ok (.aload_n 0, 1) := by decide +kernel
theorem dM_retire_32 : decode cM_retire 32 = .ok (.getfield 85, 3) := by decide +kernel
theorem dM_retire_35 : decode cM_retire 35 = .ok (.goto 4, 3) := by decide +kernel
theorem dM_retire_38 : decode cM_retire 38 = .ok (.iload_n 1, 1) := by decide +kernel
theorem dM_retire_39 : decode cM_retire 39 = .ok (.iastore, 1) := by decide +kernel
theorem dM_retire_40 : decode cM_retire 40 = .ok (.iconst 0, 1) := by decide +kernel
theorem dM_retire_41 : decode cM_retire 41 = .ok (.istore_n 3, 1) := by decide +kernel
theorem dM_retire_42 : decode cM_retire 42 = .ok (.iconst 1, 1) := by decide +kernel
theorem dM_retire_43 : decode cM_retire 43 = .ok (.istore 4, 2) := by decide +kernel
theorem dM_retire_45 : decode cM_retire 45 = .ok (.iload 4, 2) := by decide +kernel
theorem dM_retire_47 : decode cM_retire 47 = .ok (.bipush 20, 2) := by decide +kernel
theorem dM_retire_49 : decode cM_retire 49 = .ok (.if_icmp .gt 39, 3) := by decide +kernel
theorem dM_retire_52 : decode cM_retire 52 = .ok (.aload_n 0, 1) := by decide +kernel
theorem dM_retire_53 : decode cM_retire 53 = .ok (.getfield 7, 3) := by decide +kernel
theorem dM_retire_56 : decode cM_retire 56 = .ok (.iload 4, 2) := by decide +kernel
theorem dM_retire_58 : decode cM_retire 58 = .ok (.iaload, 1) := by decide +kernel
theorem dM_retire_59 : decode cM_retire 59 = .ok (.iconst 2, 1) := by decide +kernel
theorem dM_retire_60 : decode cM_retire 60 = .ok (.if_icmp .ne 20, 3) := by decide +kernel
theorem dM_retire_63 : decode cM_retire 63 = .ok (.aload_n 0, 1) := by decide +kernel
theorem dM_retire_64 : decode cM_retire 64 = .ok (.getfield 26, 3) := by decide +kernel
theorem dM_retire_67 : decode cM_retire 67 = .ok (.iload 4, 2) := by decide +kernel
theorem dM_retire_69 : decode cM_retire 69 = .ok (.iaload, 1) := by decide +kernel
theorem dM_retire_70 : decode cM_retire 70 = .ok (.iload_n 1, 1) := by decide +kernel
theorem dM_retire_71 : decode cM_retire 71 = .ok (.if_icmp .ne 9, 3) := by decide +kernel
theorem dM_retire_74 : decode cM_retire 74 = .ok (.iload_n 3, 1) := by decide +kernel
theorem dM_retire_75 : decode cM_retire 75 = .ok (.iconst 1, 1) := by decide +kernel
theorem dM_retire_76 : decode cM_retire 76 = .ok (.iadd, 1) := by decide +kernel
theorem dM_retire_77 : decode cM_retire 77 = .ok (.goto 4, 3) := by decide +kernel
theorem dM_retire_80 : decode cM_retire 80 = .ok (.iload_n 3, 1) := by decide +kernel
theorem dM_retire_81 : decode cM_retire 81 = .ok (.istore_n 3, 1) := by decide +kernel
theorem dM_retire_82 : decode cM_retire 82 = .ok (.iinc 4 1, 3) := by decide +kernel
theorem dM_retire_85 : decode cM_retire 85 = .ok (.goto (-40), 3) := by decide +kernel
theorem dM_retire_88 : decode cM_retire 88 = .ok (.aload_n 0, 1) := by decide +kernel
theorem dM_retire_89 : decode cM_retire 89 = .ok (.getfield 71, 3) := by decide +kernel
theorem dM_retire_92 : decode cM_retire 92 = .ok (.iconst 1, 1) := by decide +kernel
theorem dM_retire_93 : decode cM_retire 93 = .ok (.if_icmp .ne 14, 3) := by decide +kernel
theorem dM_retire_96 : decode cM_retire 96 = .ok (.iload_n 3, 1) := by decide +kernel
theorem dM_retire_97 : decode cM_retire 97 = .ok (.iconst 4, 1) := by decide +kernel
theorem dM_retire_98 : decode cM_retire 98 = .ok (.if_icmp .lt 9, 3) := by decide +kernel
theorem dM_retire_101 : decode cM_retire 101 = .ok (.aload_n 0, 1) := by decide +kernel
theorem dM_retire_102 : decode cM_retire 102 = .ok (.iload_n 1, 1) := by decide +kernel
theorem dM_retire_103 : decode cM_retire 103 = .ok (.invokevirtual 88, 3) := by decide +kernel
theorem dM_retire_106 : decode cM_retire 106 = .ok (.pop, 1) := by decide +kernel
theorem dM_retire_107 : decode cM_retire 107 = .ok (.return_, 1) := by decide +kernel
theorem dM_advance_0 : decode cM_advance 0 = .ok (.aload_n 0, 1) := by decide +kernel
theorem dM_advance_1 : decode cM_advance 1 = .ok (.aload_n 0, 1) := by decide +kernel
theorem dM_advance_2 : decode cM_advance 2 = .ok (.getfield 71, 3) := by decide +kernel
theorem dM_advance_5 : decode cM_advance 5 = .ok (.ifCond .ne 7, 3) := by decide +kernel
theorem dM_advance_8 : decode cM_advance 8 = .ok (.iconst 0, 1) := by decide +kernel
theorem dM_advance_9 : decode cM_advance 9 = .ok (.goto 4, 3) := by decide +kernel
theorem dM_advance_12 : decode cM_advance 12 = .ok (.iconst 1, 1) := by decide +kernel
theorem dM_advance_13 : decode cM_advance 13 = .ok (.putfield 75, 3) := by decide +kernel
theorem dM_advance_16 : decode cM_advance 16 = .ok (.aload_n 0, 1) := by decide +kernel
theorem dM_advance_17 : decode cM_advance 17 = .ok (.getfield 75, 3) := by decide +kernel
theorem dM_advance_20 : decode cM_advance 20 = .ok (.ifCond .ne 7, 3) := by decide +kernel
theorem dM_advance_23 : decode cM_advance 23 = .ok (.iconst 1, 1) := by decide +kernel
theorem dM_advance_24 : decode cM_advance 24 = .ok (.goto 4, 3) := by decide +kernel
theorem dM_advance_27 : decode cM_advance 27 = .ok (.iconst 0, 1) := by decide +kernel
theorem dM_advance_28 : decode cM_advance 28 = .ok (.istore_n 1, 1) := by decide +kernel
theorem dM_advance_29 : decode cM_advance 29 = .ok (.iconst 0, 1) := by decide +kernel
theorem dM_advance_30 : decode cM_advance 30 = .ok (.istore_n 2, 1) := by decide +kernel
theorem dM_advance_31 : decode cM_advance 31 = .ok (.iload_n 2, 1) := by decide +kernel
theorem dM_advance_32 : decode cM_advance 32 = .ok (.iconst 4, 1) := by decide +kernel
theorem dM_advance_33 : decode cM_advance 33 = .ok (.if_icmp .ge 41, 3) := by decide +kernel
theorem dM_advance_36 : decode cM_advance 36 = .ok (.iload_n 1, 1) := by decide +kernel
theorem dM_advance_37 : decode cM_advance 37 = .ok (.ifCond .eq 29, 3) := by decide +kernel
theorem dM_advance_40 : decode cM_advance 40 = .ok (.aload_n 0, 1) := by decide +kernel
theorem dM_advance_41 : decode cM_advance 41 = .ok (.getfield 65, 3) := by decide +kernel
theorem dM_advance_44 : decode cM_advance 44 = .ok (.iload_n 2, 1) := by decide +kernel
theorem dM_advance_45 : decode cM_advance 45 = .ok (.iaload, 1) := by decide +kernel
theorem dM_advance_46 : decode cM_advance 46 = .ok (.ifCond .lt 16, 3) := by decide +kernel
theorem dM_advance_49 : decode cM_advance 49 = .ok (.aload_n 0, 1) := by decide +kernel
theorem dM_advance_50 : decode cM_advance 50 = .ok (.getfield 65, 3) := by decide +kernel
theorem dM_advance_53 : decode cM_advance 53 = .ok (.iload_n 2, 1) := by decide +kernel
theorem dM_advance_54 : decode cM_advance 54 = .ok (.iaload, 1) := by decide +kernel
theorem dM_advance_55 : decode cM_advance 55 = .ok (.aload_n 0, 1) := by decide +kernel
theorem dM_advance_56 : decode cM_advance 56 = .ok (.getfield 85, 3) := by decide +kernel
theorem dM_advance_59 : decode cM_advance 59 = .ok (.if_icmp .ne 7, 3) := by decide +kernel
theorem dM_advance_62 : decode cM_advance 62 = .ok (.iconst 1, 1) := by decide +kernel
theorem dM_advance_63 : decode cM_advance 63 = .ok (.goto 4, 3) := by decide +kernel
theorem dM_advance_66 : decode cM_advance 66 = .ok (.iconst 0, 1) := by decide +kernel
theorem dM_advance_67 : decode cM_advance 67 = .ok (.istore_n 1, 1) := by decide +kernel
theorem dM_advance_68 : decode cM_advance 68 = .ok (.iinc 2 1, 3) := by decide +kernel
theorem dM_advance_71 : decode cM_advance 71 = .ok (.goto (-40), 3) := by decide +kernel
theorem dM_advance_74 : decode cM_advance 74 = .ok (.iload_n 1, 1) := by decide +kernel
theorem dM_advance_75 : decode cM_advance 75 = .ok (.ifCond .ne 5, 3) := by decide +kernel
theorem dM_advance_78 : decode cM_advance 78 = .ok (.iconst 0, 1) := by decide +kernel
theorem dM_advance_79 : decode cM_advance 79 = .ok (.ireturn, 1) := by decide +kernel
theorem dM_advance_80 : decode cM_advance 80 = .ok (.aload_n 0, 1) := by decide +kernel
theorem dM_advance_81 : decode cM_advance 81 = .ok (.dup, 1) := by decide +kernel
theorem dM_advance_82 : decode cM_advance 82 = .ok (.getfield 85, 3) := by decide +kernel
theorem dM_advance_85 : decode cM_advance 85 = .ok (.iconst 1, 1) := by decide +kernel
theorem dM_advance_86 : decode cM_advance 86 = .ok (.iadd, 1) := by decide +kernel
theorem dM_advance_87 : decode cM_advance 87 = .ok (.putfield 85, 3) := by decide +kernel
theorem dM_advance_90 : decode cM_advance 90 = .ok (.iconst 1, 1) := by decide +kernel
theorem dM_advance_91 : decode cM_advance 91 = .ok (.istore_n 2, 1) := by decide +kernel
theorem dM_advance_92 : decode cM_advance 92 = .ok (.iload_n 2, 1) := by decide +kernel
theorem dM_advance_93 : decode cM_advance 93 = .ok (.bipush 20, 2) := by decide +kernel
theorem dM_advance_95 : decode cM_advance 95 = .ok (.if_icmp .gt 50, 3) := by decide +kernel
theorem dM_advance_98 : decode cM_advance 98 = .ok (.aload_n 0, 1) := by decide +kernel
theorem dM_advance_99 : decode cM_advance 99 = .ok (.getfield 7, 3) := by decide +kernel
theorem dM_advance_102 : decode cM_advance 102 = .ok (.iload_n 2, 1) := by decide +kernel
theorem dM_advance_103 : decode cM_advance 103 = .ok (.aload_n 0, 1) := by decide +kernel
theorem dM_advance_104 : decode cM_advance 104 = .ok (.getfield 7, 3) := by decide +kernel
theorem dM_advance_107 : decode cM_advance 107 = .ok (.iload_n 2, 1) := by decide +kernel
theorem dM_advance_108 : decode cM_advance 108 = .ok (.iaload, 1) := by decide +kernel
theorem dM_advance_109 : decode cM_advance 109 = .ok (.iconst 2, 1) := by decide +kernel
theorem dM_advance_110 : decode cM_advance 110 = .ok (.if_icmp .ne 22, 3) := by decide +kernel
theorem dM_advance_113 : decode cM_advance 113 = .ok (.aload_n 0, 1) := by decide +kernel
theorem dM_advance_114 : decode cM_advance 114 = .ok (.getfield 26, 3) := by decide +kernel
theorem dM_advance_117 : decode cM_advance 117 = .ok (.iload_n 2, 1) := by decide +kernel
theorem dM_advance_118 : decode cM_advance 118 = .ok (.iaload, 1) := by decide +kernel
theorem dM_advance_119 : decode cM_advance 119 = .ok (.aload_n 0, 1) := by decide +kernel
theorem dM_advance_120 : decode cM_advance 120 = .ok (.getfield 85, 3) := by decide +kernel
theorem dM_advance_123 : decode cM_advance 123 = .ok (.iconst 2, 1) := by decide +kernel
theorem dM_advance_124 : decode cM_advance 124 = .ok (.isub, 1) := by decide +kernel
theorem dM_advance_125 : decode cM_advance 125 = .ok (.if_icmp .gt 7, 3) := by decide +kernel
theorem dM_advance_128 : decode cM_advance 128 = .ok (.iconst 0, 1) := by decide +kernel
theorem dM_advance_129 : decode cM_advance 129 = .ok (.goto 9, 3) := by decide +kernel
theorem dM_advance_132 : decode cM_advance 132 = .ok (.aload_n 0, 1) := by decide +kernel
theorem dM_advance_133 : decode cM_advance 133 = .ok (.getfield 7, 3) := by decide +kernel
theorem dM_advance_136 : decode cM_advance 136 = .ok (.iload_n 2, 1) := by decide +kernel
theorem dM_advance_137 : decode cM_advance 137 = .ok (.iaload, 1) := by decide +kernel
theorem dM_advance_138 : decode cM_advance 138 = .ok (.iastore, 1) := by decide +kernel
theorem dM_advance_139 : decode cM_advance 139 = .ok (.iinc 2 1, 3) := by decide +kernel
theorem dM_advance_142 : decode cM_advance 142 = .ok (.goto (-50), 3) := by decide +kernel
theorem dM_advance_145 : decode cM_advance 145 = .ok (.iconst 1, 1) := by decide +kernel
theorem dM_advance_146 : decode cM_advance 146 = .ok (.ireturn, 1) := by decide +kernel
theorem dM_scan_0 : decode cM_scan 0 = .ok (.aload_n 0, 1) := by decide +kernel
theorem dM_scan_1 : decode cM_scan 1 = .ok (.iload_n 1, 1) := by decide +kernel
theorem dM_scan_2 : decode cM_scan 2 = .ok (.invokestatic 78, 3) := by decide +kernel
theorem dM_scan_5 : decode cM_scan 5 = .ok (.ifCond .ne 7, 3) := by decide +kernel
end
section
theorem dM_scan_8 : decode cM_scan 8 = .ok (.iconst 1, 1) := by decide +kernel
theorem dM_scan_9 : decode cM_scan 9 = .ok (.goto 16, 3) := by decide +kernel
theorem dM_scan_12 : decode cM_scan 12 = .ok (.aload_n 0, 1) := by decide +kernel
theorem dM_scan_13 : decode cM_scan 13 = .ok (.getfield 71, 3) := by decide +kernel
theorem dM_scan_16 : decode cM_scan 16 = .ok (.iconst 1, 1) := by decide +kernel
theorem dM_scan_17 : decode cM_scan 17 = .ok (.if_icmp .eq 7, 3) := by decide +kernel
theorem dM_scan_20 : decode cM_scan 20 = .ok (.iconst 2, 1) := by decide +kernel
theorem dM_scan_21 : decode cM_scan 21 = .ok (.goto 4, 3) := by decide +kernel
theorem dM_scan_24 : decode cM_scan 24 = .ok (.iconst 0, 1) := by decide +kernel
theorem dM_scan_25 : decode cM_scan 25 = .ok (.putfield 75, 3) := by decide +kernel
theorem dM_scan_28 : decode cM_scan 28 = .ok (.aload_n 0, 1) := by decide +kernel
theorem dM_scan_29 : decode cM_scan 29 = .ok (.getfield 75, 3) := by decide +kernel
theorem dM_scan_32 : decode cM_scan 32 = .ok (.ifCond .le 7, 3) := by decide +kernel
theorem dM_scan_35 : decode cM_scan 35 = .ok (.iconst 0, 1) := by decide +kernel
theorem dM_scan_36 : decode cM_scan 36 = .ok (.goto 8, 3) := by decide +kernel
theorem dM_scan_39 : decode cM_scan 39 = .ok (.aload_n 0, 1) := by decide +kernel
theorem dM_scan_40 : decode cM_scan 40 = .ok (.iload_n 1, 1) := by decide +kernel
theorem dM_scan_41 : decode cM_scan 41 = .ok (.invokevirtual 88, 3) := by decide +kernel
theorem dM_scan_44 : decode cM_scan 44 = .ok (.ireturn, 1) := by decide +kernel
theorem dM_look_0 : decode cM_look 0 = .ok (.aload_n 0, 1) := by decide +kernel
theorem dM_look_1 : decode cM_look 1 = .ok (.iload_n 1, 1) := by decide +kernel
theorem dM_look_2 : decode cM_look 2 = .ok (.ifCond .le 31, 3) := by decide +kernel
theorem dM_look_5 : decode cM_look 5 = .ok (.aload_n 0, 1) := by decide +kernel
theorem dM_look_6 : decode cM_look 6 = .ok (.getfield 7, 3) := by decide +kernel
theorem dM_look_9 : decode cM_look 9 = .ok (.iload_n 1, 1) := by decide +kernel
theorem dM_look_10 : decode cM_look 10 = .ok (.iaload, 1) := by decide +kernel
theorem dM_look_11 : decode cM_look 11 = .ok (.ifCond .eq 13, 3) := by decide +kernel
theorem dM_look_14 : decode cM_look 14 = .ok (.aload_n 0, 1) := by decide +kernel
theorem dM_look_15 : decode cM_look 15 = .ok (.getfield 23, 3) := by decide +kernel
theorem dM_look_18 : decode cM_look 18 = .ok (.iload_n 1, 1) := by decide +kernel
theorem dM_look_19 : decode cM_look 19 = .ok (.iaload, 1) := by decide +kernel
theorem dM_look_20 : decode cM_look 20 = .ok (.iload_n 2, 1) := by decide +kernel
theorem dM_look_21 : decode cM_look 21 = .ok (.if_icmp .eq 12, 3) := by decide +kernel
theorem dM_look_24 : decode cM_look 24 = .ok (.aload_n 0, 1) := by decide +kernel
theorem dM_look_25 : decode cM_look 25 = .ok (.getfield 92, 3) := by decide +kernel
theorem dM_look_28 : decode cM_look 28 = .ok (.iconst 1, 1) := by decide +kernel
theorem dM_look_29 : decode cM_look 29 = .ok (.iadd, 1) := by decide +kernel
theorem dM_look_30 : decode cM_look 30 = .ok (.goto 7, 3) := by decide +kernel
theorem dM_look_33 : decode cM_look 33 = .ok (.aload_n 0, 1) := by decide +kernel
theorem dM_look_34 : decode cM_look 34 = .ok (.getfield 92, 3) := by decide +kernel
theorem dM_look_37 : decode cM_look 37 = .ok (.putfield 92, 3) := by decide +kernel
theorem dM_look_40 : decode cM_look 40 = .ok (.return_, 1) := by decide +kernel
theorem dM_lookBack_0 : decode cM_lookBack 0 = .ok (.aload_n 0, 1) := by decide +kernel
theorem dM_lookBack_1 : decode cM_lookBack 1 = .ok (.aload_n 0, 1) := by decide +kernel
theorem dM_lookBack_2 : decode cM_lookBack 2 = .ok (.getfield 38, 3) := by decide +kernel
theorem dM_lookBack_5 : decode cM_lookBack 5 = .ok (.iload_n 1, 1) := by decide +kernel
theorem dM_lookBack_6 : decode cM_lookBack 6 = .ok (.iaload, 1) := by decide +kernel
theorem dM_lookBack_7 : decode cM_lookBack 7 = .ok (.aload_n 0, 1) := by decide +kernel
theorem dM_lookBack_8 : decode cM_lookBack 8 = .ok (.getfield 41, 3) := by decide +kernel
theorem dM_lookBack_11 : decode cM_lookBack 11 = .ok (.iload_n 1, 1) := by decide +kernel
theorem dM_lookBack_12 : decode cM_lookBack 12 = .ok (.iaload, 1) := by decide +kernel
theorem dM_lookBack_13 : decode cM_lookBack 13 = .ok (.invokevirtual 95, 3) := by decide +kernel
theorem dM_lookBack_16 : decode cM_lookBack 16 = .ok (.return_, 1) := by decide +kernel
theorem dM_linked_0 : decode cM_linked 0 = .ok (.aload_n 0, 1) := by decide +kernel
theorem dM_linked_1 : decode cM_linked 1 = .ok (.getfield 16, 3) := by decide +kernel
theorem dM_linked_4 : decode cM_linked 4 = .ok (.aload_n 0, 1) := by decide +kernel
theorem dM_linked_5 : decode cM_linked 5 = .ok (.getfield 38, 3) := by decide +kernel
theorem dM_linked_8 : decode cM_linked 8 = .ok (.iload_n 1, 1) := by decide +kernel
theorem dM_linked_9 : decode cM_linked 9 = .ok (.iaload, 1) := by decide +kernel
theorem dM_linked_10 : decode cM_linked 10 = .ok (.iaload, 1) := by decide +kernel
theorem dM_linked_11 : decode cM_linked 11 = .ok (.aload_n 0, 1) := by decide +kernel
theorem dM_linked_12 : decode cM_linked 12 = .ok (.getfield 44, 3) := by decide +kernel
theorem dM_linked_15 : decode cM_linked 15 = .ok (.iload_n 1, 1) := by decide +kernel
theorem dM_linked_16 : decode cM_linked 16 = .ok (.iaload, 1) := by decide +kernel
theorem dM_linked_17 : decode cM_linked 17 = .ok (.if_icmp .ne 21, 3) := by decide +kernel
theorem dM_linked_20 : decode cM_linked 20 = .ok (.aload_n 0, 1) := by decide +kernel
theorem dM_linked_21 : decode cM_linked 21 = .ok (.getfield 19, 3) := by decide +kernel
theorem dM_linked_24 : decode cM_linked 24 = .ok (.aload_n 0, 1) := by decide +kernel
theorem dM_linked_25 : decode cM_linked 25 = .ok (.getfield 38, 3) := by decide +kernel
theorem dM_linked_28 : decode cM_linked 28 = .ok (.iload_n 1, 1) := by decide +kernel
theorem dM_linked_29 : decode cM_linked 29 = .ok (.iaload, 1) := by decide +kernel
theorem dM_linked_30 : decode cM_linked 30 = .ok (.baload, 1) := by decide +kernel
theorem dM_linked_31 : decode cM_linked 31 = .ok (.ifCond .ne 7, 3) := by decide +kernel
theorem dM_linked_34 : decode cM_linked 34 = .ok (.iconst 1, 1) := by decide +kernel
theorem dM_linked_35 : decode cM_linked 35 = .ok (.goto 4, 3) := by decide +kernel
theorem dM_linked_38 : decode cM_linked 38 = .ok (.iconst 0, 1) := by decide +kernel
theorem dM_linked_39 : decode cM_linked 39 = .ok (.ireturn, 1) := by decide +kernel
theorem dM_link_0 : decode cM_link 0 = .ok (.aload_n 0, 1) := by decide +kernel
theorem dM_link_1 : decode cM_link 1 = .ok (.getfield 16, 3) := by decide +kernel
theorem dM_link_4 : decode cM_link 4 = .ok (.iload_n 1, 1) := by decide +kernel
theorem dM_link_5 : decode cM_link 5 = .ok (.iload_n 2, 1) := by decide +kernel
theorem dM_link_6 : decode cM_link 6 = .ok (.iastore, 1) := by decide +kernel
theorem dM_link_7 : decode cM_link 7 = .ok (.aload_n 0, 1) := by decide +kernel
theorem dM_link_8 : decode cM_link 8 = .ok (.getfield 19, 3) := by decide +kernel
theorem dM_link_11 : decode cM_link 11 = .ok (.iload_n 1, 1) := by decide +kernel
theorem dM_link_12 : decode cM_link 12 = .ok (.iload_n 3, 1) := by decide +kernel
theorem dM_link_13 : decode cM_link 13 = .ok (.bastore, 1) := by decide +kernel
theorem dM_link_14 : decode cM_link 14 = .ok (.return_, 1) := by decide +kernel
theorem dM_come_0 : decode cM_come 0 = .ok (.aload_n 0, 1) := by decide +kernel
theorem dM_come_1 : decode cM_come 1 = .ok (.getfield 44, 3) := by decide +kernel
theorem dM_come_4 : decode cM_come 4 = .ok (.iload_n 1, 1) := by decide +kernel
theorem dM_come_5 : decode cM_come 5 = .ok (.iload_n 2, 1) := by decide +kernel
theorem dM_come_6 : decode cM_come 6 = .ok (.iastore, 1) := by decide +kernel
theorem dM_come_7 : decode cM_come 7 = .ok (.aload_n 0, 1) := by decide +kernel
theorem dM_come_8 : decode cM_come 8 = .ok (.getfield 47, 3) := by decide +kernel
theorem dM_come_11 : decode cM_come 11 = .ok (.iload_n 1, 1) := by decide +kernel
theorem dM_come_12 : decode cM_come 12 = .ok (.aload_n 0, 1) := by decide +kernel
theorem dM_come_13 : decode cM_come 13 = .ok (.getfield 23, 3) := by decide +kernel
theorem dM_come_16 : decode cM_come 16 = .ok (.iload_n 2, 1) := by decide +kernel
theorem dM_come_17 : decode cM_come 17 = .ok (.iaload, 1) := by decide +kernel
theorem dM_come_18 : decode cM_come 18 = .ok (.iastore, 1) := by decide +kernel
theorem dM_come_19 : decode cM_come 19 = .ok (.aload_n 0, 1) := by decide +kernel
theorem dM_come_20 : decode cM_come 20 = .ok (.getfield 71, 3) := by decide +kernel
theorem dM_come_23 : decode cM_come 23 = .ok (.iconst 1, 1) := by decide +kernel
theorem dM_come_24 : decode cM_come 24 = .ok (.if_icmp .ne 11, 3) := by decide +kernel
theorem dM_come_27 : decode cM_come 27 = .ok (.iload_n 2, 1) := by decide +kernel
theorem dM_come_28 : decode cM_come 28 = .ok (.ifCond .eq 7, 3) := by decide +kernel
theorem dM_come_31 : decode cM_come 31 = .ok (.iconst 3, 1) := by decide +kernel
theorem dM_come_32 : decode cM_come 32 = .ok (.goto 4, 3) := by decide +kernel
theorem dM_come_35 : decode cM_come 35 = .ok (.iconst 4, 1) := by decide +kernel
theorem dM_come_36 : decode cM_come 36 = .ok (.ireturn, 1) := by decide +kernel
theorem dM_head_0 : decode cM_head 0 = .ok (.aload_n 0, 1) := by decide +kernel
theorem dM_head_1 : decode cM_head 1 = .ok (.getfield 38, 3) := by decide +kernel
theorem dM_head_4 : decode cM_head 4 = .ok (.iload_n 1, 1) := by decide +kernel
theorem dM_head_5 : decode cM_head 5 = .ok (.iconst 0, 1) := by decide +kernel
theorem dM_head_6 : decode cM_head 6 = .ok (.iastore, 1) := by decide +kernel
theorem dM_head_7 : decode cM_head 7 = .ok (.aload_n 0, 1) := by decide +kernel
theorem dM_head_8 : decode cM_head 8 = .ok (.getfield 41, 3) := by decide +kernel
theorem dM_head_11 : decode cM_head 11 = .ok (.iload_n 1, 1) := by decide +kernel
theorem dM_head_12 : decode cM_head 12 = .ok (.iconst 0, 1) := by decide +kernel
theorem dM_head_13 : decode cM_head 13 = .ok (.iastore, 1) := by decide +kernel
theorem dM_head_14 : decode cM_head 14 = .ok (.aload_n 0, 1) := by decide +kernel
theorem dM_head_15 : decode cM_head 15 = .ok (.iload_n 1, 1) := by decide +kernel
theorem dM_head_16 : decode cM_head 16 = .ok (.aload_n 0, 1) := by decide +kernel
theorem dM_head_17 : decode cM_head 17 = .ok (.getfield 16, 3) := by decide +kernel
theorem dM_head_20 : decode cM_head 20 = .ok (.iconst 0, 1) := by decide +kernel
theorem dM_head_21 : decode cM_head 21 = .ok (.iaload, 1) := by decide +kernel
theorem dM_head_22 : decode cM_head 22 = .ok (.invokevirtual 99, 3) := by decide +kernel
theorem dM_head_25 : decode cM_head 25 = .ok (.ireturn, 1) := by decide +kernel
theorem dM_name_0 : decode cM_name 0 = .ok (.aload_n 0, 1) := by decide +kernel
theorem dM_name_1 : decode cM_name 1 = .ok (.getfield 38, 3) := by decide +kernel
theorem dM_name_4 : decode cM_name 4 = .ok (.iload_n 1, 1) := by decide +kernel
theorem dM_name_5 : decode cM_name 5 = .ok (.iaload, 1) := by decide +kernel
theorem dM_name_6 : decode cM_name 6 = .ok (.ifCond .eq 24, 3) := by decide +kernel
theorem dM_name_9 : decode cM_name 9 = .ok (.aload_n 0, 1) := by decide +kernel
theorem dM_name_10 : decode cM_name 10 = .ok (.getfield 68, 3) := by decide +kernel
theorem dM_name_13 : decode cM_name 13 = .ok (.iconst 2, 1) := by decide +kernel
theorem dM_name_14 : decode cM_name 14 = .ok (.iload_n 1, 1) := by decide +kernel
theorem dM_name_15 : decode cM_name 15 = .ok (.imul, 1) := by decide +kernel
theorem dM_name_16 : decode cM_name 16 = .ok (.iaload, 1) := by decide +kernel
theorem dM_name_17 : decode cM_name 17 = .ok (.aload_n 0, 1) := by decide +kernel
theorem dM_name_18 : decode cM_name 18 = .ok (.getfield 38, 3) := by decide +kernel
theorem dM_name_21 : decode cM_name 21 = .ok (.iload_n 1, 1) := by decide +kernel
theorem dM_name_22 : decode cM_name 22 = .ok (.iaload, 1) := by decide +kernel
theorem dM_name_23 : decode cM_name 23 = .ok (.if_icmp .ne 7, 3) := by decide +kernel
theorem dM_name_26 : decode cM_name 26 = .ok (.iconst 1, 1) := by decide +kernel
theorem dM_name_27 : decode cM_name 27 = .ok (.goto 4, 3) := by decide +kernel
theorem dM_name_30 : decode cM_name 30 = .ok (.iconst 0, 1) := by decide +kernel
theorem dM_name_31 : decode cM_name 31 = .ok (.istore_n 2, 1) := by decide +kernel
theorem dM_name_32 : decode cM_name 32 = .ok (.aload_n 0, 1) := by decide +kernel
theorem dM_name_33 : decode cM_name 33 = .ok (.getfield 68, 3) := by decide +kernel
theorem dM_name_36 : decode cM_name 36 = .ok (.iload_n 2, 1) := by decide +kernel
theorem dM_name_37 : decode cM_name 37 = .ok (.ifCond .eq 11, 3) := by decide +kernel
theorem dM_name_40 : decode cM_name 40 = .ok (.iconst 2, 1) := by decide +kernel
theorem dM_name_41 : decode cM_name 41 = .ok (.iload_n 1, 1) := by decide +kernel
theorem dM_name_42 : decode cM_name 42 = .ok (.imul, 1) := by decide +kernel
theorem dM_name_43 : decode cM_name 43 = .ok (.iconst 1, 1) := by decide +kernel
theorem dM_name_44 : decode cM_name 44 = .ok (.iadd, 1) := by decide +kernel
theorem dM_name_45 : decode cM_name 45 = .ok (.goto 6, 3) := by decide +kernel
theorem dM_name_48 : decode cM_name 48 = .ok (.iconst 2, 1) := by decide +kernel
theorem dM_name_49 : decode cM_name 49 = .ok (.iload_n 1, 1) := by decide +kernel
theorem dM_name_50 : decode cM_name 50 = .ok (.imul, 1) := by decide +kernel
theorem dM_name_51 : decode cM_name 51 = .ok (.aload_n 0, 1) := by decide +kernel
theorem dM_name_52 : decode cM_name 52 = .ok (.getfield 44, 3) := by decide +kernel
theorem dM_name_55 : decode cM_name 55 = .ok (.iload_n 1, 1) := by decide +kernel
theorem dM_name_56 : decode cM_name 56 = .ok (.iaload, 1) := by decide +kernel
theorem dM_name_57 : decode cM_name 57 = .ok (.iastore, 1) := by decide +kernel
theorem dM_name_58 : decode cM_name 58 = .ok (.iconst 4, 1) := by decide +kernel
theorem dM_name_59 : decode cM_name 59 = .ok (.ireturn, 1) := by decide +kernel
theorem dM_check_0 : decode cM_check 0 = .ok (.aload_n 0, 1) := by decide +kernel
theorem dM_check_1 : decode cM_check 1 = .ok (.iload_n 1, 1) := by decide +kernel
theorem dM_check_2 : decode cM_check 2 = .ok (.invokevirtual 103, 3) := by decide +kernel
theorem dM_check_5 : decode cM_check 5 = .ok (.aload_n 0, 1) := by decide +kernel
theorem dM_check_6 : decode cM_check 6 = .ok (.iload_n 1, 1) := by decide +kernel
theorem dM_check_7 : decode cM_check 7 = .ok (.invokevirtual 107, 3) := by decide +kernel
theorem dM_check_10 : decode cM_check 10 = .ok (.ifCond .ne 5, 3) := by decide +kernel
theorem dM_check_13 : decode cM_check 13 = .ok (.iconst 2, 1) := by decide +kernel
theorem dM_check_14 : decode cM_check 14 = .ok (.ireturn, 1) := by decide +kernel
theorem dM_check_15 : decode cM_check 15 = .ok (.aload_n 0, 1) := by decide +kernel
theorem dM_check_16 : decode cM_check 16 = .ok (.getfield 53, 3) := by decide +kernel
theorem dM_check_19 : decode cM_check 19 = .ok (.iload_n 1, 1) := by decide +kernel
theorem dM_check_20 : decode cM_check 20 = .ok (.aload_n 0, 1) := by decide +kernel
theorem dM_check_21 : decode cM_check 21 = .ok (.getfield 44, 3) := by decide +kernel
theorem dM_check_24 : decode cM_check 24 = .ok (.iload_n 1, 1) := by decide +kernel
theorem dM_check_25 : decode cM_check 25 = .ok (.iaload, 1) := by decide +kernel
theorem dM_check_26 : decode cM_check 26 = .ok (.ifCond .eq 16, 3) := by decide +kernel
theorem dM_check_29 : decode cM_check 29 = .ok (.aload_n 0, 1) := by decide +kernel
theorem dM_check_30 : decode cM_check 30 = .ok (.getfield 53, 3) := by decide +kernel
theorem dM_check_33 : decode cM_check 33 = .ok (.iload_n 1, 1) := by decide +kernel
theorem dM_check_34 : decode cM_check 34 = .ok (.baload, 1) := by decide +kernel
theorem dM_check_35 : decode cM_check 35 = .ok (.ifCond .eq 7, 3) := by decide +kernel
theorem dM_check_38 : decode cM_check 38 = .ok (.iconst 1, 1) := by decide +kernel
theorem dM_check_39 : decode cM_check 39 = .ok (.goto 4, 3) := by decide +kernel
theorem dM_check_42 : decode cM_check 42 = .ok (.iconst 0, 1) := by decide +kernel
theorem dM_check_43 : decode cM_check 43 = .ok (.bastore, 1) := by decide +kernel
theorem dM_check_44 : decode cM_check 44 = .ok (.aload_n 0, 1) := by decide +kernel
theorem dM_check_45 : decode cM_check 45 = .ok (.getfield 44, 3) := by decide +kernel
theorem dM_check_48 : decode cM_check 48 = .ok (.iload_n 1, 1) := by decide +kernel
theorem dM_check_49 : decode cM_check 49 = .ok (.iaload, 1) := by decide +kernel
theorem dM_check_50 : decode cM_check 50 = .ok (.ifCond .ne 8, 3) := by decide +kernel
theorem dM_check_53 : decode cM_check 53 = .ok (.bipush 7, 2) := by decide +kernel
theorem dM_check_55 : decode cM_check 55 = .ok (.goto 4, 3) := by decide +kernel
theorem dM_check_58 : decode cM_check 58 = .ok (.iconst 5, 1) := by decide +kernel
theorem dM_check_59 : decode cM_check 59 = .ok (.ireturn, 1) := by decide +kernel
theorem dM_read_0 : decode cM_read 0 = .ok (.aload_n 0, 1) := by decide +kernel
theorem dM_read_1 : decode cM_read 1 = .ok (.getfield 44, 3) := by decide +kernel
theorem dM_read_4 : decode cM_read 4 = .ok (.iload_n 1, 1) := by decide +kernel
theorem dM_read_5 : decode cM_read 5 = .ok (.iaload, 1) := by decide +kernel
theorem dM_read_6 : decode cM_read 6 = .ok (.istore_n 2, 1) := by decide +kernel
theorem dM_read_7 : decode cM_read 7 = .ok (.aload_n 0, 1) := by decide +kernel
theorem dM_read_8 : decode cM_read 8 = .ok (.iload_n 2, 1) := by decide +kernel
theorem dM_read_9 : decode cM_read 9 = .ok (.aload_n 0, 1) := by decide +kernel
theorem dM_read_10 : decode cM_read 10 = .ok (.getfield 47, 3) := by decide +kernel
theorem dM_read_13 : decode cM_read 13 = .ok (.iload_n 1, 1) := by decide +kernel
theorem dM_read_14 : decode cM_read 14 = .ok (.iaload, 1) := by decide +kernel
theorem dM_read_15 : decode cM_read 15 = .ok (.invokevirtual 95, 3) := by decide +kernel
theorem dM_read_18 : decode cM_read 18 = .ok (.aload_n 0, 1) := by decide +kernel
theorem dM_read_19 : decode cM_read 19 = .ok (.getfield 50, 3) := by decide +kernel
theorem dM_read_22 : decode cM_read 22 = .ok (.iload_n 1, 1) := by decide +kernel
theorem dM_read_23 : decode cM_read 23 = .ok (.aload_n 0, 1) := by decide +kernel
theorem dM_read_24 : decode cM_read 24 = .ok (.getfield 16, 3) := by decide +kernel
theorem dM_read_27 : decode cM_read 27 = .ok (.iload_n 2, 1) := by decide +kernel
theorem dM_read_28 : decode cM_read 28 = .ok (.iaload, 1) := by decide +kernel
theorem dM_read_29 : decode cM_read 29 = .ok (.iastore, 1) := by decide +kernel
theorem dM_read_30 : decode cM_read 30 = .ok (.aload_n 0, 1) := by decide +kernel
theorem dM_read_31 : decode cM_read 31 = .ok (.getfield 19, 3) := by decide +kernel
theorem dM_read_34 : decode cM_read 34 = .ok (.iload_n 2, 1) := by decide +kernel
theorem dM_read_35 : decode cM_read 35 = .ok (.baload, 1) := by decide +kernel
theorem dM_read_36 : decode cM_read 36 = .ok (.ifCond .eq 6, 3) := by decide +kernel
theorem dM_read_39 : decode cM_read 39 = .ok (.bipush 6, 2) := by decide +kernel
theorem dM_read_41 : decode cM_read 41 = .ok (.ireturn, 1) := by decide +kernel
theorem dM_read_42 : decode cM_read 42 = .ok (.aload_n 0, 1) := by decide +kernel
theorem dM_read_43 : decode cM_read 43 = .ok (.getfield 13, 3) := by decide +kernel
theorem dM_read_46 : decode cM_read 46 = .ok (.iload_n 2, 1) := by decide +kernel
theorem dM_read_47 : decode cM_read 47 = .ok (.iaload, 1) := by decide +kernel
theorem dM_read_48 : decode cM_read 48 = .ok (.aload_n 0, 1) := by decide +kernel
theorem dM_read_49 : decode cM_read 49 = .ok (.getfield 35, 3) := by decide +kernel
theorem dM_read_52 : decode cM_read 52 = .ok (.iload_n 1, 1) := by decide +kernel
theorem dM_read_53 : decode cM_read 53 = .ok (.iaload, 1) := by decide +kernel
theorem dM_read_54 : decode cM_read 54 = .ok (.if_icmp .lt 32, 3) := by decide +kernel
theorem dM_read_57 : decode cM_read 57 = .ok (.aload_n 0, 1) := by decide +kernel
theorem dM_read_58 : decode cM_read 58 = .ok (.getfield 53, 3) := by decide +kernel
theorem dM_read_61 : decode cM_read 61 = .ok (.iload_n 1, 1) := by decide +kernel
theorem dM_read_62 : decode cM_read 62 = .ok (.aload_n 0, 1) := by decide +kernel
theorem dM_read_63 : decode cM_read 63 = .ok (.getfield 13, 3) := by decide +kernel
theorem dM_read_66 : decode cM_read 66 = .ok (.iload_n 2, 1) := by decide +kernel
theorem dM_read_67 : decode cM_read 67 = .ok (.iaload, 1) := by decide +kernel
theorem dM_read_68 : decode cM_read 68 = .ok (.aload_n 0, 1) := by decide +kernel
theorem dM_read_69 : decode cM_read 69 = .ok (.getfield 35, 3) := by decide +kernel
theorem dM_read_72 : decode cM_read 72 = .ok (.iload_n 1, 1) := by decide +kernel
theorem dM_read_73 : decode cM_read 73 = .ok (.iaload, 1) := by decide +kernel
theorem dM_read_74 : decode cM_read 74 = .ok (.if_icmp .ne 7, 3) := by decide +kernel
theorem dM_read_77 : decode cM_read 77 = .ok (.iconst 1, 1) := by decide +kernel
theorem dM_read_78 : decode cM_read 78 = .ok (.goto 4, 3) := by decide +kernel
theorem dM_read_81 : decode cM_read 81 = .ok (.iconst 0, 1) := by decide +kernel
theorem dM_read_82 : decode cM_read 82 = .ok (.bastore, 1) := by decide +kernel
theorem dM_read_83 : decode cM_read 83 = .ok (.bipush 7, 2) := by decide +kernel
theorem dM_read_85 : decode cM_read 85 = .ok (.ireturn, 1) := by decide +kernel
theorem dM_read_86 : decode cM_read 86 = .ok (.aload_n 0, 1) := by decide +kernel
theorem dM_read_87 : decode cM_read 87 = .ok (.getfield 38, 3) := by decide +kernel
theorem dM_read_90 : decode cM_read 90 = .ok (.iload_n 1, 1) := by decide +kernel
theorem dM_read_91 : decode cM_read 91 = .ok (.iload_n 2, 1) := by decide +kernel
theorem dM_read_92 : decode cM_read 92 = .ok (.iastore, 1) := by decide +kernel
theorem dM_read_93 : decode cM_read 93 = .ok (.aload_n 0, 1) := by decide +kernel
theorem dM_read_94 : decode cM_read 94 = .ok (.getfield 41, 3) := by decide +kernel
theorem dM_read_97 : decode cM_read 97 = .ok (.iload_n 1, 1) := by decide +kernel
theorem dM_read_98 : decode cM_read 98 = .ok (.aload_n 0, 1) := by decide +kernel
theorem dM_read_99 : decode cM_read 99 = .ok (.getfield 47, 3) := by decide +kernel
theorem dM_read_102 : decode cM_read 102 = .ok (.iload_n 1, 1) := by decide +kernel
theorem dM_read_103 : decode cM_read 103 = .ok (.iaload, 1) := by decide +kernel
theorem dM_read_104 : decode cM_read 104 = .ok (.iastore, 1) := by decide +kernel
theorem dM_read_105 : decode cM_read 105 = .ok (.aload_n 0, 1) := by decide +kernel
theorem dM_read_106 : decode cM_read 106 = .ok (.iload_n 1, 1) := by decide +kernel
theorem dM_read_107 : decode cM_read 107 = .ok (.aload_n 0, 1) := by decide +kernel
theorem dM_read_108 : decode cM_read 108 = .ok (.getfield 50, 3) := by decide +kernel
theorem dM_read_111 : decode cM_read 111 = .ok (.iload_n 1, 1) := by decide +kernel
theorem dM_read_112 : decode cM_read 112 = .ok (.iaload, 1) := by decide +kernel
theorem dM_read_113 : decode cM_read 113 = .ok (.invokevirtual 99, 3) := by decide +kernel
theorem dM_read_116 : decode cM_read 116 = .ok (.ireturn, 1) := by decide +kernel
theorem dM_cut_0 : decode cM_cut 0 = .ok (.aload_n 0, 1) := by decide +kernel
theorem dM_cut_1 : decode cM_cut 1 = .ok (.iload_n 1, 1) := by decide +kernel
theorem dM_cut_2 : decode cM_cut 2 = .ok (.invokevirtual 103, 3) := by decide +kernel
theorem dM_cut_5 : decode cM_cut 5 = .ok (.aload_n 0, 1) := by decide +kernel
theorem dM_cut_6 : decode cM_cut 6 = .ok (.iload_n 1, 1) := by decide +kernel
theorem dM_cut_7 : decode cM_cut 7 = .ok (.invokevirtual 107, 3) := by decide +kernel
theorem dM_cut_10 : decode cM_cut 10 = .ok (.ifCond .ne 5, 3) := by decide +kernel
theorem dM_cut_13 : decode cM_cut 13 = .ok (.iconst 2, 1) := by decide +kernel
theorem dM_cut_14 : decode cM_cut 14 = .ok (.ireturn, 1) := by decide +kernel
theorem dM_cut_15 : decode cM_cut 15 = .ok (.aload_n 0, 1) := by decide +kernel
theorem dM_cut_16 : decode cM_cut 16 = .ok (.aload_n 0, 1) := by decide +kernel
theorem dM_cut_17 : decode cM_cut 17 = .ok (.getfield 38, 3) := by decide +kernel
theorem dM_cut_20 : decode cM_cut 20 = .ok (.iload_n 1, 1) := by decide +kernel
theorem dM_cut_21 : decode cM_cut 21 = .ok (.iaload, 1) := by decide +kernel
theorem dM_cut_22 : decode cM_cut 22 = .ok (.aload_n 0, 1) := by decide +kernel
theorem dM_cut_23 : decode cM_cut 23 = .ok (.getfield 50, 3) := by decide +kernel
theorem dM_cut_26 : decode cM_cut 26 = .ok (.iload_n 1, 1) := by decide +kernel
theorem dM_cut_27 : decode cM_cut 27 = .ok (.iaload, 1) := by decide +kernel
theorem dM_cut_28 : decode cM_cut 28 = .ok (.iconst 0, 1) := by decide +kernel
theorem dM_cut_29 : decode cM_cut 29 = .ok (.invokevirtual 110, 3) := by decide +kernel
theorem dM_cut_32 : decode cM_cut 32 = .ok (.aload_n 0, 1) := by decide +kernel
theorem dM_cut_33 : decode cM_cut 33 = .ok (.iload_n 1, 1) := by decide +kernel
theorem dM_cut_34 : decode cM_cut 34 = .ok (.aload_n 0, 1) := by decide +kernel
theorem dM_cut_35 : decode cM_cut 35 = .ok (.getfield 44, 3) := by decide +kernel
theorem dM_cut_38 : decode cM_cut 38 = .ok (.iload_n 1, 1) := by decide +kernel
theorem dM_cut_39 : decode cM_cut 39 = .ok (.iaload, 1) := by decide +kernel
theorem dM_cut_40 : decode cM_cut 40 = .ok (.invokevirtual 114, 3) := by decide +kernel
theorem dM_cut_43 : decode cM_cut 43 = .ok (.aload_n 0, 1) := by decide +kernel
theorem dM_cut_44 : decode cM_cut 44 = .ok (.iload_n 1, 1) := by decide +kernel
theorem dM_cut_45 : decode cM_cut 45 = .ok (.aload_n 0, 1) := by decide +kernel
theorem dM_cut_46 : decode cM_cut 46 = .ok (.getfield 50, 3) := by decide +kernel
theorem dM_cut_49 : decode cM_cut 49 = .ok (.iload_n 1, 1) := by decide +kernel
theorem dM_cut_50 : decode cM_cut 50 = .ok (.iaload, 1) := by decide +kernel
theorem dM_cut_51 : decode cM_cut 51 = .ok (.invokevirtual 99, 3) := by decide +kernel
theorem dM_cut_54 : decode cM_cut 54 = .ok (.ireturn, 1) := by decide +kernel
theorem dM_insert_0 : decode cM_insert 0 = .ok (.aload_n 0, 1) := by decide +kernel
theorem dM_insert_1 : decode cM_insert 1 = .ok (.getfield 53, 3) := by decide +kernel
theorem dM_insert_4 : decode cM_insert 4 = .ok (.iload_n 1, 1) := by decide +kernel
theorem dM_insert_5 : decode cM_insert 5 = .ok (.baload, 1) := by decide +kernel
theorem dM_insert_6 : decode cM_insert 6 = .ok (.ifCond .eq 41, 3) := by decide +kernel
theorem dM_insert_9 : decode cM_insert 9 = .ok (.aload_n 0, 1) := by decide +kernel
theorem dM_insert_10 : decode cM_insert 10 = .ok (.getfield 56, 3) := by decide +kernel
theorem dM_insert_13 : decode cM_insert 13 = .ok (.iload_n 1, 1) := by decide +kernel
theorem dM_insert_14 : decode cM_insert 14 = .ok (.iaload, 1) := by decide +kernel
theorem dM_insert_15 : decode cM_insert 15 = .ok (.ifCond .le 22, 3) := by decide +kernel
theorem dM_insert_18 : decode cM_insert 18 = .ok (.aload_n 0, 1) := by decide +kernel
theorem dM_insert_19 : decode cM_insert 19 = .ok (.getfield 7, 3) := by decide +kernel
theorem dM_insert_22 : decode cM_insert 22 = .ok (.aload_n 0, 1) := by decide +kernel
theorem dM_insert_23 : decode cM_insert 23 = .ok (.getfield 56, 3) := by decide +kernel
theorem dM_insert_26 : decode cM_insert 26 = .ok (.iload_n 1, 1) := by decide +kernel
theorem dM_insert_27 : decode cM_insert 27 = .ok (.iaload, 1) := by decide +kernel
theorem dM_insert_28 : decode cM_insert 28 = .ok (.iconst 0, 1) := by decide +kernel
theorem dM_insert_29 : decode cM_insert 29 = .ok (.iastore, 1) := by decide +kernel
theorem dM_insert_30 : decode cM_insert 30 = .ok (.aload_n 0, 1) := by decide +kernel
theorem dM_insert_31 : decode cM_insert 31 = .ok (.getfield 56, 3) := by decide +kernel
theorem dM_insert_34 : decode cM_insert 34 = .ok (.iload_n 1, 1) := by decide +kernel
theorem dM_insert_35 : decode cM_insert 35 = .ok (.iconst 0, 1) := by decide +kernel
theorem dM_insert_36 : decode cM_insert 36 = .ok (.iastore, 1) := by decide +kernel
theorem dM_insert_37 : decode cM_insert 37 = .ok (.aload_n 0, 1) := by decide +kernel
theorem dM_insert_38 : decode cM_insert 38 = .ok (.getfield 59, 3) := by decide +kernel
theorem dM_insert_41 : decode cM_insert 41 = .ok (.iload_n 1, 1) := by decide +kernel
theorem dM_insert_42 : decode cM_insert 42 = .ok (.iconst 0, 1) := by decide +kernel
theorem dM_insert_43 : decode cM_insert 43 = .ok (.iastore, 1) := by decide +kernel
theorem dM_insert_44 : decode cM_insert 44 = .ok (.bipush 9, 2) := by decide +kernel
theorem dM_insert_46 : decode cM_insert 46 = .ok (.ireturn, 1) := by decide +kernel
theorem dM_insert_47 : decode cM_insert 47 = .ok (.iconst 1, 1) := by decide +kernel
theorem dM_insert_48 : decode cM_insert 48 = .ok (.istore_n 2, 1) := by decide +kernel
theorem dM_insert_49 : decode cM_insert 49 = .ok (.iload_n 2, 1) := by decide +kernel
theorem dM_insert_50 : decode cM_insert 50 = .ok (.bipush 20, 2) := by decide +kernel
theorem dM_insert_52 : decode cM_insert 52 = .ok (.if_icmp .gt 51, 3) := by decide +kernel
theorem dM_insert_55 : decode cM_insert 55 = .ok (.aload_n 0, 1) := by decide +kernel
theorem dM_insert_56 : decode cM_insert 56 = .ok (.getfield 56, 3) := by decide +kernel
theorem dM_insert_59 : decode cM_insert 59 = .ok (.iload_n 1, 1) := by decide +kernel
theorem dM_insert_60 : decode cM_insert 60 = .ok (.iaload, 1) := by decide +kernel
theorem dM_insert_61 : decode cM_insert 61 = .ok (.ifCond .ne 42, 3) := by decide +kernel
theorem dM_insert_64 : decode cM_insert 64 = .ok (.aload_n 0, 1) := by decide +kernel
theorem dM_insert_65 : decode cM_insert 65 = .ok (.getfield 7, 3) := by decide +kernel
theorem dM_insert_68 : decode cM_insert 68 = .ok (.iload_n 2, 1) := by decide +kernel
theorem dM_insert_69 : decode cM_insert 69 = .ok (.iaload, 1) := by decide +kernel
theorem dM_insert_70 : decode cM_insert 70 = .ok (.ifCond .ne 27, 3) := by decide +kernel
theorem dM_insert_73 : decode cM_insert 73 = .ok (.aload_n 0, 1) := by decide +kernel
theorem dM_insert_74 : decode cM_insert 74 = .ok (.getfield 56, 3) := by decide +kernel
theorem dM_insert_77 : decode cM_insert 77 = .ok (.iload_n 1, 1) := by decide +kernel
theorem dM_insert_78 : decode cM_insert 78 = .ok (.iload_n 2, 1) := by decide +kernel
theorem dM_insert_79 : decode cM_insert 79 = .ok (.iastore, 1) := by decide +kernel
theorem dM_insert_80 : decode cM_insert 80 = .ok (.aload_n 0, 1) := by decide +kernel
theorem dM_insert_81 : decode cM_insert 81 = .ok (.getfield 7, 3) := by decide +kernel
theorem dM_insert_84 : decode cM_insert 84 = .ok (.iload_n 2, 1) := by decide +kernel
theorem dM_insert_85 : decode cM_insert 85 = .ok (.iconst 1, 1) := by decide +kernel
theorem dM_insert_86 : decode cM_insert 86 = .ok (.iastore, 1) := by decide +kernel
theorem dM_insert_87 : decode cM_insert 87 = .ok (.aload_n 0, 1) := by decide +kernel
theorem dM_insert_88 : decode cM_insert 88 = .ok (.getfield 23, 3) := by decide +kernel
theorem dM_insert_91 : decode cM_insert 91 = .ok (.iload_n 2, 1) := by decide +kernel
theorem dM_insert_92 : decode cM_insert 92 = .ok (.dup2, 1) := by decide +kernel
theorem dM_insert_93 : decode cM_insert 93 = .ok (.iaload, 1) := by decide +kernel
theorem dM_insert_94 : decode cM_insert 94 = .ok (.iconst 1, 1) := by decide +kernel
theorem dM_insert_95 : decode cM_insert 95 = .ok (.iadd, 1) := by decide +kernel
theorem dM_insert_96 : decode cM_insert 96 = .ok (.iastore, 1) := by decide +kernel
theorem dM_insert_97 : decode cM_insert 97 = .ok (.iinc 2 1, 3) := by decide +kernel
theorem dM_insert_100 : decode cM_insert 100 = .ok (.goto (-51), 3) := by decide +kernel
theorem dM_insert_103 : decode cM_insert 103 = .ok (.aload_n 0, 1) := by decide +kernel
theorem dM_insert_104 : decode cM_insert 104 = .ok (.getfield 56, 3) := by decide +kernel
theorem dM_insert_107 : decode cM_insert 107 = .ok (.iload_n 1, 1) := by decide +kernel
theorem dM_insert_108 : decode cM_insert 108 = .ok (.iaload, 1) := by decide +kernel
theorem dM_insert_109 : decode cM_insert 109 = .ok (.ifCond .ne 13, 3) := by decide +kernel
theorem dM_insert_112 : decode cM_insert 112 = .ok (.aload_n 0, 1) := by decide +kernel
theorem dM_insert_113 : decode cM_insert 113 = .ok (.getfield 59, 3) := by decide +kernel
theorem dM_insert_116 : decode cM_insert 116 = .ok (.iload_n 1, 1) := by decide +kernel
theorem dM_insert_117 : decode cM_insert 117 = .ok (.iconst 2, 1) := by decide +kernel
theorem dM_insert_118 : decode cM_insert 118 = .ok (.iastore, 1) := by decide +kernel
theorem dM_insert_119 : decode cM_insert 119 = .ok (.bipush 9, 2) := by decide +kernel
theorem dM_insert_121 : decode cM_insert 121 = .ok (.ireturn, 1) := by decide +kernel
theorem dM_insert_122 : decode cM_insert 122 = .ok (.aload_n 0, 1) := by decide +kernel
theorem dM_insert_123 : decode cM_insert 123 = .ok (.getfield 13, 3) := by decide +kernel
theorem dM_insert_126 : decode cM_insert 126 = .ok (.aload_n 0, 1) := by decide +kernel
theorem dM_insert_127 : decode cM_insert 127 = .ok (.getfield 56, 3) := by decide +kernel
theorem dM_insert_130 : decode cM_insert 130 = .ok (.iload_n 1, 1) := by decide +kernel
theorem dM_insert_131 : decode cM_insert 131 = .ok (.iaload, 1) := by decide +kernel
theorem dM_insert_132 : decode cM_insert 132 = .ok (.aload_n 0, 1) := by decide +kernel
theorem dM_insert_133 : decode cM_insert 133 = .ok (.getfield 35, 3) := by decide +kernel
theorem dM_insert_136 : decode cM_insert 136 = .ok (.iload_n 1, 1) := by decide +kernel
end
section
theorem dM_insert_137 : decode cM_insert 137 = .ok (.iaload, 1) := by decide +kernel
theorem dM_insert_138 : decode cM_insert 138 = .ok (.iastore, 1) := by decide +kernel
theorem dM_insert_139 : decode cM_insert 139 = .ok (.aload_n 0, 1) := by decide +kernel
theorem dM_insert_140 : decode cM_insert 140 = .ok (.aload_n 0, 1) := by decide +kernel
theorem dM_insert_141 : decode cM_insert 141 = .ok (.getfield 56, 3) := by decide +kernel
theorem dM_insert_144 : decode cM_insert 144 = .ok (.iload_n 1, 1) := by decide +kernel
theorem dM_insert_145 : decode cM_insert 145 = .ok (.iaload, 1) := by decide +kernel
theorem dM_insert_146 : decode cM_insert 146 = .ok (.aload_n 0, 1) := by decide +kernel
theorem dM_insert_147 : decode cM_insert 147 = .ok (.getfield 44, 3) := by decide +kernel
theorem dM_insert_150 : decode cM_insert 150 = .ok (.iload_n 1, 1) := by decide +kernel
theorem dM_insert_151 : decode cM_insert 151 = .ok (.iaload, 1) := by decide +kernel
theorem dM_insert_152 : decode cM_insert 152 = .ok (.iconst 0, 1) := by decide +kernel
theorem dM_insert_153 : decode cM_insert 153 = .ok (.invokevirtual 110, 3) := by decide +kernel
theorem dM_insert_156 : decode cM_insert 156 = .ok (.bipush 8, 2) := by decide +kernel
theorem dM_insert_158 : decode cM_insert 158 = .ok (.ireturn, 1) := by decide +kernel
theorem dM_remove_0 : decode cM_remove 0 = .ok (.aload_n 0, 1) := by decide +kernel
theorem dM_remove_1 : decode cM_remove 1 = .ok (.getfield 53, 3) := by decide +kernel
theorem dM_remove_4 : decode cM_remove 4 = .ok (.iload_n 1, 1) := by decide +kernel
theorem dM_remove_5 : decode cM_remove 5 = .ok (.baload, 1) := by decide +kernel
theorem dM_remove_6 : decode cM_remove 6 = .ok (.ifCond .ne 13, 3) := by decide +kernel
theorem dM_remove_9 : decode cM_remove 9 = .ok (.aload_n 0, 1) := by decide +kernel
theorem dM_remove_10 : decode cM_remove 10 = .ok (.getfield 59, 3) := by decide +kernel
theorem dM_remove_13 : decode cM_remove 13 = .ok (.iload_n 1, 1) := by decide +kernel
theorem dM_remove_14 : decode cM_remove 14 = .ok (.iconst 0, 1) := by decide +kernel
theorem dM_remove_15 : decode cM_remove 15 = .ok (.iastore, 1) := by decide +kernel
theorem dM_remove_16 : decode cM_remove 16 = .ok (.bipush 9, 2) := by decide +kernel
theorem dM_remove_18 : decode cM_remove 18 = .ok (.ireturn, 1) := by decide +kernel
theorem dM_remove_19 : decode cM_remove 19 = .ok (.aload_n 0, 1) := by decide +kernel
theorem dM_remove_20 : decode cM_remove 20 = .ok (.getfield 44, 3) := by decide +kernel
theorem dM_remove_23 : decode cM_remove 23 = .ok (.iload_n 1, 1) := by decide +kernel
theorem dM_remove_24 : decode cM_remove 24 = .ok (.iaload, 1) := by decide +kernel
theorem dM_remove_25 : decode cM_remove 25 = .ok (.istore_n 2, 1) := by decide +kernel
theorem dM_remove_26 : decode cM_remove 26 = .ok (.aload_n 0, 1) := by decide +kernel
theorem dM_remove_27 : decode cM_remove 27 = .ok (.iload_n 2, 1) := by decide +kernel
theorem dM_remove_28 : decode cM_remove 28 = .ok (.aload_n 0, 1) := by decide +kernel
theorem dM_remove_29 : decode cM_remove 29 = .ok (.getfield 47, 3) := by decide +kernel
theorem dM_remove_32 : decode cM_remove 32 = .ok (.iload_n 1, 1) := by decide +kernel
theorem dM_remove_33 : decode cM_remove 33 = .ok (.iaload, 1) := by decide +kernel
theorem dM_remove_34 : decode cM_remove 34 = .ok (.invokevirtual 95, 3) := by decide +kernel
theorem dM_remove_37 : decode cM_remove 37 = .ok (.aload_n 0, 1) := by decide +kernel
theorem dM_remove_38 : decode cM_remove 38 = .ok (.getfield 16, 3) := by decide +kernel
theorem dM_remove_41 : decode cM_remove 41 = .ok (.iload_n 2, 1) := by decide +kernel
theorem dM_remove_42 : decode cM_remove 42 = .ok (.iaload, 1) := by decide +kernel
theorem dM_remove_43 : decode cM_remove 43 = .ok (.aload_n 0, 1) := by decide +kernel
theorem dM_remove_44 : decode cM_remove 44 = .ok (.getfield 50, 3) := by decide +kernel
theorem dM_remove_47 : decode cM_remove 47 = .ok (.iload_n 1, 1) := by decide +kernel
theorem dM_remove_48 : decode cM_remove 48 = .ok (.iaload, 1) := by decide +kernel
theorem dM_remove_49 : decode cM_remove 49 = .ok (.if_icmp .ne 12, 3) := by decide +kernel
theorem dM_remove_52 : decode cM_remove 52 = .ok (.aload_n 0, 1) := by decide +kernel
theorem dM_remove_53 : decode cM_remove 53 = .ok (.getfield 19, 3) := by decide +kernel
theorem dM_remove_56 : decode cM_remove 56 = .ok (.iload_n 2, 1) := by decide +kernel
theorem dM_remove_57 : decode cM_remove 57 = .ok (.baload, 1) := by decide +kernel
theorem dM_remove_58 : decode cM_remove 58 = .ok (.ifCond .eq 5, 3) := by decide +kernel
theorem dM_remove_61 : decode cM_remove 61 = .ok (.iconst 2, 1) := by decide +kernel
theorem dM_remove_62 : decode cM_remove 62 = .ok (.ireturn, 1) := by decide +kernel
theorem dM_remove_63 : decode cM_remove 63 = .ok (.aload_n 0, 1) := by decide +kernel
theorem dM_remove_64 : decode cM_remove 64 = .ok (.getfield 19, 3) := by decide +kernel
theorem dM_remove_67 : decode cM_remove 67 = .ok (.iload_n 2, 1) := by decide +kernel
theorem dM_remove_68 : decode cM_remove 68 = .ok (.iconst 1, 1) := by decide +kernel
theorem dM_remove_69 : decode cM_remove 69 = .ok (.bastore, 1) := by decide +kernel
theorem dM_remove_70 : decode cM_remove 70 = .ok (.bipush 10, 2) := by decide +kernel
theorem dM_remove_72 : decode cM_remove 72 = .ok (.ireturn, 1) := by decide +kernel
theorem dM_act_0 : decode cM_act 0 = .ok (.aload_n 0, 1) := by decide +kernel
theorem dM_act_1 : decode cM_act 1 = .ok (.getfield 32, 3) := by decide +kernel
theorem dM_act_4 : decode cM_act 4 = .ok (.iload_n 1, 1) := by decide +kernel
theorem dM_act_5 : decode cM_act 5 = .ok (.iaload, 1) := by decide +kernel
theorem dM_act_6 : decode cM_act 6 = .ok (.ifCond .ne 26, 3) := by decide +kernel
theorem dM_act_9 : decode cM_act 9 = .ok (.aload_n 0, 1) := by decide +kernel
theorem dM_act_10 : decode cM_act 10 = .ok (.getfield 59, 3) := by decide +kernel
theorem dM_act_13 : decode cM_act 13 = .ok (.iload_n 1, 1) := by decide +kernel
theorem dM_act_14 : decode cM_act 14 = .ok (.aload_n 0, 1) := by decide +kernel
theorem dM_act_15 : decode cM_act 15 = .ok (.getfield 53, 3) := by decide +kernel
theorem dM_act_18 : decode cM_act 18 = .ok (.iload_n 1, 1) := by decide +kernel
theorem dM_act_19 : decode cM_act 19 = .ok (.baload, 1) := by decide +kernel
theorem dM_act_20 : decode cM_act 20 = .ok (.ifCond .eq 7, 3) := by decide +kernel
theorem dM_act_23 : decode cM_act 23 = .ok (.iconst 1, 1) := by decide +kernel
theorem dM_act_24 : decode cM_act 24 = .ok (.goto 4, 3) := by decide +kernel
theorem dM_act_27 : decode cM_act 27 = .ok (.iconst 0, 1) := by decide +kernel
theorem dM_act_28 : decode cM_act 28 = .ok (.iastore, 1) := by decide +kernel
theorem dM_act_29 : decode cM_act 29 = .ok (.bipush 9, 2) := by decide +kernel
theorem dM_act_31 : decode cM_act 31 = .ok (.ireturn, 1) := by decide +kernel
theorem dM_act_32 : decode cM_act 32 = .ok (.aload_n 0, 1) := by decide +kernel
theorem dM_act_33 : decode cM_act 33 = .ok (.getfield 32, 3) := by decide +kernel
theorem dM_act_36 : decode cM_act 36 = .ok (.iload_n 1, 1) := by decide +kernel
theorem dM_act_37 : decode cM_act 37 = .ok (.iaload, 1) := by decide +kernel
theorem dM_act_38 : decode cM_act 38 = .ok (.iconst 1, 1) := by decide +kernel
theorem dM_act_39 : decode cM_act 39 = .ok (.if_icmp .ne 11, 3) := by decide +kernel
theorem dM_act_42 : decode cM_act 42 = .ok (.aload_n 0, 1) := by decide +kernel
theorem dM_act_43 : decode cM_act 43 = .ok (.iload_n 1, 1) := by decide +kernel
theorem dM_act_44 : decode cM_act 44 = .ok (.invokevirtual 117, 3) := by decide +kernel
theorem dM_act_47 : decode cM_act 47 = .ok (.goto 8, 3) := by decide +kernel
theorem dM_act_50 : decode cM_act 50 = .ok (.aload_n 0, 1) := by decide +kernel
theorem dM_act_51 : decode cM_act 51 = .ok (.iload_n 1, 1) := by decide +kernel
theorem dM_act_52 : decode cM_act 52 = .ok (.invokevirtual 120, 3) := by decide +kernel
theorem dM_act_55 : decode cM_act 55 = .ok (.ireturn, 1) := by decide +kernel
theorem dM_hang_0 : decode cM_hang 0 = .ok (.aload_n 0, 1) := by decide +kernel
theorem dM_hang_1 : decode cM_hang 1 = .ok (.iload_n 1, 1) := by decide +kernel
theorem dM_hang_2 : decode cM_hang 2 = .ok (.invokevirtual 103, 3) := by decide +kernel
theorem dM_hang_5 : decode cM_hang 5 = .ok (.aload_n 0, 1) := by decide +kernel
theorem dM_hang_6 : decode cM_hang 6 = .ok (.iload_n 1, 1) := by decide +kernel
theorem dM_hang_7 : decode cM_hang 7 = .ok (.invokevirtual 107, 3) := by decide +kernel
theorem dM_hang_10 : decode cM_hang 10 = .ok (.ifCond .ne 5, 3) := by decide +kernel
theorem dM_hang_13 : decode cM_hang 13 = .ok (.iconst 2, 1) := by decide +kernel
theorem dM_hang_14 : decode cM_hang 14 = .ok (.ireturn, 1) := by decide +kernel
theorem dM_hang_15 : decode cM_hang 15 = .ok (.aload_n 0, 1) := by decide +kernel
theorem dM_hang_16 : decode cM_hang 16 = .ok (.aload_n 0, 1) := by decide +kernel
theorem dM_hang_17 : decode cM_hang 17 = .ok (.getfield 38, 3) := by decide +kernel
theorem dM_hang_20 : decode cM_hang 20 = .ok (.iload_n 1, 1) := by decide +kernel
theorem dM_hang_21 : decode cM_hang 21 = .ok (.iaload, 1) := by decide +kernel
theorem dM_hang_22 : decode cM_hang 22 = .ok (.aload_n 0, 1) := by decide +kernel
theorem dM_hang_23 : decode cM_hang 23 = .ok (.getfield 56, 3) := by decide +kernel
theorem dM_hang_26 : decode cM_hang 26 = .ok (.iload_n 1, 1) := by decide +kernel
theorem dM_hang_27 : decode cM_hang 27 = .ok (.iaload, 1) := by decide +kernel
theorem dM_hang_28 : decode cM_hang 28 = .ok (.iconst 0, 1) := by decide +kernel
theorem dM_hang_29 : decode cM_hang 29 = .ok (.invokevirtual 110, 3) := by decide +kernel
theorem dM_hang_32 : decode cM_hang 32 = .ok (.aload_n 0, 1) := by decide +kernel
theorem dM_hang_33 : decode cM_hang 33 = .ok (.getfield 59, 3) := by decide +kernel
theorem dM_hang_36 : decode cM_hang 36 = .ok (.iload_n 1, 1) := by decide +kernel
theorem dM_hang_37 : decode cM_hang 37 = .ok (.iconst 1, 1) := by decide +kernel
theorem dM_hang_38 : decode cM_hang 38 = .ok (.iastore, 1) := by decide +kernel
theorem dM_hang_39 : decode cM_hang 39 = .ok (.bipush 9, 2) := by decide +kernel
theorem dM_hang_41 : decode cM_hang 41 = .ok (.ireturn, 1) := by decide +kernel
theorem dM_end_0 : decode cM_end 0 = .ok (.aload_n 0, 1) := by decide +kernel
theorem dM_end_1 : decode cM_end 1 = .ok (.getfield 62, 3) := by decide +kernel
theorem dM_end_4 : decode cM_end 4 = .ok (.iload_n 1, 1) := by decide +kernel
theorem dM_end_5 : decode cM_end 5 = .ok (.aload_n 0, 1) := by decide +kernel
theorem dM_end_6 : decode cM_end 6 = .ok (.getfield 59, 3) := by decide +kernel
theorem dM_end_9 : decode cM_end 9 = .ok (.iload_n 1, 1) := by decide +kernel
theorem dM_end_10 : decode cM_end 10 = .ok (.iaload, 1) := by decide +kernel
theorem dM_end_11 : decode cM_end 11 = .ok (.iastore, 1) := by decide +kernel
theorem dM_end_12 : decode cM_end 12 = .ok (.aload_n 0, 1) := by decide +kernel
theorem dM_end_13 : decode cM_end 13 = .ok (.getfield 65, 3) := by decide +kernel
theorem dM_end_16 : decode cM_end 16 = .ok (.iload_n 1, 1) := by decide +kernel
theorem dM_end_17 : decode cM_end 17 = .ok (.iconst (-1), 1) := by decide +kernel
theorem dM_end_18 : decode cM_end 18 = .ok (.iastore, 1) := by decide +kernel
theorem dM_end_19 : decode cM_end 19 = .ok (.aload_n 0, 1) := by decide +kernel
theorem dM_end_20 : decode cM_end 20 = .ok (.getfield 68, 3) := by decide +kernel
theorem dM_end_23 : decode cM_end 23 = .ok (.iconst 2, 1) := by decide +kernel
theorem dM_end_24 : decode cM_end 24 = .ok (.iload_n 1, 1) := by decide +kernel
theorem dM_end_25 : decode cM_end 25 = .ok (.imul, 1) := by decide +kernel
theorem dM_end_26 : decode cM_end 26 = .ok (.iconst 0, 1) := by decide +kernel
theorem dM_end_27 : decode cM_end 27 = .ok (.iastore, 1) := by decide +kernel
theorem dM_end_28 : decode cM_end 28 = .ok (.aload_n 0, 1) := by decide +kernel
theorem dM_end_29 : decode cM_end 29 = .ok (.getfield 68, 3) := by decide +kernel
theorem dM_end_32 : decode cM_end 32 = .ok (.iconst 2, 1) := by decide +kernel
theorem dM_end_33 : decode cM_end 33 = .ok (.iload_n 1, 1) := by decide +kernel
theorem dM_end_34 : decode cM_end 34 = .ok (.imul, 1) := by decide +kernel
theorem dM_end_35 : decode cM_end 35 = .ok (.iconst 1, 1) := by decide +kernel
theorem dM_end_36 : decode cM_end 36 = .ok (.iadd, 1) := by decide +kernel
theorem dM_end_37 : decode cM_end 37 = .ok (.iconst 0, 1) := by decide +kernel
theorem dM_end_38 : decode cM_end 38 = .ok (.iastore, 1) := by decide +kernel
theorem dM_end_39 : decode cM_end 39 = .ok (.iconst 0, 1) := by decide +kernel
theorem dM_end_40 : decode cM_end 40 = .ok (.ireturn, 1) := by decide +kernel
theorem dM_unhang_0 : decode cM_unhang 0 = .ok (.aload_n 0, 1) := by decide +kernel
theorem dM_unhang_1 : decode cM_unhang 1 = .ok (.iload_n 1, 1) := by decide +kernel
theorem dM_unhang_2 : decode cM_unhang 2 = .ok (.invokevirtual 103, 3) := by decide +kernel
theorem dM_unhang_5 : decode cM_unhang 5 = .ok (.aload_n 0, 1) := by decide +kernel
theorem dM_unhang_6 : decode cM_unhang 6 = .ok (.getfield 59, 3) := by decide +kernel
theorem dM_unhang_9 : decode cM_unhang 9 = .ok (.iload_n 1, 1) := by decide +kernel
theorem dM_unhang_10 : decode cM_unhang 10 = .ok (.iconst 1, 1) := by decide +kernel
theorem dM_unhang_11 : decode cM_unhang 11 = .ok (.iastore, 1) := by decide +kernel
theorem dM_unhang_12 : decode cM_unhang 12 = .ok (.aload_n 0, 1) := by decide +kernel
theorem dM_unhang_13 : decode cM_unhang 13 = .ok (.iload_n 1, 1) := by decide +kernel
theorem dM_unhang_14 : decode cM_unhang 14 = .ok (.invokevirtual 107, 3) := by decide +kernel
theorem dM_unhang_17 : decode cM_unhang 17 = .ok (.ifCond .eq 31, 3) := by decide +kernel
theorem dM_unhang_20 : decode cM_unhang 20 = .ok (.aload_n 0, 1) := by decide +kernel
theorem dM_unhang_21 : decode cM_unhang 21 = .ok (.aload_n 0, 1) := by decide +kernel
theorem dM_unhang_22 : decode cM_unhang 22 = .ok (.getfield 38, 3) := by decide +kernel
theorem dM_unhang_25 : decode cM_unhang 25 = .ok (.iload_n 1, 1) := by decide +kernel
theorem dM_unhang_26 : decode cM_unhang 26 = .ok (.iaload, 1) := by decide +kernel
theorem dM_unhang_27 : decode cM_unhang 27 = .ok (.aload_n 0, 1) := by decide +kernel
theorem dM_unhang_28 : decode cM_unhang 28 = .ok (.getfield 50, 3) := by decide +kernel
theorem dM_unhang_31 : decode cM_unhang 31 = .ok (.iload_n 1, 1) := by decide +kernel
theorem dM_unhang_32 : decode cM_unhang 32 = .ok (.iaload, 1) := by decide +kernel
theorem dM_unhang_33 : decode cM_unhang 33 = .ok (.iconst 0, 1) := by decide +kernel
theorem dM_unhang_34 : decode cM_unhang 34 = .ok (.invokevirtual 110, 3) := by decide +kernel
theorem dM_unhang_37 : decode cM_unhang 37 = .ok (.aload_n 0, 1) := by decide +kernel
theorem dM_unhang_38 : decode cM_unhang 38 = .ok (.iload_n 1, 1) := by decide +kernel
theorem dM_unhang_39 : decode cM_unhang 39 = .ok (.aload_n 0, 1) := by decide +kernel
theorem dM_unhang_40 : decode cM_unhang 40 = .ok (.getfield 44, 3) := by decide +kernel
theorem dM_unhang_43 : decode cM_unhang 43 = .ok (.iload_n 1, 1) := by decide +kernel
theorem dM_unhang_44 : decode cM_unhang 44 = .ok (.iaload, 1) := by decide +kernel
theorem dM_unhang_45 : decode cM_unhang 45 = .ok (.invokevirtual 114, 3) := by decide +kernel
theorem dM_unhang_48 : decode cM_unhang 48 = .ok (.bipush 9, 2) := by decide +kernel
theorem dM_unhang_50 : decode cM_unhang 50 = .ok (.ireturn, 1) := by decide +kernel
theorem dM_advanceThread_0 : decode cM_advanceThread 0 = .ok (.aload_n 0, 1) := by decide +kernel
theorem dM_advanceThread_1 : decode cM_advanceThread 1 = .ok (.getfield 29, 3) := by decide +kernel
theorem dM_advanceThread_4 : decode cM_advanceThread 4 = .ok (.iload_n 1, 1) := by decide +kernel
theorem dM_advanceThread_5 : decode cM_advanceThread 5 = .ok (.iaload, 1) := by decide +kernel
theorem dM_advanceThread_6 : decode cM_advanceThread 6 = .ok (.tableswitch 148 1 9 #[50, 76, 85, 94, 103, 112, 121, 130, 139], 50) := by decide +kernel
theorem dM_advanceThread_56 : decode cM_advanceThread 56 = .ok (.aload_n 0, 1) := by decide +kernel
theorem dM_advanceThread_57 : decode cM_advanceThread 57 = .ok (.getfield 65, 3) := by decide +kernel
theorem dM_advanceThread_60 : decode cM_advanceThread 60 = .ok (.iload_n 1, 1) := by decide +kernel
theorem dM_advanceThread_61 : decode cM_advanceThread 61 = .ok (.aload_n 0, 1) := by decide +kernel
theorem dM_advanceThread_62 : decode cM_advanceThread 62 = .ok (.getfield 71, 3) := by decide +kernel
theorem dM_advanceThread_65 : decode cM_advanceThread 65 = .ok (.ifCond .ne 10, 3) := by decide +kernel
theorem dM_advanceThread_68 : decode cM_advanceThread 68 = .ok (.aload_n 0, 1) := by decide +kernel
theorem dM_advanceThread_69 : decode cM_advanceThread 69 = .ok (.getfield 85, 3) := by decide +kernel
theorem dM_advanceThread_72 : decode cM_advanceThread 72 = .ok (.goto 4, 3) := by decide +kernel
theorem dM_advanceThread_75 : decode cM_advanceThread 75 = .ok (.iconst (-1), 1) := by decide +kernel
theorem dM_advanceThread_76 : decode cM_advanceThread 76 = .ok (.iastore, 1) := by decide +kernel
theorem dM_advanceThread_77 : decode cM_advanceThread 77 = .ok (.iconst 2, 1) := by decide +kernel
theorem dM_advanceThread_78 : decode cM_advanceThread 78 = .ok (.istore_n 2, 1) := by decide +kernel
theorem dM_advanceThread_79 : decode cM_advanceThread 79 = .ok (.goto 81, 3) := by decide +kernel
theorem dM_advanceThread_82 : decode cM_advanceThread 82 = .ok (.aload_n 0, 1) := by decide +kernel
theorem dM_advanceThread_83 : decode cM_advanceThread 83 = .ok (.iload_n 1, 1) := by decide +kernel
theorem dM_advanceThread_84 : decode cM_advanceThread 84 = .ok (.invokevirtual 123, 3) := by decide +kernel
theorem dM_advanceThread_87 : decode cM_advanceThread 87 = .ok (.istore_n 2, 1) := by decide +kernel
theorem dM_advanceThread_88 : decode cM_advanceThread 88 = .ok (.goto 72, 3) := by decide +kernel
theorem dM_advanceThread_91 : decode cM_advanceThread 91 = .ok (.aload_n 0, 1) := by decide +kernel
theorem dM_advanceThread_92 : decode cM_advanceThread 92 = .ok (.iload_n 1, 1) := by decide +kernel
theorem dM_advanceThread_93 : decode cM_advanceThread 93 = .ok (.invokevirtual 126, 3) := by decide +kernel
theorem dM_advanceThread_96 : decode cM_advanceThread 96 = .ok (.istore_n 2, 1) := by decide +kernel
theorem dM_advanceThread_97 : decode cM_advanceThread 97 = .ok (.goto 63, 3) := by decide +kernel
theorem dM_advanceThread_100 : decode cM_advanceThread 100 = .ok (.aload_n 0, 1) := by decide +kernel
theorem dM_advanceThread_101 : decode cM_advanceThread 101 = .ok (.iload_n 1, 1) := by decide +kernel
theorem dM_advanceThread_102 : decode cM_advanceThread 102 = .ok (.invokevirtual 129, 3) := by decide +kernel
theorem dM_advanceThread_105 : decode cM_advanceThread 105 = .ok (.istore_n 2, 1) := by decide +kernel
theorem dM_advanceThread_106 : decode cM_advanceThread 106 = .ok (.goto 54, 3) := by decide +kernel
theorem dM_advanceThread_109 : decode cM_advanceThread 109 = .ok (.aload_n 0, 1) := by decide +kernel
theorem dM_advanceThread_110 : decode cM_advanceThread 110 = .ok (.iload_n 1, 1) := by decide +kernel
theorem dM_advanceThread_111 : decode cM_advanceThread 111 = .ok (.invokevirtual 132, 3) := by decide +kernel
theorem dM_advanceThread_114 : decode cM_advanceThread 114 = .ok (.istore_n 2, 1) := by decide +kernel
theorem dM_advanceThread_115 : decode cM_advanceThread 115 = .ok (.goto 45, 3) := by decide +kernel
theorem dM_advanceThread_118 : decode cM_advanceThread 118 = .ok (.aload_n 0, 1) := by decide +kernel
theorem dM_advanceThread_119 : decode cM_advanceThread 119 = .ok (.iload_n 1, 1) := by decide +kernel
theorem dM_advanceThread_120 : decode cM_advanceThread 120 = .ok (.invokevirtual 135, 3) := by decide +kernel
theorem dM_advanceThread_123 : decode cM_advanceThread 123 = .ok (.istore_n 2, 1) := by decide +kernel
theorem dM_advanceThread_124 : decode cM_advanceThread 124 = .ok (.goto 36, 3) := by decide +kernel
theorem dM_advanceThread_127 : decode cM_advanceThread 127 = .ok (.aload_n 0, 1) := by decide +kernel
theorem dM_advanceThread_128 : decode cM_advanceThread 128 = .ok (.iload_n 1, 1) := by decide +kernel
theorem dM_advanceThread_129 : decode cM_advanceThread 129 = .ok (.invokevirtual 138, 3) := by decide +kernel
theorem dM_advanceThread_132 : decode cM_advanceThread 132 = .ok (.istore_n 2, 1) := by decide +kernel
theorem dM_advanceThread_133 : decode cM_advanceThread 133 = .ok (.goto 27, 3) := by decide +kernel
theorem dM_advanceThread_136 : decode cM_advanceThread 136 = .ok (.aload_n 0, 1) := by decide +kernel
theorem dM_advanceThread_137 : decode cM_advanceThread 137 = .ok (.iload_n 1, 1) := by decide +kernel
theorem dM_advanceThread_138 : decode cM_advanceThread 138 = .ok (.invokevirtual 141, 3) := by decide +kernel
theorem dM_advanceThread_141 : decode cM_advanceThread 141 = .ok (.istore_n 2, 1) := by decide +kernel
theorem dM_advanceThread_142 : decode cM_advanceThread 142 = .ok (.goto 18, 3) := by decide +kernel
theorem dM_advanceThread_145 : decode cM_advanceThread 145 = .ok (.aload_n 0, 1) := by decide +kernel
theorem dM_advanceThread_146 : decode cM_advanceThread 146 = .ok (.iload_n 1, 1) := by decide +kernel
theorem dM_advanceThread_147 : decode cM_advanceThread 147 = .ok (.invokevirtual 144, 3) := by decide +kernel
theorem dM_advanceThread_150 : decode cM_advanceThread 150 = .ok (.istore_n 2, 1) := by decide +kernel
theorem dM_advanceThread_151 : decode cM_advanceThread 151 = .ok (.goto 9, 3) := by decide +kernel
theorem dM_advanceThread_154 : decode cM_advanceThread 154 = .ok (.aload_n 0, 1) := by decide +kernel
theorem dM_advanceThread_155 : decode cM_advanceThread 155 = .ok (.iload_n 1, 1) := by decide +kernel
theorem dM_advanceThread_156 : decode cM_advanceThread 156 = .ok (.invokevirtual 147, 3) := by decide +kernel
theorem dM_advanceThread_159 : decode cM_advanceThread 159 = .ok (.istore_n 2, 1) := by decide +kernel
theorem dM_advanceThread_160 : decode cM_advanceThread 160 = .ok (.aload_n 0, 1) := by decide +kernel
theorem dM_advanceThread_161 : decode cM_advanceThread 161 = .ok (.getfield 29, 3) := by decide +kernel
theorem dM_advanceThread_164 : decode cM_advanceThread 164 = .ok (.iload_n 1, 1) := by decide +kernel
theorem dM_advanceThread_165 : decode cM_advanceThread 165 = .ok (.iload_n 2, 1) := by decide +kernel
theorem dM_advanceThread_166 : decode cM_advanceThread 166 = .ok (.iastore, 1) := by decide +kernel
theorem dM_advanceThread_167 : decode cM_advanceThread 167 = .ok (.return_, 1) := by decide +kernel
theorem dM_step_0 : decode cM_step 0 = .ok (.aload_n 0, 1) := by decide +kernel
theorem dM_step_1 : decode cM_step 1 = .ok (.iload_n 1, 1) := by decide +kernel
theorem dM_step_2 : decode cM_step 2 = .ok (.invokestatic 78, 3) := by decide +kernel
theorem dM_step_5 : decode cM_step 5 = .ok (.ifCond .ne 7, 3) := by decide +kernel
theorem dM_step_8 : decode cM_step 8 = .ok (.iconst 1, 1) := by decide +kernel
theorem dM_step_9 : decode cM_step 9 = .ok (.goto 17, 3) := by decide +kernel
theorem dM_step_12 : decode cM_step 12 = .ok (.aload_n 0, 1) := by decide +kernel
theorem dM_step_13 : decode cM_step 13 = .ok (.getfield 29, 3) := by decide +kernel
theorem dM_step_16 : decode cM_step 16 = .ok (.iload_n 1, 1) := by decide +kernel
theorem dM_step_17 : decode cM_step 17 = .ok (.iaload, 1) := by decide +kernel
theorem dM_step_18 : decode cM_step 18 = .ok (.ifCond .ne 7, 3) := by decide +kernel
theorem dM_step_21 : decode cM_step 21 = .ok (.iconst 2, 1) := by decide +kernel
theorem dM_step_22 : decode cM_step 22 = .ok (.goto 4, 3) := by decide +kernel
theorem dM_step_25 : decode cM_step 25 = .ok (.iconst 0, 1) := by decide +kernel
theorem dM_step_26 : decode cM_step 26 = .ok (.putfield 75, 3) := by decide +kernel
theorem dM_step_29 : decode cM_step 29 = .ok (.aload_n 0, 1) := by decide +kernel
theorem dM_step_30 : decode cM_step 30 = .ok (.getfield 75, 3) := by decide +kernel
theorem dM_step_33 : decode cM_step 33 = .ok (.ifCond .le 5, 3) := by decide +kernel
theorem dM_step_36 : decode cM_step 36 = .ok (.iconst 0, 1) := by decide +kernel
theorem dM_step_37 : decode cM_step 37 = .ok (.ireturn, 1) := by decide +kernel
theorem dM_step_38 : decode cM_step 38 = .ok (.aload_n 0, 1) := by decide +kernel
theorem dM_step_39 : decode cM_step 39 = .ok (.iload_n 1, 1) := by decide +kernel
theorem dM_step_40 : decode cM_step 40 = .ok (.invokevirtual 150, 3) := by decide +kernel
theorem dM_step_43 : decode cM_step 43 = .ok (.aload_n 0, 1) := by decide +kernel
theorem dM_step_44 : decode cM_step 44 = .ok (.getfield 29, 3) := by decide +kernel
theorem dM_step_47 : decode cM_step 47 = .ok (.iload_n 1, 1) := by decide +kernel
theorem dM_step_48 : decode cM_step 48 = .ok (.iaload, 1) := by decide +kernel
theorem dM_step_49 : decode cM_step 49 = .ok (.ireturn, 1) := by decide +kernel
theorem dM_finish_0 : decode cM_finish 0 = .ok (.aload_n 0, 1) := by decide +kernel
theorem dM_finish_1 : decode cM_finish 1 = .ok (.iload_n 1, 1) := by decide +kernel
theorem dM_finish_2 : decode cM_finish 2 = .ok (.invokestatic 78, 3) := by decide +kernel
theorem dM_finish_5 : decode cM_finish 5 = .ok (.ifCond .ne 7, 3) := by decide +kernel
theorem dM_finish_8 : decode cM_finish 8 = .ok (.iconst 1, 1) := by decide +kernel
theorem dM_finish_9 : decode cM_finish 9 = .ok (.goto 17, 3) := by decide +kernel
theorem dM_finish_12 : decode cM_finish 12 = .ok (.aload_n 0, 1) := by decide +kernel
theorem dM_finish_13 : decode cM_finish 13 = .ok (.getfield 29, 3) := by decide +kernel
theorem dM_finish_16 : decode cM_finish 16 = .ok (.iload_n 1, 1) := by decide +kernel
theorem dM_finish_17 : decode cM_finish 17 = .ok (.iaload, 1) := by decide +kernel
theorem dM_finish_18 : decode cM_finish 18 = .ok (.ifCond .ne 7, 3) := by decide +kernel
theorem dM_finish_21 : decode cM_finish 21 = .ok (.iconst 2, 1) := by decide +kernel
theorem dM_finish_22 : decode cM_finish 22 = .ok (.goto 4, 3) := by decide +kernel
theorem dM_finish_25 : decode cM_finish 25 = .ok (.iconst 0, 1) := by decide +kernel
theorem dM_finish_26 : decode cM_finish 26 = .ok (.putfield 75, 3) := by decide +kernel
theorem dM_finish_29 : decode cM_finish 29 = .ok (.aload_n 0, 1) := by decide +kernel
theorem dM_finish_30 : decode cM_finish 30 = .ok (.getfield 75, 3) := by decide +kernel
theorem dM_finish_33 : decode cM_finish 33 = .ok (.ifCond .le 5, 3) := by decide +kernel
theorem dM_finish_36 : decode cM_finish 36 = .ok (.iconst 0, 1) := by decide +kernel
theorem dM_finish_37 : decode cM_finish 37 = .ok (.ireturn, 1) := by decide +kernel
theorem dM_finish_38 : decode cM_finish 38 = .ok (.iconst 0, 1) := by decide +kernel
theorem dM_finish_39 : decode cM_finish 39 = .ok (.istore_n 2, 1) := by decide +kernel
theorem dM_finish_40 : decode cM_finish 40 = .ok (.aload_n 0, 1) := by decide +kernel
theorem dM_finish_41 : decode cM_finish 41 = .ok (.getfield 29, 3) := by decide +kernel
theorem dM_finish_44 : decode cM_finish 44 = .ok (.iload_n 1, 1) := by decide +kernel
theorem dM_finish_45 : decode cM_finish 45 = .ok (.iaload, 1) := by decide +kernel
theorem dM_finish_46 : decode cM_finish 46 = .ok (.ifCond .eq 21, 3) := by decide +kernel
theorem dM_finish_49 : decode cM_finish 49 = .ok (.iload_n 2, 1) := by decide +kernel
theorem dM_finish_50 : decode cM_finish 50 = .ok (.sipush 300, 3) := by decide +kernel
theorem dM_finish_53 : decode cM_finish 53 = .ok (.if_icmp .ge 14, 3) := by decide +kernel
theorem dM_finish_56 : decode cM_finish 56 = .ok (.aload_n 0, 1) := by decide +kernel
theorem dM_finish_57 : decode cM_finish 57 = .ok (.iload_n 1, 1) := by decide +kernel
theorem dM_finish_58 : decode cM_finish 58 = .ok (.invokevirtual 150, 3) := by decide +kernel
theorem dM_finish_61 : decode cM_finish 61 = .ok (.iinc 2 1, 3) := by decide +kernel
theorem dM_finish_64 : decode cM_finish 64 = .ok (.goto (-24), 3) := by decide +kernel
theorem dM_finish_67 : decode cM_finish 67 = .ok (.iload_n 2, 1) := by decide +kernel
theorem dM_finish_68 : decode cM_finish 68 = .ok (.ireturn, 1) := by decide +kernel
theorem dM_result_0 : decode cM_result 0 = .ok (.aload_n 0, 1) := by decide +kernel
theorem dM_result_1 : decode cM_result 1 = .ok (.iload_n 1, 1) := by decide +kernel
theorem dM_result_2 : decode cM_result 2 = .ok (.invokestatic 78, 3) := by decide +kernel
theorem dM_result_5 : decode cM_result 5 = .ok (.ifCond .ne 7, 3) := by decide +kernel
theorem dM_result_8 : decode cM_result 8 = .ok (.iconst 1, 1) := by decide +kernel
theorem dM_result_9 : decode cM_result 9 = .ok (.goto 17, 3) := by decide +kernel
theorem dM_result_12 : decode cM_result 12 = .ok (.aload_n 0, 1) := by decide +kernel
theorem dM_result_13 : decode cM_result 13 = .ok (.getfield 62, 3) := by decide +kernel
theorem dM_result_16 : decode cM_result 16 = .ok (.iload_n 1, 1) := by decide +kernel
theorem dM_result_17 : decode cM_result 17 = .ok (.iaload, 1) := by decide +kernel
theorem dM_result_18 : decode cM_result 18 = .ok (.ifCond .ge 7, 3) := by decide +kernel
theorem dM_result_21 : decode cM_result 21 = .ok (.iconst 2, 1) := by decide +kernel
theorem dM_result_22 : decode cM_result 22 = .ok (.goto 4, 3) := by decide +kernel
theorem dM_result_25 : decode cM_result 25 = .ok (.iconst 0, 1) := by decide +kernel
theorem dM_result_26 : decode cM_result 26 = .ok (.putfield 75, 3) := by decide +kernel
theorem dM_result_29 : decode cM_result 29 = .ok (.aload_n 0, 1) := by decide +kernel
theorem dM_result_30 : decode cM_result 30 = .ok (.getfield 75, 3) := by decide +kernel
theorem dM_result_33 : decode cM_result 33 = .ok (.ifCond .le 7, 3) := by decide +kernel
theorem dM_result_36 : decode cM_result 36 = .ok (.iconst 0, 1) := by decide +kernel
theorem dM_result_37 : decode cM_result 37 = .ok (.goto 9, 3) := by decide +kernel
theorem dM_result_40 : decode cM_result 40 = .ok (.aload_n 0, 1) := by decide +kernel
theorem dM_result_41 : decode cM_result 41 = .ok (.getfield 62, 3) := by decide +kernel
theorem dM_result_44 : decode cM_result 44 = .ok (.iload_n 1, 1) := by decide +kernel
theorem dM_result_45 : decode cM_result 45 = .ok (.iaload, 1) := by decide +kernel
theorem dM_result_46 : decode cM_result 46 = .ok (.ireturn, 1) := by decide +kernel
theorem dM_at_0 : decode cM_at 0 = .ok (.aload_n 0, 1) := by decide +kernel
theorem dM_at_1 : decode cM_at 1 = .ok (.iload_n 1, 1) := by decide +kernel
theorem dM_at_2 : decode cM_at 2 = .ok (.invokestatic 78, 3) := by decide +kernel
theorem dM_at_5 : decode cM_at 5 = .ok (.ifCond .eq 7, 3) := by decide +kernel
theorem dM_at_8 : decode cM_at 8 = .ok (.iconst 0, 1) := by decide +kernel
theorem dM_at_9 : decode cM_at 9 = .ok (.goto 4, 3) := by decide +kernel
theorem dM_at_12 : decode cM_at 12 = .ok (.iconst 1, 1) := by decide +kernel
theorem dM_at_13 : decode cM_at 13 = .ok (.putfield 75, 3) := by decide +kernel
theorem dM_at_16 : decode cM_at 16 = .ok (.aload_n 0, 1) := by decide +kernel
theorem dM_at_17 : decode cM_at 17 = .ok (.getfield 75, 3) := by decide +kernel
theorem dM_at_20 : decode cM_at 20 = .ok (.ifCond .le 7, 3) := by decide +kernel
theorem dM_at_23 : decode cM_at 23 = .ok (.iconst 0, 1) := by decide +kernel
theorem dM_at_24 : decode cM_at 24 = .ok (.goto 9, 3) := by decide +kernel
theorem dM_at_27 : decode cM_at 27 = .ok (.aload_n 0, 1) := by decide +kernel
theorem dM_at_28 : decode cM_at 28 = .ok (.getfield 29, 3) := by decide +kernel
theorem dM_at_31 : decode cM_at 31 = .ok (.iload_n 1, 1) := by decide +kernel
theorem dM_at_32 : decode cM_at 32 = .ok (.iaload, 1) := by decide +kernel
theorem dM_at_33 : decode cM_at 33 = .ok (.ireturn, 1) := by decide +kernel
theorem dM_known_0 : decode cM_known 0 = .ok (.aload_n 0, 1) := by decide +kernel
theorem dM_known_1 : decode cM_known 1 = .ok (.iload_n 1, 1) := by decide +kernel
theorem dM_known_2 : decode cM_known 2 = .ok (.invokestatic 78, 3) := by decide +kernel
theorem dM_known_5 : decode cM_known 5 = .ok (.ifCond .eq 16, 3) := by decide +kernel
theorem dM_known_8 : decode cM_known 8 = .ok (.iload_n 2, 1) := by decide +kernel
theorem dM_known_9 : decode cM_known 9 = .ok (.ifCond .lt 12, 3) := by decide +kernel
theorem dM_known_12 : decode cM_known 12 = .ok (.iload_n 2, 1) := by decide +kernel
theorem dM_known_13 : decode cM_known 13 = .ok (.iconst 3, 1) := by decide +kernel
theorem dM_known_14 : decode cM_known 14 = .ok (.if_icmp .gt 7, 3) := by decide +kernel
theorem dM_known_17 : decode cM_known 17 = .ok (.iconst 0, 1) := by decide +kernel
theorem dM_known_18 : decode cM_known 18 = .ok (.goto 4, 3) := by decide +kernel
theorem dM_known_21 : decode cM_known 21 = .ok (.iconst 1, 1) := by decide +kernel
theorem dM_known_22 : decode cM_known 22 = .ok (.putfield 75, 3) := by decide +kernel
theorem dM_known_25 : decode cM_known 25 = .ok (.aload_n 0, 1) := by decide +kernel
theorem dM_known_26 : decode cM_known 26 = .ok (.getfield 75, 3) := by decide +kernel
theorem dM_known_29 : decode cM_known 29 = .ok (.ifCond .le 5, 3) := by decide +kernel
theorem dM_known_32 : decode cM_known 32 = .ok (.iconst 0, 1) := by decide +kernel
theorem dM_known_33 : decode cM_known 33 = .ok (.ireturn, 1) := by decide +kernel
theorem dM_known_34 : decode cM_known 34 = .ok (.iload_n 2, 1) := by decide +kernel
theorem dM_known_35 : decode cM_known 35 = .ok (.ifCond .ne 12, 3) := by decide +kernel
theorem dM_known_38 : decode cM_known 38 = .ok (.aload_n 0, 1) := by decide +kernel
theorem dM_known_39 : decode cM_known 39 = .ok (.getfield 38, 3) := by decide +kernel
theorem dM_known_42 : decode cM_known 42 = .ok (.iload_n 1, 1) := by decide +kernel
theorem dM_known_43 : decode cM_known 43 = .ok (.iaload, 1) := by decide +kernel
theorem dM_known_44 : decode cM_known 44 = .ok (.goto 37, 3) := by decide +kernel
theorem dM_known_47 : decode cM_known 47 = .ok (.iload_n 2, 1) := by decide +kernel
theorem dM_known_48 : decode cM_known 48 = .ok (.iconst 1, 1) := by decide +kernel
theorem dM_known_49 : decode cM_known 49 = .ok (.if_icmp .ne 12, 3) := by decide +kernel
theorem dM_known_52 : decode cM_known 52 = .ok (.aload_n 0, 1) := by decide +kernel
theorem dM_known_53 : decode cM_known 53 = .ok (.getfield 44, 3) := by decide +kernel
theorem dM_known_56 : decode cM_known 56 = .ok (.iload_n 1, 1) := by decide +kernel
theorem dM_known_57 : decode cM_known 57 = .ok (.iaload, 1) := by decide +kernel
theorem dM_known_58 : decode cM_known 58 = .ok (.goto 23, 3) := by decide +kernel
theorem dM_known_61 : decode cM_known 61 = .ok (.iload_n 2, 1) := by decide +kernel
theorem dM_known_62 : decode cM_known 62 = .ok (.iconst 2, 1) := by decide +kernel
theorem dM_known_63 : decode cM_known 63 = .ok (.if_icmp .ne 12, 3) := by decide +kernel
theorem dM_known_66 : decode cM_known 66 = .ok (.aload_n 0, 1) := by decide +kernel
theorem dM_known_67 : decode cM_known 67 = .ok (.getfield 50, 3) := by decide +kernel
end
section
theorem dM_known_70 : decode cM_known 70 = .ok (.iload_n 1, 1) := by decide +kernel
theorem dM_known_71 : decode cM_known 71 = .ok (.iaload, 1) := by decide +kernel
theorem dM_known_72 : decode cM_known 72 = .ok (.goto 9, 3) := by decide +kernel
theorem dM_known_75 : decode cM_known 75 = .ok (.aload_n 0, 1) := by decide +kernel
theorem dM_known_76 : decode cM_known 76 = .ok (.getfield 56, 3) := by decide +kernel
theorem dM_known_79 : decode cM_known 79 = .ok (.iload_n 1, 1) := by decide +kernel
theorem dM_known_80 : decode cM_known 80 = .ok (.iaload, 1) := by decide +kernel
theorem dM_known_81 : decode cM_known 81 = .ok (.ireturn, 1) := by decide +kernel
theorem dM_says_0 : decode cM_says 0 = .ok (.aload_n 0, 1) := by decide +kernel
theorem dM_says_1 : decode cM_says 1 = .ok (.iload_n 1, 1) := by decide +kernel
theorem dM_says_2 : decode cM_says 2 = .ok (.invokestatic 78, 3) := by decide +kernel
theorem dM_says_5 : decode cM_says 5 = .ok (.ifCond .eq 16, 3) := by decide +kernel
theorem dM_says_8 : decode cM_says 8 = .ok (.iload_n 2, 1) := by decide +kernel
theorem dM_says_9 : decode cM_says 9 = .ok (.ifCond .lt 12, 3) := by decide +kernel
theorem dM_says_12 : decode cM_says 12 = .ok (.iload_n 2, 1) := by decide +kernel
theorem dM_says_13 : decode cM_says 13 = .ok (.iconst 2, 1) := by decide +kernel
theorem dM_says_14 : decode cM_says 14 = .ok (.if_icmp .gt 7, 3) := by decide +kernel
theorem dM_says_17 : decode cM_says 17 = .ok (.iconst 0, 1) := by decide +kernel
theorem dM_says_18 : decode cM_says 18 = .ok (.goto 4, 3) := by decide +kernel
theorem dM_says_21 : decode cM_says 21 = .ok (.iconst 1, 1) := by decide +kernel
theorem dM_says_22 : decode cM_says 22 = .ok (.putfield 75, 3) := by decide +kernel
theorem dM_says_25 : decode cM_says 25 = .ok (.aload_n 0, 1) := by decide +kernel
theorem dM_says_26 : decode cM_says 26 = .ok (.getfield 75, 3) := by decide +kernel
theorem dM_says_29 : decode cM_says 29 = .ok (.ifCond .le 5, 3) := by decide +kernel
theorem dM_says_32 : decode cM_says 32 = .ok (.iconst 0, 1) := by decide +kernel
theorem dM_says_33 : decode cM_says 33 = .ok (.ireturn, 1) := by decide +kernel
theorem dM_says_34 : decode cM_says 34 = .ok (.iload_n 2, 1) := by decide +kernel
theorem dM_says_35 : decode cM_says 35 = .ok (.iconst 2, 1) := by decide +kernel
theorem dM_says_36 : decode cM_says 36 = .ok (.if_icmp .ne 10, 3) := by decide +kernel
theorem dM_says_39 : decode cM_says 39 = .ok (.aload_n 0, 1) := by decide +kernel
theorem dM_says_40 : decode cM_says 40 = .ok (.getfield 65, 3) := by decide +kernel
theorem dM_says_43 : decode cM_says 43 = .ok (.iload_n 1, 1) := by decide +kernel
theorem dM_says_44 : decode cM_says 44 = .ok (.iaload, 1) := by decide +kernel
theorem dM_says_45 : decode cM_says 45 = .ok (.ireturn, 1) := by decide +kernel
theorem dM_says_46 : decode cM_says 46 = .ok (.aload_n 0, 1) := by decide +kernel
theorem dM_says_47 : decode cM_says 47 = .ok (.getfield 68, 3) := by decide +kernel
theorem dM_says_50 : decode cM_says 50 = .ok (.iconst 2, 1) := by decide +kernel
theorem dM_says_51 : decode cM_says 51 = .ok (.iload_n 1, 1) := by decide +kernel
theorem dM_says_52 : decode cM_says 52 = .ok (.imul, 1) := by decide +kernel
theorem dM_says_53 : decode cM_says 53 = .ok (.iload_n 2, 1) := by decide +kernel
theorem dM_says_54 : decode cM_says 54 = .ok (.iadd, 1) := by decide +kernel
theorem dM_says_55 : decode cM_says 55 = .ok (.iaload, 1) := by decide +kernel
theorem dM_says_56 : decode cM_says 56 = .ok (.istore_n 3, 1) := by decide +kernel
theorem dM_says_57 : decode cM_says 57 = .ok (.iload_n 3, 1) := by decide +kernel
theorem dM_says_58 : decode cM_says 58 = .ok (.ifCond .ne 7, 3) := by decide +kernel
theorem dM_says_61 : decode cM_says 61 = .ok (.iconst (-1), 1) := by decide +kernel
theorem dM_says_62 : decode cM_says 62 = .ok (.goto 4, 3) := by decide +kernel
theorem dM_says_65 : decode cM_says 65 = .ok (.iload_n 3, 1) := by decide +kernel
theorem dM_says_66 : decode cM_says 66 = .ok (.ireturn, 1) := by decide +kernel
theorem dM_block_0 : decode cM_block 0 = .ok (.aload_n 0, 1) := by decide +kernel
theorem dM_block_1 : decode cM_block 1 = .ok (.iload_n 1, 1) := by decide +kernel
theorem dM_block_2 : decode cM_block 2 = .ok (.ifCond .lt 22, 3) := by decide +kernel
theorem dM_block_5 : decode cM_block 5 = .ok (.iload_n 1, 1) := by decide +kernel
theorem dM_block_6 : decode cM_block 6 = .ok (.bipush 20, 2) := by decide +kernel
theorem dM_block_8 : decode cM_block 8 = .ok (.if_icmp .gt 16, 3) := by decide +kernel
theorem dM_block_11 : decode cM_block 11 = .ok (.iload_n 2, 1) := by decide +kernel
theorem dM_block_12 : decode cM_block 12 = .ok (.ifCond .lt 12, 3) := by decide +kernel
theorem dM_block_15 : decode cM_block 15 = .ok (.iload_n 2, 1) := by decide +kernel
theorem dM_block_16 : decode cM_block 16 = .ok (.iconst 5, 1) := by decide +kernel
theorem dM_block_17 : decode cM_block 17 = .ok (.if_icmp .gt 7, 3) := by decide +kernel
theorem dM_block_20 : decode cM_block 20 = .ok (.iconst 0, 1) := by decide +kernel
theorem dM_block_21 : decode cM_block 21 = .ok (.goto 4, 3) := by decide +kernel
theorem dM_block_24 : decode cM_block 24 = .ok (.iconst 1, 1) := by decide +kernel
theorem dM_block_25 : decode cM_block 25 = .ok (.putfield 75, 3) := by decide +kernel
theorem dM_block_28 : decode cM_block 28 = .ok (.aload_n 0, 1) := by decide +kernel
theorem dM_block_29 : decode cM_block 29 = .ok (.getfield 75, 3) := by decide +kernel
theorem dM_block_32 : decode cM_block 32 = .ok (.ifCond .le 5, 3) := by decide +kernel
theorem dM_block_35 : decode cM_block 35 = .ok (.iconst 0, 1) := by decide +kernel
theorem dM_block_36 : decode cM_block 36 = .ok (.ireturn, 1) := by decide +kernel
theorem dM_block_37 : decode cM_block 37 = .ok (.iload_n 2, 1) := by decide +kernel
theorem dM_block_38 : decode cM_block 38 = .ok (.iconst 2, 1) := by decide +kernel
theorem dM_block_39 : decode cM_block 39 = .ok (.if_icmp .ne 10, 3) := by decide +kernel
theorem dM_block_42 : decode cM_block 42 = .ok (.aload_n 0, 1) := by decide +kernel
theorem dM_block_43 : decode cM_block 43 = .ok (.getfield 16, 3) := by decide +kernel
theorem dM_block_46 : decode cM_block 46 = .ok (.iload_n 1, 1) := by decide +kernel
theorem dM_block_47 : decode cM_block 47 = .ok (.iaload, 1) := by decide +kernel
theorem dM_block_48 : decode cM_block 48 = .ok (.ireturn, 1) := by decide +kernel
theorem dM_block_49 : decode cM_block 49 = .ok (.iload_n 1, 1) := by decide +kernel
theorem dM_block_50 : decode cM_block 50 = .ok (.ifCond .ne 5, 3) := by decide +kernel
theorem dM_block_53 : decode cM_block 53 = .ok (.iconst (-1), 1) := by decide +kernel
theorem dM_block_54 : decode cM_block 54 = .ok (.ireturn, 1) := by decide +kernel
theorem dM_block_55 : decode cM_block 55 = .ok (.iload_n 2, 1) := by decide +kernel
theorem dM_block_56 : decode cM_block 56 = .ok (.tableswitch 72 0 4 #[36, 43, 72, 50, 65], 36) := by decide +kernel
theorem dM_block_92 : decode cM_block 92 = .ok (.aload_n 0, 1) := by decide +kernel
theorem dM_block_93 : decode cM_block 93 = .ok (.getfield 7, 3) := by decide +kernel
theorem dM_block_96 : decode cM_block 96 = .ok (.iload_n 1, 1) := by decide +kernel
theorem dM_block_97 : decode cM_block 97 = .ok (.iaload, 1) := by decide +kernel
theorem dM_block_98 : decode cM_block 98 = .ok (.ireturn, 1) := by decide +kernel
theorem dM_block_99 : decode cM_block 99 = .ok (.aload_n 0, 1) := by decide +kernel
theorem dM_block_100 : decode cM_block 100 = .ok (.getfield 13, 3) := by decide +kernel
theorem dM_block_103 : decode cM_block 103 = .ok (.iload_n 1, 1) := by decide +kernel
theorem dM_block_104 : decode cM_block 104 = .ok (.iaload, 1) := by decide +kernel
theorem dM_block_105 : decode cM_block 105 = .ok (.ireturn, 1) := by decide +kernel
theorem dM_block_106 : decode cM_block 106 = .ok (.aload_n 0, 1) := by decide +kernel
theorem dM_block_107 : decode cM_block 107 = .ok (.getfield 19, 3) := by decide +kernel
theorem dM_block_110 : decode cM_block 110 = .ok (.iload_n 1, 1) := by decide +kernel
theorem dM_block_111 : decode cM_block 111 = .ok (.baload, 1) := by decide +kernel
theorem dM_block_112 : decode cM_block 112 = .ok (.ifCond .eq 7, 3) := by decide +kernel
theorem dM_block_115 : decode cM_block 115 = .ok (.iconst 1, 1) := by decide +kernel
theorem dM_block_116 : decode cM_block 116 = .ok (.goto 4, 3) := by decide +kernel
theorem dM_block_119 : decode cM_block 119 = .ok (.iconst 0, 1) := by decide +kernel
theorem dM_block_120 : decode cM_block 120 = .ok (.ireturn, 1) := by decide +kernel
theorem dM_block_121 : decode cM_block 121 = .ok (.aload_n 0, 1) := by decide +kernel
theorem dM_block_122 : decode cM_block 122 = .ok (.getfield 23, 3) := by decide +kernel
theorem dM_block_125 : decode cM_block 125 = .ok (.iload_n 1, 1) := by decide +kernel
theorem dM_block_126 : decode cM_block 126 = .ok (.iaload, 1) := by decide +kernel
theorem dM_block_127 : decode cM_block 127 = .ok (.ireturn, 1) := by decide +kernel
theorem dM_block_128 : decode cM_block 128 = .ok (.aload_n 0, 1) := by decide +kernel
theorem dM_block_129 : decode cM_block 129 = .ok (.getfield 7, 3) := by decide +kernel
theorem dM_block_132 : decode cM_block 132 = .ok (.iload_n 1, 1) := by decide +kernel
theorem dM_block_133 : decode cM_block 133 = .ok (.iaload, 1) := by decide +kernel
theorem dM_block_134 : decode cM_block 134 = .ok (.iconst 2, 1) := by decide +kernel
theorem dM_block_135 : decode cM_block 135 = .ok (.if_icmp .ne 12, 3) := by decide +kernel
theorem dM_block_138 : decode cM_block 138 = .ok (.aload_n 0, 1) := by decide +kernel
theorem dM_block_139 : decode cM_block 139 = .ok (.getfield 26, 3) := by decide +kernel
theorem dM_block_142 : decode cM_block 142 = .ok (.iload_n 1, 1) := by decide +kernel
theorem dM_block_143 : decode cM_block 143 = .ok (.iaload, 1) := by decide +kernel
theorem dM_block_144 : decode cM_block 144 = .ok (.goto 4, 3) := by decide +kernel
theorem dM_block_147 : decode cM_block 147 = .ok (.iconst (-1), 1) := by decide +kernel
theorem dM_block_148 : decode cM_block 148 = .ok (.ireturn, 1) := by decide +kernel
theorem dM_count_0 : decode cM_count 0 = .ok (.iconst 0, 1) := by decide +kernel
theorem dM_count_1 : decode cM_count 1 = .ok (.istore_n 3, 1) := by decide +kernel
theorem dM_count_2 : decode cM_count 2 = .ok (.aload_n 0, 1) := by decide +kernel
theorem dM_count_3 : decode cM_count 3 = .ok (.getfield 16, 3) := by decide +kernel
theorem dM_count_6 : decode cM_count 6 = .ok (.iconst 0, 1) := by decide +kernel
theorem dM_count_7 : decode cM_count 7 = .ok (.iaload, 1) := by decide +kernel
theorem dM_count_8 : decode cM_count 8 = .ok (.istore 4, 2) := by decide +kernel
theorem dM_count_10 : decode cM_count 10 = .ok (.iconst 0, 1) := by decide +kernel
theorem dM_count_11 : decode cM_count 11 = .ok (.istore 5, 2) := by decide +kernel
theorem dM_count_13 : decode cM_count 13 = .ok (.iload 5, 2) := by decide +kernel
theorem dM_count_15 : decode cM_count 15 = .ok (.bipush 20, 2) := by decide +kernel
theorem dM_count_17 : decode cM_count 17 = .ok (.if_icmp .ge 63, 3) := by decide +kernel
theorem dM_count_20 : decode cM_count 20 = .ok (.iload 4, 2) := by decide +kernel
theorem dM_count_22 : decode cM_count 22 = .ok (.ifCond .eq 58, 3) := by decide +kernel
theorem dM_count_25 : decode cM_count 25 = .ok (.aload_n 0, 1) := by decide +kernel
theorem dM_count_26 : decode cM_count 26 = .ok (.getfield 19, 3) := by decide +kernel
theorem dM_count_29 : decode cM_count 29 = .ok (.iload 4, 2) := by decide +kernel
theorem dM_count_31 : decode cM_count 31 = .ok (.baload, 1) := by decide +kernel
theorem dM_count_32 : decode cM_count 32 = .ok (.ifCond .ne 31, 3) := by decide +kernel
theorem dM_count_35 : decode cM_count 35 = .ok (.aload_n 0, 1) := by decide +kernel
theorem dM_count_36 : decode cM_count 36 = .ok (.getfield 13, 3) := by decide +kernel
theorem dM_count_39 : decode cM_count 39 = .ok (.iload 4, 2) := by decide +kernel
theorem dM_count_41 : decode cM_count 41 = .ok (.iaload, 1) := by decide +kernel
theorem dM_count_42 : decode cM_count 42 = .ok (.iload_n 1, 1) := by decide +kernel
theorem dM_count_43 : decode cM_count 43 = .ok (.if_icmp .lt 20, 3) := by decide +kernel
theorem dM_count_46 : decode cM_count 46 = .ok (.aload_n 0, 1) := by decide +kernel
theorem dM_count_47 : decode cM_count 47 = .ok (.getfield 13, 3) := by decide +kernel
theorem dM_count_50 : decode cM_count 50 = .ok (.iload 4, 2) := by decide +kernel
theorem dM_count_52 : decode cM_count 52 = .ok (.iaload, 1) := by decide +kernel
theorem dM_count_53 : decode cM_count 53 = .ok (.iload_n 2, 1) := by decide +kernel
theorem dM_count_54 : decode cM_count 54 = .ok (.if_icmp .gt 9, 3) := by decide +kernel
theorem dM_count_57 : decode cM_count 57 = .ok (.iload_n 3, 1) := by decide +kernel
theorem dM_count_58 : decode cM_count 58 = .ok (.iconst 1, 1) := by decide +kernel
theorem dM_count_59 : decode cM_count 59 = .ok (.iadd, 1) := by decide +kernel
theorem dM_count_60 : decode cM_count 60 = .ok (.goto 4, 3) := by decide +kernel
theorem dM_count_63 : decode cM_count 63 = .ok (.iload_n 3, 1) := by decide +kernel
theorem dM_count_64 : decode cM_count 64 = .ok (.istore_n 3, 1) := by decide +kernel
theorem dM_count_65 : decode cM_count 65 = .ok (.aload_n 0, 1) := by decide +kernel
theorem dM_count_66 : decode cM_count 66 = .ok (.getfield 16, 3) := by decide +kernel
theorem dM_count_69 : decode cM_count 69 = .ok (.iload 4, 2) := by decide +kernel
theorem dM_count_71 : decode cM_count 71 = .ok (.iaload, 1) := by decide +kernel
theorem dM_count_72 : decode cM_count 72 = .ok (.istore 4, 2) := by decide +kernel
theorem dM_count_74 : decode cM_count 74 = .ok (.iinc 5 1, 3) := by decide +kernel
theorem dM_count_77 : decode cM_count 77 = .ok (.goto (-64), 3) := by decide +kernel
theorem dM_count_80 : decode cM_count 80 = .ok (.iload_n 3, 1) := by decide +kernel
theorem dM_count_81 : decode cM_count 81 = .ok (.ireturn, 1) := by decide +kernel
theorem dM_size_0 : decode cM_size 0 = .ok (.aload_n 0, 1) := by decide +kernel
theorem dM_size_1 : decode cM_size 1 = .ok (.iconst 0, 1) := by decide +kernel
theorem dM_size_2 : decode cM_size 2 = .ok (.putfield 75, 3) := by decide +kernel
theorem dM_size_5 : decode cM_size 5 = .ok (.aload_n 0, 1) := by decide +kernel
theorem dM_size_6 : decode cM_size 6 = .ok (.iconst 0, 1) := by decide +kernel
theorem dM_size_7 : decode cM_size 7 = .ok (.bipush 31, 2) := by decide +kernel
theorem dM_size_9 : decode cM_size 9 = .ok (.invokevirtual 153, 3) := by decide +kernel
theorem dM_size_12 : decode cM_size 12 = .ok (.ireturn, 1) := by decide +kernel
theorem dM_has_0 : decode cM_has 0 = .ok (.aload_n 0, 1) := by decide +kernel
theorem dM_has_1 : decode cM_has 1 = .ok (.iconst 0, 1) := by decide +kernel
theorem dM_has_2 : decode cM_has 2 = .ok (.putfield 75, 3) := by decide +kernel
theorem dM_has_5 : decode cM_has 5 = .ok (.aload_n 0, 1) := by decide +kernel
theorem dM_has_6 : decode cM_has 6 = .ok (.iload_n 1, 1) := by decide +kernel
theorem dM_has_7 : decode cM_has 7 = .ok (.iload_n 1, 1) := by decide +kernel
theorem dM_has_8 : decode cM_has 8 = .ok (.invokevirtual 153, 3) := by decide +kernel
theorem dM_has_11 : decode cM_has 11 = .ok (.ifCond .le 7, 3) := by decide +kernel
theorem dM_has_14 : decode cM_has 14 = .ok (.iconst 1, 1) := by decide +kernel
theorem dM_has_15 : decode cM_has 15 = .ok (.goto 4, 3) := by decide +kernel
theorem dM_has_18 : decode cM_has 18 = .ok (.iconst 0, 1) := by decide +kernel
theorem dM_has_19 : decode cM_has 19 = .ok (.ireturn, 1) := by decide +kernel
theorem dM_faults_0 : decode cM_faults 0 = .ok (.aload_n 0, 1) := by decide +kernel
theorem dM_faults_1 : decode cM_faults 1 = .ok (.iconst 0, 1) := by decide +kernel
theorem dM_faults_2 : decode cM_faults 2 = .ok (.putfield 75, 3) := by decide +kernel
theorem dM_faults_5 : decode cM_faults 5 = .ok (.aload_n 0, 1) := by decide +kernel
theorem dM_faults_6 : decode cM_faults 6 = .ok (.getfield 92, 3) := by decide +kernel
theorem dM_faults_9 : decode cM_faults 9 = .ok (.ireturn, 1) := by decide +kernel
theorem dM_epoch_0 : decode cM_epoch 0 = .ok (.aload_n 0, 1) := by decide +kernel
theorem dM_epoch_1 : decode cM_epoch 1 = .ok (.iconst 0, 1) := by decide +kernel
theorem dM_epoch_2 : decode cM_epoch 2 = .ok (.putfield 75, 3) := by decide +kernel
theorem dM_epoch_5 : decode cM_epoch 5 = .ok (.aload_n 0, 1) := by decide +kernel
theorem dM_epoch_6 : decode cM_epoch 6 = .ok (.getfield 85, 3) := by decide +kernel
theorem dM_epoch_9 : decode cM_epoch 9 = .ok (.ireturn, 1) := by decide +kernel
end
section
theorem dS_init_0 : decode cS_init 0 = .ok (.aload_n 0, 1) := by decide +kernel
theorem dS_init_1 : decode cS_init 1 = .ok (.invokespecial 1, 3) := by decide +kernel
theorem dS_init_4 : decode cS_init 4 = .ok (.aload_n 0, 1) := by decide +kernel
theorem dS_init_5 : decode cS_init 5 = .ok (.iload_n 1, 1) := by decide +kernel
theorem dS_init_6 : decode cS_init 6 = .ok (.iconst 1, 1) := by decide +kernel
theorem dS_init_7 : decode cS_init 7 = .ok (.if_icmp .eq 8, 3) := by decide +kernel
theorem dS_init_10 : decode cS_init 10 = .ok (.iload_n 1, 1) := by decide +kernel
theorem dS_init_11 : decode cS_init 11 = .ok (.iconst 2, 1) := by decide +kernel
theorem dS_init_12 : decode cS_init 12 = .ok (.if_icmp .ne 7, 3) := by decide +kernel
theorem dS_init_15 : decode cS_init 15 = .ok (.iload_n 1, 1) := by decide +kernel
theorem dS_init_16 : decode cS_init 16 = .ok (.goto 4, 3) := by decide +kernel
theorem dS_init_19 : decode cS_init 19 = .ok (.iconst 0, 1) := by decide +kernel
theorem dS_init_20 : decode cS_init 20 = .ok (.putfield 9, 3) := by decide +kernel
theorem dS_init_23 : decode cS_init 23 = .ok (.aload_n 0, 1) := by decide +kernel
theorem dS_init_24 : decode cS_init 24 = .ok (.bipush 21, 2) := by decide +kernel
theorem dS_init_26 : decode cS_init 26 = .ok (.anewarray 13, 3) := by decide +kernel
theorem dS_init_29 : decode cS_init 29 = .ok (.putfield 15, 3) := by decide +kernel
theorem dS_init_32 : decode cS_init 32 = .ok (.iconst 0, 1) := by decide +kernel
theorem dS_init_33 : decode cS_init 33 = .ok (.istore_n 2, 1) := by decide +kernel
theorem dS_init_34 : decode cS_init 34 = .ok (.iload_n 2, 1) := by decide +kernel
theorem dS_init_35 : decode cS_init 35 = .ok (.bipush 20, 2) := by decide +kernel
theorem dS_init_37 : decode cS_init 37 = .ok (.if_icmp .gt 22, 3) := by decide +kernel
theorem dS_init_40 : decode cS_init 40 = .ok (.aload_n 0, 1) := by decide +kernel
theorem dS_init_41 : decode cS_init 41 = .ok (.getfield 15, 3) := by decide +kernel
theorem dS_init_44 : decode cS_init 44 = .ok (.iload_n 2, 1) := by decide +kernel
theorem dS_init_45 : decode cS_init 45 = .ok (.new 13, 3) := by decide +kernel
theorem dS_init_48 : decode cS_init 48 = .ok (.dup, 1) := by decide +kernel
theorem dS_init_49 : decode cS_init 49 = .ok (.invokespecial 19, 3) := by decide +kernel
theorem dS_init_52 : decode cS_init 52 = .ok (.aastore, 1) := by decide +kernel
theorem dS_init_53 : decode cS_init 53 = .ok (.iinc 2 1, 3) := by decide +kernel
theorem dS_init_56 : decode cS_init 56 = .ok (.goto (-22), 3) := by decide +kernel
theorem dS_init_59 : decode cS_init 59 = .ok (.aload_n 0, 1) := by decide +kernel
theorem dS_init_60 : decode cS_init 60 = .ok (.iconst 4, 1) := by decide +kernel
theorem dS_init_61 : decode cS_init 61 = .ok (.anewarray 20, 3) := by decide +kernel
theorem dS_init_64 : decode cS_init 64 = .ok (.putfield 22, 3) := by decide +kernel
theorem dS_init_67 : decode cS_init 67 = .ok (.iconst 0, 1) := by decide +kernel
theorem dS_init_68 : decode cS_init 68 = .ok (.istore_n 2, 1) := by decide +kernel
theorem dS_init_69 : decode cS_init 69 = .ok (.iload_n 2, 1) := by decide +kernel
theorem dS_init_70 : decode cS_init 70 = .ok (.iconst 4, 1) := by decide +kernel
theorem dS_init_71 : decode cS_init 71 = .ok (.if_icmp .ge 23, 3) := by decide +kernel
theorem dS_init_74 : decode cS_init 74 = .ok (.aload_n 0, 1) := by decide +kernel
theorem dS_init_75 : decode cS_init 75 = .ok (.getfield 22, 3) := by decide +kernel
theorem dS_init_78 : decode cS_init 78 = .ok (.iload_n 2, 1) := by decide +kernel
theorem dS_init_79 : decode cS_init 79 = .ok (.new 20, 3) := by decide +kernel
theorem dS_init_82 : decode cS_init 82 = .ok (.dup, 1) := by decide +kernel
theorem dS_init_83 : decode cS_init 83 = .ok (.iload_n 2, 1) := by decide +kernel
theorem dS_init_84 : decode cS_init 84 = .ok (.invokespecial 26, 3) := by decide +kernel
theorem dS_init_87 : decode cS_init 87 = .ok (.aastore, 1) := by decide +kernel
theorem dS_init_88 : decode cS_init 88 = .ok (.iinc 2 1, 3) := by decide +kernel
theorem dS_init_91 : decode cS_init 91 = .ok (.goto (-22), 3) := by decide +kernel
theorem dS_init_94 : decode cS_init 94 = .ok (.return_, 1) := by decide +kernel
theorem dS_begin_0 : decode cS_begin 0 = .ok (.aload_n 0, 1) := by decide +kernel
theorem dS_begin_1 : decode cS_begin 1 = .ok (.iload_n 1, 1) := by decide +kernel
theorem dS_begin_2 : decode cS_begin 2 = .ok (.invokevirtual 29, 3) := by decide +kernel
theorem dS_begin_5 : decode cS_begin 5 = .ok (.astore 4, 2) := by decide +kernel
theorem dS_begin_7 : decode cS_begin 7 = .ok (.iload_n 2, 1) := by decide +kernel
theorem dS_begin_8 : decode cS_begin 8 = .ok (.ifCond .lt 8, 3) := by decide +kernel
theorem dS_begin_11 : decode cS_begin 11 = .ok (.iload_n 2, 1) := by decide +kernel
theorem dS_begin_12 : decode cS_begin 12 = .ok (.iconst 2, 1) := by decide +kernel
theorem dS_begin_13 : decode cS_begin 13 = .ok (.if_icmp .le 13, 3) := by decide +kernel
theorem dS_begin_16 : decode cS_begin 16 = .ok (.new 33, 3) := by decide +kernel
theorem dS_begin_19 : decode cS_begin 19 = .ok (.dup, 1) := by decide +kernel
theorem dS_begin_20 : decode cS_begin 20 = .ok (.ldc 35, 2) := by decide +kernel
theorem dS_begin_22 : decode cS_begin 22 = .ok (.invokespecial 37, 3) := by decide +kernel
theorem dS_begin_25 : decode cS_begin 25 = .ok (.athrow, 1) := by decide +kernel
theorem dS_begin_26 : decode cS_begin 26 = .ok (.iload_n 3, 1) := by decide +kernel
theorem dS_begin_27 : decode cS_begin 27 = .ok (.ifCond .lt 9, 3) := by decide +kernel
theorem dS_begin_30 : decode cS_begin 30 = .ok (.iload_n 3, 1) := by decide +kernel
theorem dS_begin_31 : decode cS_begin 31 = .ok (.bipush 32, 2) := by decide +kernel
theorem dS_begin_33 : decode cS_begin 33 = .ok (.if_icmp .lt 13, 3) := by decide +kernel
theorem dS_begin_36 : decode cS_begin 36 = .ok (.new 33, 3) := by decide +kernel
theorem dS_begin_39 : decode cS_begin 39 = .ok (.dup, 1) := by decide +kernel
theorem dS_begin_40 : decode cS_begin 40 = .ok (.ldc 40, 2) := by decide +kernel
theorem dS_begin_42 : decode cS_begin 42 = .ok (.invokespecial 37, 3) := by decide +kernel
theorem dS_begin_45 : decode cS_begin 45 = .ok (.athrow, 1) := by decide +kernel
theorem dS_begin_46 : decode cS_begin 46 = .ok (.aload 4, 2) := by decide +kernel
theorem dS_begin_48 : decode cS_begin 48 = .ok (.getfield 42, 3) := by decide +kernel
theorem dS_begin_51 : decode cS_begin 51 = .ok (.ifCond .eq 13, 3) := by decide +kernel
theorem dS_begin_54 : decode cS_begin 54 = .ok (.new 45, 3) := by decide +kernel
theorem dS_begin_57 : decode cS_begin 57 = .ok (.dup, 1) := by decide +kernel
theorem dS_begin_58 : decode cS_begin 58 = .ok (.ldc 47, 2) := by decide +kernel
theorem dS_begin_60 : decode cS_begin 60 = .ok (.invokespecial 49, 3) := by decide +kernel
theorem dS_begin_63 : decode cS_begin 63 = .ok (.athrow, 1) := by decide +kernel
theorem dS_begin_64 : decode cS_begin 64 = .ok (.aload 4, 2) := by decide +kernel
theorem dS_begin_66 : decode cS_begin 66 = .ok (.invokevirtual 50, 3) := by decide +kernel
theorem dS_begin_69 : decode cS_begin 69 = .ok (.aload 4, 2) := by decide +kernel
theorem dS_begin_71 : decode cS_begin 71 = .ok (.iload_n 2, 1) := by decide +kernel
theorem dS_begin_72 : decode cS_begin 72 = .ok (.putfield 53, 3) := by decide +kernel
theorem dS_begin_75 : decode cS_begin 75 = .ok (.aload 4, 2) := by decide +kernel
theorem dS_begin_77 : decode cS_begin 77 = .ok (.iload_n 3, 1) := by decide +kernel
theorem dS_begin_78 : decode cS_begin 78 = .ok (.putfield 56, 3) := by decide +kernel
theorem dS_begin_81 : decode cS_begin 81 = .ok (.aload 4, 2) := by decide +kernel
theorem dS_begin_83 : decode cS_begin 83 = .ok (.iconst 1, 1) := by decide +kernel
theorem dS_begin_84 : decode cS_begin 84 = .ok (.putfield 42, 3) := by decide +kernel
theorem dS_begin_87 : decode cS_begin 87 = .ok (.return_, 1) := by decide +kernel
theorem dS_step_0 : decode cS_step 0 = .ok (.aload_n 0, 1) := by decide +kernel
theorem dS_step_1 : decode cS_step 1 = .ok (.iload_n 1, 1) := by decide +kernel
theorem dS_step_2 : decode cS_step 2 = .ok (.invokevirtual 59, 3) := by decide +kernel
theorem dS_step_5 : decode cS_step 5 = .ok (.astore_n 2, 1) := by decide +kernel
theorem dS_step_6 : decode cS_step 6 = .ok (.aload_n 0, 1) := by decide +kernel
theorem dS_step_7 : decode cS_step 7 = .ok (.aload_n 2, 1) := by decide +kernel
theorem dS_step_8 : decode cS_step 8 = .ok (.invokevirtual 62, 3) := by decide +kernel
theorem dS_step_11 : decode cS_step 11 = .ok (.aload_n 2, 1) := by decide +kernel
theorem dS_step_12 : decode cS_step 12 = .ok (.getfield 42, 3) := by decide +kernel
theorem dS_step_15 : decode cS_step 15 = .ok (.ireturn, 1) := by decide +kernel
theorem dS_finish_0 : decode cS_finish 0 = .ok (.aload_n 0, 1) := by decide +kernel
theorem dS_finish_1 : decode cS_finish 1 = .ok (.iload_n 1, 1) := by decide +kernel
theorem dS_finish_2 : decode cS_finish 2 = .ok (.invokevirtual 59, 3) := by decide +kernel
theorem dS_finish_5 : decode cS_finish 5 = .ok (.astore_n 2, 1) := by decide +kernel
theorem dS_finish_6 : decode cS_finish 6 = .ok (.iconst 0, 1) := by decide +kernel
theorem dS_finish_7 : decode cS_finish 7 = .ok (.istore_n 3, 1) := by decide +kernel
theorem dS_finish_8 : decode cS_finish 8 = .ok (.iload_n 3, 1) := by decide +kernel
theorem dS_finish_9 : decode cS_finish 9 = .ok (.sipush 300, 3) := by decide +kernel
theorem dS_finish_12 : decode cS_finish 12 = .ok (.if_icmp .ge 21, 3) := by decide +kernel
theorem dS_finish_15 : decode cS_finish 15 = .ok (.aload_n 2, 1) := by decide +kernel
theorem dS_finish_16 : decode cS_finish 16 = .ok (.getfield 42, 3) := by decide +kernel
theorem dS_finish_19 : decode cS_finish 19 = .ok (.ifCond .eq 14, 3) := by decide +kernel
theorem dS_finish_22 : decode cS_finish 22 = .ok (.aload_n 0, 1) := by decide +kernel
theorem dS_finish_23 : decode cS_finish 23 = .ok (.aload_n 2, 1) := by decide +kernel
theorem dS_finish_24 : decode cS_finish 24 = .ok (.invokevirtual 62, 3) := by decide +kernel
theorem dS_finish_27 : decode cS_finish 27 = .ok (.iinc 3 1, 3) := by decide +kernel
theorem dS_finish_30 : decode cS_finish 30 = .ok (.goto (-22), 3) := by decide +kernel
theorem dS_finish_33 : decode cS_finish 33 = .ok (.iload_n 3, 1) := by decide +kernel
theorem dS_finish_34 : decode cS_finish 34 = .ok (.ireturn, 1) := by decide +kernel
theorem dS_result_0 : decode cS_result 0 = .ok (.aload_n 0, 1) := by decide +kernel
theorem dS_result_1 : decode cS_result 1 = .ok (.iload_n 1, 1) := by decide +kernel
theorem dS_result_2 : decode cS_result 2 = .ok (.invokevirtual 29, 3) := by decide +kernel
theorem dS_result_5 : decode cS_result 5 = .ok (.astore_n 2, 1) := by decide +kernel
theorem dS_result_6 : decode cS_result 6 = .ok (.aload_n 2, 1) := by decide +kernel
theorem dS_result_7 : decode cS_result 7 = .ok (.getfield 66, 3) := by decide +kernel
theorem dS_result_10 : decode cS_result 10 = .ok (.iconst (-1), 1) := by decide +kernel
theorem dS_result_11 : decode cS_result 11 = .ok (.if_icmp .ne 13, 3) := by decide +kernel
theorem dS_result_14 : decode cS_result 14 = .ok (.new 69, 3) := by decide +kernel
theorem dS_result_17 : decode cS_result 17 = .ok (.dup, 1) := by decide +kernel
theorem dS_result_18 : decode cS_result 18 = .ok (.ldc 71, 2) := by decide +kernel
theorem dS_result_20 : decode cS_result 20 = .ok (.invokespecial 73, 3) := by decide +kernel
theorem dS_result_23 : decode cS_result 23 = .ok (.athrow, 1) := by decide +kernel
theorem dS_result_24 : decode cS_result 24 = .ok (.aload_n 2, 1) := by decide +kernel
theorem dS_result_25 : decode cS_result 25 = .ok (.getfield 66, 3) := by decide +kernel
theorem dS_result_28 : decode cS_result 28 = .ok (.ireturn, 1) := by decide +kernel
theorem dS_at_0 : decode cS_at 0 = .ok (.aload_n 0, 1) := by decide +kernel
theorem dS_at_1 : decode cS_at 1 = .ok (.iload_n 1, 1) := by decide +kernel
theorem dS_at_2 : decode cS_at 2 = .ok (.invokevirtual 29, 3) := by decide +kernel
theorem dS_at_5 : decode cS_at 5 = .ok (.getfield 42, 3) := by decide +kernel
theorem dS_at_8 : decode cS_at 8 = .ok (.ireturn, 1) := by decide +kernel
theorem dS_known_0 : decode cS_known 0 = .ok (.aload_n 0, 1) := by decide +kernel
theorem dS_known_1 : decode cS_known 1 = .ok (.iload_n 1, 1) := by decide +kernel
theorem dS_known_2 : decode cS_known 2 = .ok (.invokevirtual 29, 3) := by decide +kernel
theorem dS_known_5 : decode cS_known 5 = .ok (.astore_n 3, 1) := by decide +kernel
theorem dS_known_6 : decode cS_known 6 = .ok (.iload_n 2, 1) := by decide +kernel
theorem dS_known_7 : decode cS_known 7 = .ok (.tableswitch 49 0 3 #[29, 34, 39, 44], 29) := by decide +kernel
theorem dS_known_36 : decode cS_known 36 = .ok (.aload_n 3, 1) := by decide +kernel
theorem dS_known_37 : decode cS_known 37 = .ok (.getfield 74, 3) := by decide +kernel
theorem dS_known_40 : decode cS_known 40 = .ok (.ireturn, 1) := by decide +kernel
theorem dS_known_41 : decode cS_known 41 = .ok (.aload_n 3, 1) := by decide +kernel
theorem dS_known_42 : decode cS_known 42 = .ok (.getfield 77, 3) := by decide +kernel
theorem dS_known_45 : decode cS_known 45 = .ok (.ireturn, 1) := by decide +kernel
theorem dS_known_46 : decode cS_known 46 = .ok (.aload_n 3, 1) := by decide +kernel
theorem dS_known_47 : decode cS_known 47 = .ok (.getfield 80, 3) := by decide +kernel
theorem dS_known_50 : decode cS_known 50 = .ok (.ireturn, 1) := by decide +kernel
theorem dS_known_51 : decode cS_known 51 = .ok (.aload_n 3, 1) := by decide +kernel
theorem dS_known_52 : decode cS_known 52 = .ok (.getfield 83, 3) := by decide +kernel
theorem dS_known_55 : decode cS_known 55 = .ok (.ireturn, 1) := by decide +kernel
theorem dS_known_56 : decode cS_known 56 = .ok (.new 86, 3) := by decide +kernel
theorem dS_known_59 : decode cS_known 59 = .ok (.dup, 1) := by decide +kernel
theorem dS_known_60 : decode cS_known 60 = .ok (.ldc 88, 2) := by decide +kernel
theorem dS_known_62 : decode cS_known 62 = .ok (.invokespecial 90, 3) := by decide +kernel
theorem dS_known_65 : decode cS_known 65 = .ok (.athrow, 1) := by decide +kernel
theorem dS_says_0 : decode cS_says 0 = .ok (.aload_n 0, 1) := by decide +kernel
theorem dS_says_1 : decode cS_says 1 = .ok (.iload_n 1, 1) := by decide +kernel
theorem dS_says_2 : decode cS_says 2 = .ok (.invokevirtual 29, 3) := by decide +kernel
theorem dS_says_5 : decode cS_says 5 = .ok (.astore_n 3, 1) := by decide +kernel
theorem dS_says_6 : decode cS_says 6 = .ok (.iload_n 2, 1) := by decide +kernel
theorem dS_says_7 : decode cS_says 7 = .ok (.tableswitch 40 0 2 #[25, 30, 35], 25) := by decide +kernel
theorem dS_says_32 : decode cS_says 32 = .ok (.aload_n 3, 1) := by decide +kernel
theorem dS_says_33 : decode cS_says 33 = .ok (.getfield 91, 3) := by decide +kernel
theorem dS_says_36 : decode cS_says 36 = .ok (.ireturn, 1) := by decide +kernel
theorem dS_says_37 : decode cS_says 37 = .ok (.aload_n 3, 1) := by decide +kernel
theorem dS_says_38 : decode cS_says 38 = .ok (.getfield 94, 3) := by decide +kernel
theorem dS_says_41 : decode cS_says 41 = .ok (.ireturn, 1) := by decide +kernel
theorem dS_says_42 : decode cS_says 42 = .ok (.aload_n 3, 1) := by decide +kernel
theorem dS_says_43 : decode cS_says 43 = .ok (.getfield 97, 3) := by decide +kernel
theorem dS_says_46 : decode cS_says 46 = .ok (.ireturn, 1) := by decide +kernel
theorem dS_says_47 : decode cS_says 47 = .ok (.new 86, 3) := by decide +kernel
theorem dS_says_50 : decode cS_says 50 = .ok (.dup, 1) := by decide +kernel
theorem dS_says_51 : decode cS_says 51 = .ok (.ldc 100, 2) := by decide +kernel
theorem dS_says_53 : decode cS_says 53 = .ok (.invokespecial 90, 3) := by decide +kernel
theorem dS_says_56 : decode cS_says 56 = .ok (.athrow, 1) := by decide +kernel
theorem dS_advance_0 : decode cS_advance 0 = .ok (.aload_n 0, 1) := by decide +kernel
theorem dS_advance_1 : decode cS_advance 1 = .ok (.getfield 9, 3) := by decide +kernel
theorem dS_advance_4 : decode cS_advance 4 = .ok (.ifCond .eq 13, 3) := by decide +kernel
theorem dS_advance_7 : decode cS_advance 7 = .ok (.new 102, 3) := by decide +kernel
theorem dS_advance_10 : decode cS_advance 10 = .ok (.dup, 1) := by decide +kernel
theorem dS_advance_11 : decode cS_advance 11 = .ok (.ldc 104, 2) := by decide +kernel
theorem dS_advance_13 : decode cS_advance 13 = .ok (.invokespecial 106, 3) := by decide +kernel
theorem dS_advance_16 : decode cS_advance 16 = .ok (.athrow, 1) := by decide +kernel
theorem dS_advance_17 : decode cS_advance 17 = .ok (.aload_n 0, 1) := by decide +kernel
theorem dS_advance_18 : decode cS_advance 18 = .ok (.invokevirtual 107, 3) := by decide +kernel
theorem dS_advance_21 : decode cS_advance 21 = .ok (.ifCond .ne 5, 3) := by decide +kernel
theorem dS_advance_24 : decode cS_advance 24 = .ok (.iconst 0, 1) := by decide +kernel
theorem dS_advance_25 : decode cS_advance 25 = .ok (.ireturn, 1) := by decide +kernel
theorem dS_advance_26 : decode cS_advance 26 = .ok (.aload_n 0, 1) := by decide +kernel
theorem dS_advance_27 : decode cS_advance 27 = .ok (.dup, 1) := by decide +kernel
theorem dS_advance_28 : decode cS_advance 28 = .ok (.getfield 111, 3) := by decide +kernel
theorem dS_advance_31 : decode cS_advance 31 = .ok (.iconst 1, 1) := by decide +kernel
theorem dS_advance_32 : decode cS_advance 32 = .ok (.iadd, 1) := by decide +kernel
theorem dS_advance_33 : decode cS_advance 33 = .ok (.putfield 111, 3) := by decide +kernel
theorem dS_advance_36 : decode cS_advance 36 = .ok (.aload_n 0, 1) := by decide +kernel
theorem dS_advance_37 : decode cS_advance 37 = .ok (.invokevirtual 114, 3) := by decide +kernel
theorem dS_advance_40 : decode cS_advance 40 = .ok (.iconst 1, 1) := by decide +kernel
theorem dS_advance_41 : decode cS_advance 41 = .ok (.ireturn, 1) := by decide +kernel
theorem dS_scan_0 : decode cS_scan 0 = .ok (.aload_n 0, 1) := by decide +kernel
theorem dS_scan_1 : decode cS_scan 1 = .ok (.iload_n 1, 1) := by decide +kernel
theorem dS_scan_2 : decode cS_scan 2 = .ok (.invokevirtual 29, 3) := by decide +kernel
theorem dS_scan_5 : decode cS_scan 5 = .ok (.astore_n 2, 1) := by decide +kernel
theorem dS_scan_6 : decode cS_scan 6 = .ok (.aload_n 0, 1) := by decide +kernel
theorem dS_scan_7 : decode cS_scan 7 = .ok (.getfield 9, 3) := by decide +kernel
theorem dS_scan_10 : decode cS_scan 10 = .ok (.iconst 1, 1) := by decide +kernel
theorem dS_scan_11 : decode cS_scan 11 = .ok (.if_icmp .eq 13, 3) := by decide +kernel
theorem dS_scan_14 : decode cS_scan 14 = .ok (.new 102, 3) := by decide +kernel
theorem dS_scan_17 : decode cS_scan 17 = .ok (.dup, 1) := by decide +kernel
theorem dS_scan_18 : decode cS_scan 18 = .ok (.ldc 117, 2) := by decide +kernel
theorem dS_scan_20 : decode cS_scan 20 = .ok (.invokespecial 106, 3) := by decide +kernel
theorem dS_scan_23 : decode cS_scan 23 = .ok (.athrow, 1) := by decide +kernel
theorem dS_scan_24 : decode cS_scan 24 = .ok (.aload_n 0, 1) := by decide +kernel
theorem dS_scan_25 : decode cS_scan 25 = .ok (.aload_n 2, 1) := by decide +kernel
theorem dS_scan_26 : decode cS_scan 26 = .ok (.invokevirtual 119, 3) := by decide +kernel
theorem dS_scan_29 : decode cS_scan 29 = .ok (.ireturn, 1) := by decide +kernel
theorem dS_block_0 : decode cS_block 0 = .ok (.iload_n 1, 1) := by decide +kernel
theorem dS_block_1 : decode cS_block 1 = .ok (.ifCond .lt 9, 3) := by decide +kernel
theorem dS_block_4 : decode cS_block 4 = .ok (.iload_n 1, 1) := by decide +kernel
theorem dS_block_5 : decode cS_block 5 = .ok (.bipush 20, 2) := by decide +kernel
theorem dS_block_7 : decode cS_block 7 = .ok (.if_icmp .le 13, 3) := by decide +kernel
theorem dS_block_10 : decode cS_block 10 = .ok (.new 86, 3) := by decide +kernel
theorem dS_block_13 : decode cS_block 13 = .ok (.dup, 1) := by decide +kernel
theorem dS_block_14 : decode cS_block 14 = .ok (.ldc 123, 2) := by decide +kernel
theorem dS_block_16 : decode cS_block 16 = .ok (.invokespecial 90, 3) := by decide +kernel
theorem dS_block_19 : decode cS_block 19 = .ok (.athrow, 1) := by decide +kernel
theorem dS_block_20 : decode cS_block 20 = .ok (.iload_n 2, 1) := by decide +kernel
theorem dS_block_21 : decode cS_block 21 = .ok (.ifCond .lt 8, 3) := by decide +kernel
theorem dS_block_24 : decode cS_block 24 = .ok (.iload_n 2, 1) := by decide +kernel
theorem dS_block_25 : decode cS_block 25 = .ok (.iconst 5, 1) := by decide +kernel
theorem dS_block_26 : decode cS_block 26 = .ok (.if_icmp .le 13, 3) := by decide +kernel
theorem dS_block_29 : decode cS_block 29 = .ok (.new 86, 3) := by decide +kernel
theorem dS_block_32 : decode cS_block 32 = .ok (.dup, 1) := by decide +kernel
theorem dS_block_33 : decode cS_block 33 = .ok (.ldc 125, 2) := by decide +kernel
theorem dS_block_35 : decode cS_block 35 = .ok (.invokespecial 90, 3) := by decide +kernel
theorem dS_block_38 : decode cS_block 38 = .ok (.athrow, 1) := by decide +kernel
theorem dS_block_39 : decode cS_block 39 = .ok (.iload_n 1, 1) := by decide +kernel
theorem dS_block_40 : decode cS_block 40 = .ok (.ifCond .ne 10, 3) := by decide +kernel
theorem dS_block_43 : decode cS_block 43 = .ok (.iload_n 2, 1) := by decide +kernel
theorem dS_block_44 : decode cS_block 44 = .ok (.iconst 2, 1) := by decide +kernel
theorem dS_block_45 : decode cS_block 45 = .ok (.if_icmp .eq 5, 3) := by decide +kernel
theorem dS_block_48 : decode cS_block 48 = .ok (.iconst (-1), 1) := by decide +kernel
theorem dS_block_49 : decode cS_block 49 = .ok (.ireturn, 1) := by decide +kernel
theorem dS_block_50 : decode cS_block 50 = .ok (.aload_n 0, 1) := by decide +kernel
theorem dS_block_51 : decode cS_block 51 = .ok (.getfield 15, 3) := by decide +kernel
theorem dS_block_54 : decode cS_block 54 = .ok (.iload_n 1, 1) := by decide +kernel
theorem dS_block_55 : decode cS_block 55 = .ok (.aaload, 1) := by decide +kernel
theorem dS_block_56 : decode cS_block 56 = .ok (.iload_n 2, 1) := by decide +kernel
theorem dS_block_57 : decode cS_block 57 = .ok (.invokevirtual 127, 3) := by decide +kernel
theorem dS_block_60 : decode cS_block 60 = .ok (.ireturn, 1) := by decide +kernel
theorem dS_size_0 : decode cS_size 0 = .ok (.iconst 0, 1) := by decide +kernel
theorem dS_size_1 : decode cS_size 1 = .ok (.istore_n 1, 1) := by decide +kernel
theorem dS_size_2 : decode cS_size 2 = .ok (.aload_n 0, 1) := by decide +kernel
theorem dS_size_3 : decode cS_size 3 = .ok (.getfield 15, 3) := by decide +kernel
theorem dS_size_6 : decode cS_size 6 = .ok (.iconst 0, 1) := by decide +kernel
theorem dS_size_7 : decode cS_size 7 = .ok (.aaload, 1) := by decide +kernel
theorem dS_size_8 : decode cS_size 8 = .ok (.getfield 131, 3) := by decide +kernel
theorem dS_size_11 : decode cS_size 11 = .ok (.istore_n 2, 1) := by decide +kernel
theorem dS_size_12 : decode cS_size 12 = .ok (.iconst 0, 1) := by decide +kernel
theorem dS_size_13 : decode cS_size 13 = .ok (.istore_n 3, 1) := by decide +kernel
theorem dS_size_14 : decode cS_size 14 = .ok (.iload_n 3, 1) := by decide +kernel
theorem dS_size_15 : decode cS_size 15 = .ok (.bipush 20, 2) := by decide +kernel
theorem dS_size_17 : decode cS_size 17 = .ok (.if_icmp .ge 38, 3) := by decide +kernel
theorem dS_size_20 : decode cS_size 20 = .ok (.iload_n 2, 1) := by decide +kernel
theorem dS_size_21 : decode cS_size 21 = .ok (.ifCond .eq 34, 3) := by decide +kernel
theorem dS_size_24 : decode cS_size 24 = .ok (.aload_n 0, 1) := by decide +kernel
theorem dS_size_25 : decode cS_size 25 = .ok (.getfield 15, 3) := by decide +kernel
theorem dS_size_28 : decode cS_size 28 = .ok (.iload_n 2, 1) := by decide +kernel
theorem dS_size_29 : decode cS_size 29 = .ok (.aaload, 1) := by decide +kernel
theorem dS_size_30 : decode cS_size 30 = .ok (.getfield 134, 3) := by decide +kernel
theorem dS_size_33 : decode cS_size 33 = .ok (.ifCond .ne 6, 3) := by decide +kernel
theorem dS_size_36 : decode cS_size 36 = .ok (.iinc 1 1, 3) := by decide +kernel
theorem dS_size_39 : decode cS_size 39 = .ok (.aload_n 0, 1) := by decide +kernel
theorem dS_size_40 : decode cS_size 40 = .ok (.getfield 15, 3) := by decide +kernel
theorem dS_size_43 : decode cS_size 43 = .ok (.iload_n 2, 1) := by decide +kernel
theorem dS_size_44 : decode cS_size 44 = .ok (.aaload, 1) := by decide +kernel
theorem dS_size_45 : decode cS_size 45 = .ok (.getfield 131, 3) := by decide +kernel
theorem dS_size_48 : decode cS_size 48 = .ok (.istore_n 2, 1) := by decide +kernel
theorem dS_size_49 : decode cS_size 49 = .ok (.iinc 3 1, 3) := by decide +kernel
theorem dS_size_52 : decode cS_size 52 = .ok (.goto (-38), 3) := by decide +kernel
theorem dS_size_55 : decode cS_size 55 = .ok (.iload_n 1, 1) := by decide +kernel
theorem dS_size_56 : decode cS_size 56 = .ok (.ireturn, 1) := by decide +kernel
theorem dS_has_0 : decode cS_has 0 = .ok (.aload_n 0, 1) := by decide +kernel
theorem dS_has_1 : decode cS_has 1 = .ok (.getfield 15, 3) := by decide +kernel
theorem dS_has_4 : decode cS_has 4 = .ok (.iconst 0, 1) := by decide +kernel
theorem dS_has_5 : decode cS_has 5 = .ok (.aaload, 1) := by decide +kernel
theorem dS_has_6 : decode cS_has 6 = .ok (.getfield 131, 3) := by decide +kernel
theorem dS_has_9 : decode cS_has 9 = .ok (.istore_n 2, 1) := by decide +kernel
theorem dS_has_10 : decode cS_has 10 = .ok (.iconst 0, 1) := by decide +kernel
theorem dS_has_11 : decode cS_has 11 = .ok (.istore_n 3, 1) := by decide +kernel
theorem dS_has_12 : decode cS_has 12 = .ok (.iload_n 3, 1) := by decide +kernel
theorem dS_has_13 : decode cS_has 13 = .ok (.bipush 20, 2) := by decide +kernel
theorem dS_has_15 : decode cS_has 15 = .ok (.if_icmp .ge 50, 3) := by decide +kernel
theorem dS_has_18 : decode cS_has 18 = .ok (.iload_n 2, 1) := by decide +kernel
theorem dS_has_19 : decode cS_has 19 = .ok (.ifCond .eq 46, 3) := by decide +kernel
theorem dS_has_22 : decode cS_has 22 = .ok (.aload_n 0, 1) := by decide +kernel
theorem dS_has_23 : decode cS_has 23 = .ok (.getfield 15, 3) := by decide +kernel
theorem dS_has_26 : decode cS_has 26 = .ok (.iload_n 2, 1) := by decide +kernel
theorem dS_has_27 : decode cS_has 27 = .ok (.aaload, 1) := by decide +kernel
theorem dS_has_28 : decode cS_has 28 = .ok (.getfield 134, 3) := by decide +kernel
theorem dS_has_31 : decode cS_has 31 = .ok (.ifCond .ne 18, 3) := by decide +kernel
theorem dS_has_34 : decode cS_has 34 = .ok (.aload_n 0, 1) := by decide +kernel
theorem dS_has_35 : decode cS_has 35 = .ok (.getfield 15, 3) := by decide +kernel
theorem dS_has_38 : decode cS_has 38 = .ok (.iload_n 2, 1) := by decide +kernel
theorem dS_has_39 : decode cS_has 39 = .ok (.aaload, 1) := by decide +kernel
theorem dS_has_40 : decode cS_has 40 = .ok (.getfield 138, 3) := by decide +kernel
theorem dS_has_43 : decode cS_has 43 = .ok (.iload_n 1, 1) := by decide +kernel
theorem dS_has_44 : decode cS_has 44 = .ok (.if_icmp .ne 5, 3) := by decide +kernel
theorem dS_has_47 : decode cS_has 47 = .ok (.iconst 1, 1) := by decide +kernel
theorem dS_has_48 : decode cS_has 48 = .ok (.ireturn, 1) := by decide +kernel
theorem dS_has_49 : decode cS_has 49 = .ok (.aload_n 0, 1) := by decide +kernel
theorem dS_has_50 : decode cS_has 50 = .ok (.getfield 15, 3) := by decide +kernel
theorem dS_has_53 : decode cS_has 53 = .ok (.iload_n 2, 1) := by decide +kernel
theorem dS_has_54 : decode cS_has 54 = .ok (.aaload, 1) := by decide +kernel
theorem dS_has_55 : decode cS_has 55 = .ok (.getfield 131, 3) := by decide +kernel
theorem dS_has_58 : decode cS_has 58 = .ok (.istore_n 2, 1) := by decide +kernel
theorem dS_has_59 : decode cS_has 59 = .ok (.iinc 3 1, 3) := by decide +kernel
theorem dS_has_62 : decode cS_has 62 = .ok (.goto (-50), 3) := by decide +kernel
theorem dS_has_65 : decode cS_has 65 = .ok (.iconst 0, 1) := by decide +kernel
theorem dS_has_66 : decode cS_has 66 = .ok (.ireturn, 1) := by decide +kernel
theorem dS_faults_0 : decode cS_faults 0 = .ok (.aload_n 0, 1) := by decide +kernel
theorem dS_faults_1 : decode cS_faults 1 = .ok (.getfield 139, 3) := by decide +kernel
theorem dS_faults_4 : decode cS_faults 4 = .ok (.ireturn, 1) := by decide +kernel
theorem dS_epoch_0 : decode cS_epoch 0 = .ok (.aload_n 0, 1) := by decide +kernel
theorem dS_epoch_1 : decode cS_epoch 1 = .ok (.getfield 111, 3) := by decide +kernel
theorem dS_epoch_4 : decode cS_epoch 4 = .ok (.ireturn, 1) := by decide +kernel
theorem dS_workerOf_0 : decode cS_workerOf 0 = .ok (.iload_n 1, 1) := by decide +kernel
theorem dS_workerOf_1 : decode cS_workerOf 1 = .ok (.ifCond .lt 8, 3) := by decide +kernel
theorem dS_workerOf_4 : decode cS_workerOf 4 = .ok (.iload_n 1, 1) := by decide +kernel
theorem dS_workerOf_5 : decode cS_workerOf 5 = .ok (.iconst 4, 1) := by decide +kernel
theorem dS_workerOf_6 : decode cS_workerOf 6 = .ok (.if_icmp .lt 13, 3) := by decide +kernel
theorem dS_workerOf_9 : decode cS_workerOf 9 = .ok (.new 86, 3) := by decide +kernel
theorem dS_workerOf_12 : decode cS_workerOf 12 = .ok (.dup, 1) := by decide +kernel
theorem dS_workerOf_13 : decode cS_workerOf 13 = .ok (.ldc 142, 2) := by decide +kernel
theorem dS_workerOf_15 : decode cS_workerOf 15 = .ok (.invokespecial 90, 3) := by decide +kernel
theorem dS_workerOf_18 : decode cS_workerOf 18 = .ok (.athrow, 1) := by decide +kernel
theorem dS_workerOf_19 : decode cS_workerOf 19 = .ok (.aload_n 0, 1) := by decide +kernel
theorem dS_workerOf_20 : decode cS_workerOf 20 = .ok (.getfield 22, 3) := by decide +kernel
theorem dS_workerOf_23 : decode cS_workerOf 23 = .ok (.iload_n 1, 1) := by decide +kernel
theorem dS_workerOf_24 : decode cS_workerOf 24 = .ok (.aaload, 1) := by decide +kernel
theorem dS_workerOf_25 : decode cS_workerOf 25 = .ok (.areturn, 1) := by decide +kernel
theorem dS_busyWorkerOf_0 : decode cS_busyWorkerOf 0 = .ok (.aload_n 0, 1) := by decide +kernel
theorem dS_busyWorkerOf_1 : decode cS_busyWorkerOf 1 = .ok (.iload_n 1, 1) := by decide +kernel
theorem dS_busyWorkerOf_2 : decode cS_busyWorkerOf 2 = .ok (.invokevirtual 29, 3) := by decide +kernel
theorem dS_busyWorkerOf_5 : decode cS_busyWorkerOf 5 = .ok (.astore_n 2, 1) := by decide +kernel
theorem dS_busyWorkerOf_6 : decode cS_busyWorkerOf 6 = .ok (.aload_n 2, 1) := by decide +kernel
theorem dS_busyWorkerOf_7 : decode cS_busyWorkerOf 7 = .ok (.getfield 42, 3) := by decide +kernel
theorem dS_busyWorkerOf_10 : decode cS_busyWorkerOf 10 = .ok (.ifCond .ne 13, 3) := by decide +kernel
theorem dS_busyWorkerOf_13 : decode cS_busyWorkerOf 13 = .ok (.new 45, 3) := by decide +kernel
theorem dS_busyWorkerOf_16 : decode cS_busyWorkerOf 16 = .ok (.dup, 1) := by decide +kernel
theorem dS_busyWorkerOf_17 : decode cS_busyWorkerOf 17 = .ok (.ldc 144, 2) := by decide +kernel
theorem dS_busyWorkerOf_19 : decode cS_busyWorkerOf 19 = .ok (.invokespecial 49, 3) := by decide +kernel
theorem dS_busyWorkerOf_22 : decode cS_busyWorkerOf 22 = .ok (.athrow, 1) := by decide +kernel
theorem dS_busyWorkerOf_23 : decode cS_busyWorkerOf 23 = .ok (.aload_n 2, 1) := by decide +kernel
theorem dS_busyWorkerOf_24 : decode cS_busyWorkerOf 24 = .ok (.areturn, 1) := by decide +kernel
theorem dS_perform_0 : decode cS_perform 0 = .ok (.aload_n 1, 1) := by decide +kernel
theorem dS_perform_1 : decode cS_perform 1 = .ok (.getfield 42, 3) := by decide +kernel
theorem dS_perform_4 : decode cS_perform 4 = .ok (.tableswitch 136 1 10 #[56, 64, 72, 80, 88, 96, 104, 112, 120, 128], 56) := by decide +kernel
theorem dS_perform_60 : decode cS_perform 60 = .ok (.aload_n 0, 1) := by decide +kernel
theorem dS_perform_61 : decode cS_perform 61 = .ok (.aload_n 1, 1) := by decide +kernel
theorem dS_perform_62 : decode cS_perform 62 = .ok (.invokevirtual 146, 3) := by decide +kernel
theorem dS_perform_65 : decode cS_perform 65 = .ok (.goto 75, 3) := by decide +kernel
theorem dS_perform_68 : decode cS_perform 68 = .ok (.aload_n 0, 1) := by decide +kernel
theorem dS_perform_69 : decode cS_perform 69 = .ok (.aload_n 1, 1) := by decide +kernel
theorem dS_perform_70 : decode cS_perform 70 = .ok (.invokevirtual 149, 3) := by decide +kernel
theorem dS_perform_73 : decode cS_perform 73 = .ok (.goto 67, 3) := by decide +kernel
theorem dS_perform_76 : decode cS_perform 76 = .ok (.aload_n 0, 1) := by decide +kernel
theorem dS_perform_77 : decode cS_perform 77 = .ok (.aload_n 1, 1) := by decide +kernel
theorem dS_perform_78 : decode cS_perform 78 = .ok (.invokevirtual 152, 3) := by decide +kernel
theorem dS_perform_81 : decode cS_perform 81 = .ok (.goto 59, 3) := by decide +kernel
theorem dS_perform_84 : decode cS_perform 84 = .ok (.aload_n 0, 1) := by decide +kernel
theorem dS_perform_85 : decode cS_perform 85 = .ok (.aload_n 1, 1) := by decide +kernel
theorem dS_perform_86 : decode cS_perform 86 = .ok (.invokevirtual 155, 3) := by decide +kernel
theorem dS_perform_89 : decode cS_perform 89 = .ok (.goto 51, 3) := by decide +kernel
theorem dS_perform_92 : decode cS_perform 92 = .ok (.aload_n 0, 1) := by decide +kernel
theorem dS_perform_93 : decode cS_perform 93 = .ok (.aload_n 1, 1) := by decide +kernel
theorem dS_perform_94 : decode cS_perform 94 = .ok (.invokevirtual 158, 3) := by decide +kernel
theorem dS_perform_97 : decode cS_perform 97 = .ok (.goto 43, 3) := by decide +kernel
theorem dS_perform_100 : decode cS_perform 100 = .ok (.aload_n 0, 1) := by decide +kernel
theorem dS_perform_101 : decode cS_perform 101 = .ok (.aload_n 1, 1) := by decide +kernel
theorem dS_perform_102 : decode cS_perform 102 = .ok (.invokevirtual 161, 3) := by decide +kernel
theorem dS_perform_105 : decode cS_perform 105 = .ok (.goto 35, 3) := by decide +kernel
theorem dS_perform_108 : decode cS_perform 108 = .ok (.aload_n 0, 1) := by decide +kernel
theorem dS_perform_109 : decode cS_perform 109 = .ok (.aload_n 1, 1) := by decide +kernel
theorem dS_perform_110 : decode cS_perform 110 = .ok (.invokevirtual 164, 3) := by decide +kernel
theorem dS_perform_113 : decode cS_perform 113 = .ok (.goto 27, 3) := by decide +kernel
theorem dS_perform_116 : decode cS_perform 116 = .ok (.aload_n 0, 1) := by decide +kernel
theorem dS_perform_117 : decode cS_perform 117 = .ok (.aload_n 1, 1) := by decide +kernel
end
section
theorem dS_perform_118 : decode cS_perform 118 = .ok (.invokevirtual 167, 3) := by decide +kernel
theorem dS_perform_121 : decode cS_perform 121 = .ok (.goto 19, 3) := by decide +kernel
theorem dS_perform_124 : decode cS_perform 124 = .ok (.aload_n 0, 1) := by decide +kernel
theorem dS_perform_125 : decode cS_perform 125 = .ok (.aload_n 1, 1) := by decide +kernel
theorem dS_perform_126 : decode cS_perform 126 = .ok (.invokevirtual 170, 3) := by decide +kernel
theorem dS_perform_129 : decode cS_perform 129 = .ok (.goto 11, 3) := by decide +kernel
theorem dS_perform_132 : decode cS_perform 132 = .ok (.aload_n 0, 1) := by decide +kernel
theorem dS_perform_133 : decode cS_perform 133 = .ok (.aload_n 1, 1) := by decide +kernel
theorem dS_perform_134 : decode cS_perform 134 = .ok (.invokevirtual 173, 3) := by decide +kernel
theorem dS_perform_137 : decode cS_perform 137 = .ok (.goto 3, 3) := by decide +kernel
theorem dS_perform_140 : decode cS_perform 140 = .ok (.return_, 1) := by decide +kernel
theorem dS_startWork_0 : decode cS_startWork 0 = .ok (.aload_n 0, 1) := by decide +kernel
theorem dS_startWork_1 : decode cS_startWork 1 = .ok (.getfield 9, 3) := by decide +kernel
theorem dS_startWork_4 : decode cS_startWork 4 = .ok (.ifCond .ne 11, 3) := by decide +kernel
theorem dS_startWork_7 : decode cS_startWork 7 = .ok (.aload_n 1, 1) := by decide +kernel
theorem dS_startWork_8 : decode cS_startWork 8 = .ok (.aload_n 0, 1) := by decide +kernel
theorem dS_startWork_9 : decode cS_startWork 9 = .ok (.getfield 111, 3) := by decide +kernel
theorem dS_startWork_12 : decode cS_startWork 12 = .ok (.putfield 97, 3) := by decide +kernel
theorem dS_startWork_15 : decode cS_startWork 15 = .ok (.aload_n 1, 1) := by decide +kernel
theorem dS_startWork_16 : decode cS_startWork 16 = .ok (.iconst 2, 1) := by decide +kernel
theorem dS_startWork_17 : decode cS_startWork 17 = .ok (.putfield 42, 3) := by decide +kernel
theorem dS_startWork_20 : decode cS_startWork 20 = .ok (.return_, 1) := by decide +kernel
theorem dS_goToHead_0 : decode cS_goToHead 0 = .ok (.aload_n 1, 1) := by decide +kernel
theorem dS_goToHead_1 : decode cS_goToHead 1 = .ok (.iconst 0, 1) := by decide +kernel
theorem dS_goToHead_2 : decode cS_goToHead 2 = .ok (.putfield 74, 3) := by decide +kernel
theorem dS_goToHead_5 : decode cS_goToHead 5 = .ok (.aload_n 1, 1) := by decide +kernel
theorem dS_goToHead_6 : decode cS_goToHead 6 = .ok (.iconst 0, 1) := by decide +kernel
theorem dS_goToHead_7 : decode cS_goToHead 7 = .ok (.putfield 176, 3) := by decide +kernel
theorem dS_goToHead_10 : decode cS_goToHead 10 = .ok (.aload_n 0, 1) := by decide +kernel
theorem dS_goToHead_11 : decode cS_goToHead 11 = .ok (.aload_n 1, 1) := by decide +kernel
theorem dS_goToHead_12 : decode cS_goToHead 12 = .ok (.aload_n 0, 1) := by decide +kernel
theorem dS_goToHead_13 : decode cS_goToHead 13 = .ok (.getfield 15, 3) := by decide +kernel
theorem dS_goToHead_16 : decode cS_goToHead 16 = .ok (.iconst 0, 1) := by decide +kernel
theorem dS_goToHead_17 : decode cS_goToHead 17 = .ok (.aaload, 1) := by decide +kernel
theorem dS_goToHead_18 : decode cS_goToHead 18 = .ok (.getfield 131, 3) := by decide +kernel
theorem dS_goToHead_21 : decode cS_goToHead 21 = .ok (.invokevirtual 179, 3) := by decide +kernel
theorem dS_goToHead_24 : decode cS_goToHead 24 = .ok (.return_, 1) := by decide +kernel
theorem dS_nameHere_0 : decode cS_nameHere 0 = .ok (.aload_n 1, 1) := by decide +kernel
theorem dS_nameHere_1 : decode cS_nameHere 1 = .ok (.getfield 74, 3) := by decide +kernel
theorem dS_nameHere_4 : decode cS_nameHere 4 = .ok (.ifCond .eq 25, 3) := by decide +kernel
theorem dS_nameHere_7 : decode cS_nameHere 7 = .ok (.aload_n 1, 1) := by decide +kernel
theorem dS_nameHere_8 : decode cS_nameHere 8 = .ok (.getfield 91, 3) := by decide +kernel
theorem dS_nameHere_11 : decode cS_nameHere 11 = .ok (.aload_n 1, 1) := by decide +kernel
theorem dS_nameHere_12 : decode cS_nameHere 12 = .ok (.getfield 74, 3) := by decide +kernel
theorem dS_nameHere_15 : decode cS_nameHere 15 = .ok (.if_icmp .ne 14, 3) := by decide +kernel
theorem dS_nameHere_18 : decode cS_nameHere 18 = .ok (.aload_n 1, 1) := by decide +kernel
theorem dS_nameHere_19 : decode cS_nameHere 19 = .ok (.aload_n 1, 1) := by decide +kernel
theorem dS_nameHere_20 : decode cS_nameHere 20 = .ok (.getfield 77, 3) := by decide +kernel
theorem dS_nameHere_23 : decode cS_nameHere 23 = .ok (.putfield 94, 3) := by decide +kernel
theorem dS_nameHere_26 : decode cS_nameHere 26 = .ok (.goto 11, 3) := by decide +kernel
theorem dS_nameHere_29 : decode cS_nameHere 29 = .ok (.aload_n 1, 1) := by decide +kernel
theorem dS_nameHere_30 : decode cS_nameHere 30 = .ok (.aload_n 1, 1) := by decide +kernel
theorem dS_nameHere_31 : decode cS_nameHere 31 = .ok (.getfield 77, 3) := by decide +kernel
theorem dS_nameHere_34 : decode cS_nameHere 34 = .ok (.putfield 91, 3) := by decide +kernel
theorem dS_nameHere_37 : decode cS_nameHere 37 = .ok (.aload_n 1, 1) := by decide +kernel
theorem dS_nameHere_38 : decode cS_nameHere 38 = .ok (.iconst 4, 1) := by decide +kernel
theorem dS_nameHere_39 : decode cS_nameHere 39 = .ok (.putfield 42, 3) := by decide +kernel
theorem dS_nameHere_42 : decode cS_nameHere 42 = .ok (.return_, 1) := by decide +kernel
theorem dS_checkBack_0 : decode cS_checkBack 0 = .ok (.aload_n 0, 1) := by decide +kernel
theorem dS_checkBack_1 : decode cS_checkBack 1 = .ok (.aload_n 1, 1) := by decide +kernel
theorem dS_checkBack_2 : decode cS_checkBack 2 = .ok (.invokevirtual 183, 3) := by decide +kernel
theorem dS_checkBack_5 : decode cS_checkBack 5 = .ok (.aload_n 0, 1) := by decide +kernel
theorem dS_checkBack_6 : decode cS_checkBack 6 = .ok (.getfield 15, 3) := by decide +kernel
theorem dS_checkBack_9 : decode cS_checkBack 9 = .ok (.aload_n 1, 1) := by decide +kernel
theorem dS_checkBack_10 : decode cS_checkBack 10 = .ok (.getfield 74, 3) := by decide +kernel
theorem dS_checkBack_13 : decode cS_checkBack 13 = .ok (.aaload, 1) := by decide +kernel
theorem dS_checkBack_14 : decode cS_checkBack 14 = .ok (.aload_n 1, 1) := by decide +kernel
theorem dS_checkBack_15 : decode cS_checkBack 15 = .ok (.getfield 77, 3) := by decide +kernel
theorem dS_checkBack_18 : decode cS_checkBack 18 = .ok (.invokevirtual 186, 3) := by decide +kernel
theorem dS_checkBack_21 : decode cS_checkBack 21 = .ok (.ifCond .ne 11, 3) := by decide +kernel
theorem dS_checkBack_24 : decode cS_checkBack 24 = .ok (.aload_n 1, 1) := by decide +kernel
theorem dS_checkBack_25 : decode cS_checkBack 25 = .ok (.iconst 2, 1) := by decide +kernel
theorem dS_checkBack_26 : decode cS_checkBack 26 = .ok (.putfield 42, 3) := by decide +kernel
theorem dS_checkBack_29 : decode cS_checkBack 29 = .ok (.goto 29, 3) := by decide +kernel
theorem dS_checkBack_32 : decode cS_checkBack 32 = .ok (.aload_n 1, 1) := by decide +kernel
theorem dS_checkBack_33 : decode cS_checkBack 33 = .ok (.getfield 77, 3) := by decide +kernel
theorem dS_checkBack_36 : decode cS_checkBack 36 = .ok (.ifCond .ne 17, 3) := by decide +kernel
theorem dS_checkBack_39 : decode cS_checkBack 39 = .ok (.aload_n 1, 1) := by decide +kernel
theorem dS_checkBack_40 : decode cS_checkBack 40 = .ok (.iconst 0, 1) := by decide +kernel
theorem dS_checkBack_41 : decode cS_checkBack 41 = .ok (.putfield 190, 3) := by decide +kernel
theorem dS_checkBack_44 : decode cS_checkBack 44 = .ok (.aload_n 1, 1) := by decide +kernel
theorem dS_checkBack_45 : decode cS_checkBack 45 = .ok (.bipush 7, 2) := by decide +kernel
theorem dS_checkBack_47 : decode cS_checkBack 47 = .ok (.putfield 42, 3) := by decide +kernel
theorem dS_checkBack_50 : decode cS_checkBack 50 = .ok (.goto 8, 3) := by decide +kernel
theorem dS_checkBack_53 : decode cS_checkBack 53 = .ok (.aload_n 1, 1) := by decide +kernel
theorem dS_checkBack_54 : decode cS_checkBack 54 = .ok (.iconst 5, 1) := by decide +kernel
theorem dS_checkBack_55 : decode cS_checkBack 55 = .ok (.putfield 42, 3) := by decide +kernel
theorem dS_checkBack_58 : decode cS_checkBack 58 = .ok (.return_, 1) := by decide +kernel
theorem dS_readHere_0 : decode cS_readHere 0 = .ok (.aload_n 0, 1) := by decide +kernel
theorem dS_readHere_1 : decode cS_readHere 1 = .ok (.aload_n 1, 1) := by decide +kernel
theorem dS_readHere_2 : decode cS_readHere 2 = .ok (.invokevirtual 193, 3) := by decide +kernel
theorem dS_readHere_5 : decode cS_readHere 5 = .ok (.aload_n 0, 1) := by decide +kernel
theorem dS_readHere_6 : decode cS_readHere 6 = .ok (.getfield 15, 3) := by decide +kernel
theorem dS_readHere_9 : decode cS_readHere 9 = .ok (.aload_n 1, 1) := by decide +kernel
theorem dS_readHere_10 : decode cS_readHere 10 = .ok (.getfield 77, 3) := by decide +kernel
theorem dS_readHere_13 : decode cS_readHere 13 = .ok (.aaload, 1) := by decide +kernel
theorem dS_readHere_14 : decode cS_readHere 14 = .ok (.astore_n 2, 1) := by decide +kernel
theorem dS_readHere_15 : decode cS_readHere 15 = .ok (.aload_n 1, 1) := by decide +kernel
theorem dS_readHere_16 : decode cS_readHere 16 = .ok (.aload_n 2, 1) := by decide +kernel
theorem dS_readHere_17 : decode cS_readHere 17 = .ok (.getfield 131, 3) := by decide +kernel
theorem dS_readHere_20 : decode cS_readHere 20 = .ok (.putfield 80, 3) := by decide +kernel
theorem dS_readHere_23 : decode cS_readHere 23 = .ok (.aload_n 2, 1) := by decide +kernel
theorem dS_readHere_24 : decode cS_readHere 24 = .ok (.getfield 134, 3) := by decide +kernel
theorem dS_readHere_27 : decode cS_readHere 27 = .ok (.ifCond .eq 12, 3) := by decide +kernel
theorem dS_readHere_30 : decode cS_readHere 30 = .ok (.aload_n 1, 1) := by decide +kernel
theorem dS_readHere_31 : decode cS_readHere 31 = .ok (.bipush 6, 2) := by decide +kernel
theorem dS_readHere_33 : decode cS_readHere 33 = .ok (.putfield 42, 3) := by decide +kernel
theorem dS_readHere_36 : decode cS_readHere 36 = .ok (.goto 68, 3) := by decide +kernel
theorem dS_readHere_39 : decode cS_readHere 39 = .ok (.aload_n 2, 1) := by decide +kernel
theorem dS_readHere_40 : decode cS_readHere 40 = .ok (.getfield 138, 3) := by decide +kernel
theorem dS_readHere_43 : decode cS_readHere 43 = .ok (.aload_n 1, 1) := by decide +kernel
theorem dS_readHere_44 : decode cS_readHere 44 = .ok (.getfield 56, 3) := by decide +kernel
theorem dS_readHere_47 : decode cS_readHere 47 = .ok (.if_icmp .lt 32, 3) := by decide +kernel
theorem dS_readHere_50 : decode cS_readHere 50 = .ok (.aload_n 1, 1) := by decide +kernel
theorem dS_readHere_51 : decode cS_readHere 51 = .ok (.aload_n 2, 1) := by decide +kernel
theorem dS_readHere_52 : decode cS_readHere 52 = .ok (.getfield 138, 3) := by decide +kernel
theorem dS_readHere_55 : decode cS_readHere 55 = .ok (.aload_n 1, 1) := by decide +kernel
theorem dS_readHere_56 : decode cS_readHere 56 = .ok (.getfield 56, 3) := by decide +kernel
theorem dS_readHere_59 : decode cS_readHere 59 = .ok (.if_icmp .ne 7, 3) := by decide +kernel
theorem dS_readHere_62 : decode cS_readHere 62 = .ok (.iconst 1, 1) := by decide +kernel
theorem dS_readHere_63 : decode cS_readHere 63 = .ok (.goto 4, 3) := by decide +kernel
theorem dS_readHere_66 : decode cS_readHere 66 = .ok (.iconst 0, 1) := by decide +kernel
theorem dS_readHere_67 : decode cS_readHere 67 = .ok (.putfield 190, 3) := by decide +kernel
theorem dS_readHere_70 : decode cS_readHere 70 = .ok (.aload_n 1, 1) := by decide +kernel
theorem dS_readHere_71 : decode cS_readHere 71 = .ok (.bipush 7, 2) := by decide +kernel
theorem dS_readHere_73 : decode cS_readHere 73 = .ok (.putfield 42, 3) := by decide +kernel
theorem dS_readHere_76 : decode cS_readHere 76 = .ok (.goto 28, 3) := by decide +kernel
theorem dS_readHere_79 : decode cS_readHere 79 = .ok (.aload_n 1, 1) := by decide +kernel
theorem dS_readHere_80 : decode cS_readHere 80 = .ok (.aload_n 1, 1) := by decide +kernel
theorem dS_readHere_81 : decode cS_readHere 81 = .ok (.getfield 77, 3) := by decide +kernel
theorem dS_readHere_84 : decode cS_readHere 84 = .ok (.putfield 74, 3) := by decide +kernel
theorem dS_readHere_87 : decode cS_readHere 87 = .ok (.aload_n 1, 1) := by decide +kernel
theorem dS_readHere_88 : decode cS_readHere 88 = .ok (.aload_n 1, 1) := by decide +kernel
theorem dS_readHere_89 : decode cS_readHere 89 = .ok (.getfield 196, 3) := by decide +kernel
theorem dS_readHere_92 : decode cS_readHere 92 = .ok (.putfield 176, 3) := by decide +kernel
theorem dS_readHere_95 : decode cS_readHere 95 = .ok (.aload_n 0, 1) := by decide +kernel
theorem dS_readHere_96 : decode cS_readHere 96 = .ok (.aload_n 1, 1) := by decide +kernel
theorem dS_readHere_97 : decode cS_readHere 97 = .ok (.aload_n 1, 1) := by decide +kernel
theorem dS_readHere_98 : decode cS_readHere 98 = .ok (.getfield 80, 3) := by decide +kernel
theorem dS_readHere_101 : decode cS_readHere 101 = .ok (.invokevirtual 179, 3) := by decide +kernel
theorem dS_readHere_104 : decode cS_readHere 104 = .ok (.return_, 1) := by decide +kernel
theorem dS_cutHere_0 : decode cS_cutHere 0 = .ok (.aload_n 0, 1) := by decide +kernel
theorem dS_cutHere_1 : decode cS_cutHere 1 = .ok (.aload_n 1, 1) := by decide +kernel
theorem dS_cutHere_2 : decode cS_cutHere 2 = .ok (.invokevirtual 199, 3) := by decide +kernel
theorem dS_cutHere_5 : decode cS_cutHere 5 = .ok (.ifCond .eq 15, 3) := by decide +kernel
theorem dS_cutHere_8 : decode cS_cutHere 8 = .ok (.aload_n 0, 1) := by decide +kernel
theorem dS_cutHere_9 : decode cS_cutHere 9 = .ok (.aload_n 1, 1) := by decide +kernel
theorem dS_cutHere_10 : decode cS_cutHere 10 = .ok (.aload_n 1, 1) := by decide +kernel
theorem dS_cutHere_11 : decode cS_cutHere 11 = .ok (.getfield 80, 3) := by decide +kernel
theorem dS_cutHere_14 : decode cS_cutHere 14 = .ok (.invokevirtual 179, 3) := by decide +kernel
theorem dS_cutHere_17 : decode cS_cutHere 17 = .ok (.goto 8, 3) := by decide +kernel
theorem dS_cutHere_20 : decode cS_cutHere 20 = .ok (.aload_n 1, 1) := by decide +kernel
theorem dS_cutHere_21 : decode cS_cutHere 21 = .ok (.iconst 2, 1) := by decide +kernel
theorem dS_cutHere_22 : decode cS_cutHere 22 = .ok (.putfield 42, 3) := by decide +kernel
theorem dS_cutHere_25 : decode cS_cutHere 25 = .ok (.return_, 1) := by decide +kernel
theorem dS_doOperation_0 : decode cS_doOperation 0 = .ok (.aload_n 1, 1) := by decide +kernel
theorem dS_doOperation_1 : decode cS_doOperation 1 = .ok (.getfield 53, 3) := by decide +kernel
theorem dS_doOperation_4 : decode cS_doOperation 4 = .ok (.lookupswitch 44 #[(1, 28), (2, 36)], 28) := by decide +kernel
theorem dS_doOperation_32 : decode cS_doOperation 32 = .ok (.aload_n 0, 1) := by decide +kernel
theorem dS_doOperation_33 : decode cS_doOperation 33 = .ok (.aload_n 1, 1) := by decide +kernel
theorem dS_doOperation_34 : decode cS_doOperation 34 = .ok (.invokevirtual 203, 3) := by decide +kernel
theorem dS_doOperation_37 : decode cS_doOperation 37 = .ok (.goto 28, 3) := by decide +kernel
theorem dS_doOperation_40 : decode cS_doOperation 40 = .ok (.aload_n 0, 1) := by decide +kernel
theorem dS_doOperation_41 : decode cS_doOperation 41 = .ok (.aload_n 1, 1) := by decide +kernel
theorem dS_doOperation_42 : decode cS_doOperation 42 = .ok (.invokevirtual 206, 3) := by decide +kernel
theorem dS_doOperation_45 : decode cS_doOperation 45 = .ok (.goto 20, 3) := by decide +kernel
theorem dS_doOperation_48 : decode cS_doOperation 48 = .ok (.aload_n 0, 1) := by decide +kernel
theorem dS_doOperation_49 : decode cS_doOperation 49 = .ok (.aload_n 1, 1) := by decide +kernel
theorem dS_doOperation_50 : decode cS_doOperation 50 = .ok (.aload_n 1, 1) := by decide +kernel
theorem dS_doOperation_51 : decode cS_doOperation 51 = .ok (.getfield 190, 3) := by decide +kernel
theorem dS_doOperation_54 : decode cS_doOperation 54 = .ok (.ifCond .eq 7, 3) := by decide +kernel
theorem dS_doOperation_57 : decode cS_doOperation 57 = .ok (.iconst 1, 1) := by decide +kernel
theorem dS_doOperation_58 : decode cS_doOperation 58 = .ok (.goto 4, 3) := by decide +kernel
theorem dS_doOperation_61 : decode cS_doOperation 61 = .ok (.iconst 0, 1) := by decide +kernel
theorem dS_doOperation_62 : decode cS_doOperation 62 = .ok (.invokevirtual 209, 3) := by decide +kernel
theorem dS_doOperation_65 : decode cS_doOperation 65 = .ok (.return_, 1) := by decide +kernel
theorem dS_prepareInsert_0 : decode cS_prepareInsert 0 = .ok (.aload_n 1, 1) := by decide +kernel
theorem dS_prepareInsert_1 : decode cS_prepareInsert 1 = .ok (.getfield 190, 3) := by decide +kernel
theorem dS_prepareInsert_4 : decode cS_prepareInsert 4 = .ok (.ifCond .eq 15, 3) := by decide +kernel
theorem dS_prepareInsert_7 : decode cS_prepareInsert 7 = .ok (.aload_n 0, 1) := by decide +kernel
theorem dS_prepareInsert_8 : decode cS_prepareInsert 8 = .ok (.aload_n 1, 1) := by decide +kernel
theorem dS_prepareInsert_9 : decode cS_prepareInsert 9 = .ok (.invokevirtual 212, 3) := by decide +kernel
theorem dS_prepareInsert_12 : decode cS_prepareInsert 12 = .ok (.aload_n 0, 1) := by decide +kernel
theorem dS_prepareInsert_13 : decode cS_prepareInsert 13 = .ok (.aload_n 1, 1) := by decide +kernel
theorem dS_prepareInsert_14 : decode cS_prepareInsert 14 = .ok (.iconst 0, 1) := by decide +kernel
theorem dS_prepareInsert_15 : decode cS_prepareInsert 15 = .ok (.invokevirtual 209, 3) := by decide +kernel
theorem dS_prepareInsert_18 : decode cS_prepareInsert 18 = .ok (.return_, 1) := by decide +kernel
theorem dS_prepareInsert_19 : decode cS_prepareInsert 19 = .ok (.aload_n 1, 1) := by decide +kernel
theorem dS_prepareInsert_20 : decode cS_prepareInsert 20 = .ok (.getfield 83, 3) := by decide +kernel
theorem dS_prepareInsert_23 : decode cS_prepareInsert 23 = .ok (.ifCond .ne 11, 3) := by decide +kernel
theorem dS_prepareInsert_26 : decode cS_prepareInsert 26 = .ok (.aload_n 1, 1) := by decide +kernel
theorem dS_prepareInsert_27 : decode cS_prepareInsert 27 = .ok (.aload_n 0, 1) := by decide +kernel
theorem dS_prepareInsert_28 : decode cS_prepareInsert 28 = .ok (.invokevirtual 215, 3) := by decide +kernel
theorem dS_prepareInsert_31 : decode cS_prepareInsert 31 = .ok (.putfield 83, 3) := by decide +kernel
theorem dS_prepareInsert_34 : decode cS_prepareInsert 34 = .ok (.aload_n 1, 1) := by decide +kernel
theorem dS_prepareInsert_35 : decode cS_prepareInsert 35 = .ok (.getfield 83, 3) := by decide +kernel
theorem dS_prepareInsert_38 : decode cS_prepareInsert 38 = .ok (.ifCond .ne 10, 3) := by decide +kernel
theorem dS_prepareInsert_41 : decode cS_prepareInsert 41 = .ok (.aload_n 0, 1) := by decide +kernel
theorem dS_prepareInsert_42 : decode cS_prepareInsert 42 = .ok (.aload_n 1, 1) := by decide +kernel
theorem dS_prepareInsert_43 : decode cS_prepareInsert 43 = .ok (.iconst 2, 1) := by decide +kernel
theorem dS_prepareInsert_44 : decode cS_prepareInsert 44 = .ok (.invokevirtual 209, 3) := by decide +kernel
theorem dS_prepareInsert_47 : decode cS_prepareInsert 47 = .ok (.return_, 1) := by decide +kernel
theorem dS_prepareInsert_48 : decode cS_prepareInsert 48 = .ok (.aload_n 0, 1) := by decide +kernel
theorem dS_prepareInsert_49 : decode cS_prepareInsert 49 = .ok (.getfield 15, 3) := by decide +kernel
theorem dS_prepareInsert_52 : decode cS_prepareInsert 52 = .ok (.aload_n 1, 1) := by decide +kernel
theorem dS_prepareInsert_53 : decode cS_prepareInsert 53 = .ok (.getfield 83, 3) := by decide +kernel
theorem dS_prepareInsert_56 : decode cS_prepareInsert 56 = .ok (.aaload, 1) := by decide +kernel
theorem dS_prepareInsert_57 : decode cS_prepareInsert 57 = .ok (.astore_n 2, 1) := by decide +kernel
theorem dS_prepareInsert_58 : decode cS_prepareInsert 58 = .ok (.aload_n 2, 1) := by decide +kernel
theorem dS_prepareInsert_59 : decode cS_prepareInsert 59 = .ok (.aload_n 1, 1) := by decide +kernel
theorem dS_prepareInsert_60 : decode cS_prepareInsert 60 = .ok (.getfield 56, 3) := by decide +kernel
theorem dS_prepareInsert_63 : decode cS_prepareInsert 63 = .ok (.putfield 138, 3) := by decide +kernel
theorem dS_prepareInsert_66 : decode cS_prepareInsert 66 = .ok (.aload_n 2, 1) := by decide +kernel
theorem dS_prepareInsert_67 : decode cS_prepareInsert 67 = .ok (.aload_n 1, 1) := by decide +kernel
theorem dS_prepareInsert_68 : decode cS_prepareInsert 68 = .ok (.getfield 77, 3) := by decide +kernel
theorem dS_prepareInsert_71 : decode cS_prepareInsert 71 = .ok (.invokevirtual 219, 3) := by decide +kernel
theorem dS_prepareInsert_74 : decode cS_prepareInsert 74 = .ok (.aload_n 1, 1) := by decide +kernel
theorem dS_prepareInsert_75 : decode cS_prepareInsert 75 = .ok (.bipush 8, 2) := by decide +kernel
theorem dS_prepareInsert_77 : decode cS_prepareInsert 77 = .ok (.putfield 42, 3) := by decide +kernel
theorem dS_prepareInsert_80 : decode cS_prepareInsert 80 = .ok (.return_, 1) := by decide +kernel
theorem dS_markForRemoval_0 : decode cS_markForRemoval 0 = .ok (.aload_n 1, 1) := by decide +kernel
theorem dS_markForRemoval_1 : decode cS_markForRemoval 1 = .ok (.getfield 190, 3) := by decide +kernel
theorem dS_markForRemoval_4 : decode cS_markForRemoval 4 = .ok (.ifCond .ne 10, 3) := by decide +kernel
theorem dS_markForRemoval_7 : decode cS_markForRemoval 7 = .ok (.aload_n 0, 1) := by decide +kernel
theorem dS_markForRemoval_8 : decode cS_markForRemoval 8 = .ok (.aload_n 1, 1) := by decide +kernel
theorem dS_markForRemoval_9 : decode cS_markForRemoval 9 = .ok (.iconst 0, 1) := by decide +kernel
theorem dS_markForRemoval_10 : decode cS_markForRemoval 10 = .ok (.invokevirtual 209, 3) := by decide +kernel
theorem dS_markForRemoval_13 : decode cS_markForRemoval 13 = .ok (.return_, 1) := by decide +kernel
theorem dS_markForRemoval_14 : decode cS_markForRemoval 14 = .ok (.aload_n 0, 1) := by decide +kernel
theorem dS_markForRemoval_15 : decode cS_markForRemoval 15 = .ok (.aload_n 1, 1) := by decide +kernel
theorem dS_markForRemoval_16 : decode cS_markForRemoval 16 = .ok (.invokevirtual 193, 3) := by decide +kernel
theorem dS_markForRemoval_19 : decode cS_markForRemoval 19 = .ok (.aload_n 0, 1) := by decide +kernel
theorem dS_markForRemoval_20 : decode cS_markForRemoval 20 = .ok (.getfield 15, 3) := by decide +kernel
theorem dS_markForRemoval_23 : decode cS_markForRemoval 23 = .ok (.aload_n 1, 1) := by decide +kernel
theorem dS_markForRemoval_24 : decode cS_markForRemoval 24 = .ok (.getfield 77, 3) := by decide +kernel
theorem dS_markForRemoval_27 : decode cS_markForRemoval 27 = .ok (.aaload, 1) := by decide +kernel
theorem dS_markForRemoval_28 : decode cS_markForRemoval 28 = .ok (.astore_n 2, 1) := by decide +kernel
theorem dS_markForRemoval_29 : decode cS_markForRemoval 29 = .ok (.aload_n 2, 1) := by decide +kernel
theorem dS_markForRemoval_30 : decode cS_markForRemoval 30 = .ok (.aload_n 1, 1) := by decide +kernel
theorem dS_markForRemoval_31 : decode cS_markForRemoval 31 = .ok (.getfield 80, 3) := by decide +kernel
theorem dS_markForRemoval_34 : decode cS_markForRemoval 34 = .ok (.invokevirtual 186, 3) := by decide +kernel
theorem dS_markForRemoval_37 : decode cS_markForRemoval 37 = .ok (.ifCond .eq 17, 3) := by decide +kernel
theorem dS_markForRemoval_40 : decode cS_markForRemoval 40 = .ok (.aload_n 2, 1) := by decide +kernel
theorem dS_markForRemoval_41 : decode cS_markForRemoval 41 = .ok (.iconst 1, 1) := by decide +kernel
theorem dS_markForRemoval_42 : decode cS_markForRemoval 42 = .ok (.putfield 134, 3) := by decide +kernel
theorem dS_markForRemoval_45 : decode cS_markForRemoval 45 = .ok (.aload_n 1, 1) := by decide +kernel
theorem dS_markForRemoval_46 : decode cS_markForRemoval 46 = .ok (.bipush 10, 2) := by decide +kernel
theorem dS_markForRemoval_48 : decode cS_markForRemoval 48 = .ok (.putfield 42, 3) := by decide +kernel
theorem dS_markForRemoval_51 : decode cS_markForRemoval 51 = .ok (.goto 8, 3) := by decide +kernel
theorem dS_markForRemoval_54 : decode cS_markForRemoval 54 = .ok (.aload_n 1, 1) := by decide +kernel
theorem dS_markForRemoval_55 : decode cS_markForRemoval 55 = .ok (.iconst 2, 1) := by decide +kernel
theorem dS_markForRemoval_56 : decode cS_markForRemoval 56 = .ok (.putfield 42, 3) := by decide +kernel
theorem dS_markForRemoval_59 : decode cS_markForRemoval 59 = .ok (.return_, 1) := by decide +kernel
theorem dS_hangNewBlock_0 : decode cS_hangNewBlock 0 = .ok (.aload_n 0, 1) := by decide +kernel
theorem dS_hangNewBlock_1 : decode cS_hangNewBlock 1 = .ok (.aload_n 1, 1) := by decide +kernel
theorem dS_hangNewBlock_2 : decode cS_hangNewBlock 2 = .ok (.invokevirtual 183, 3) := by decide +kernel
theorem dS_hangNewBlock_5 : decode cS_hangNewBlock 5 = .ok (.aload_n 0, 1) := by decide +kernel
theorem dS_hangNewBlock_6 : decode cS_hangNewBlock 6 = .ok (.getfield 15, 3) := by decide +kernel
theorem dS_hangNewBlock_9 : decode cS_hangNewBlock 9 = .ok (.aload_n 1, 1) := by decide +kernel
theorem dS_hangNewBlock_10 : decode cS_hangNewBlock 10 = .ok (.getfield 74, 3) := by decide +kernel
theorem dS_hangNewBlock_13 : decode cS_hangNewBlock 13 = .ok (.aaload, 1) := by decide +kernel
theorem dS_hangNewBlock_14 : decode cS_hangNewBlock 14 = .ok (.astore_n 2, 1) := by decide +kernel
theorem dS_hangNewBlock_15 : decode cS_hangNewBlock 15 = .ok (.aload_n 2, 1) := by decide +kernel
theorem dS_hangNewBlock_16 : decode cS_hangNewBlock 16 = .ok (.aload_n 1, 1) := by decide +kernel
theorem dS_hangNewBlock_17 : decode cS_hangNewBlock 17 = .ok (.getfield 77, 3) := by decide +kernel
theorem dS_hangNewBlock_20 : decode cS_hangNewBlock 20 = .ok (.invokevirtual 186, 3) := by decide +kernel
theorem dS_hangNewBlock_23 : decode cS_hangNewBlock 23 = .ok (.ifCond .eq 20, 3) := by decide +kernel
theorem dS_hangNewBlock_26 : decode cS_hangNewBlock 26 = .ok (.aload_n 2, 1) := by decide +kernel
theorem dS_hangNewBlock_27 : decode cS_hangNewBlock 27 = .ok (.aload_n 1, 1) := by decide +kernel
theorem dS_hangNewBlock_28 : decode cS_hangNewBlock 28 = .ok (.getfield 83, 3) := by decide +kernel
theorem dS_hangNewBlock_31 : decode cS_hangNewBlock 31 = .ok (.invokevirtual 219, 3) := by decide +kernel
theorem dS_hangNewBlock_34 : decode cS_hangNewBlock 34 = .ok (.aload_n 0, 1) := by decide +kernel
theorem dS_hangNewBlock_35 : decode cS_hangNewBlock 35 = .ok (.aload_n 1, 1) := by decide +kernel
theorem dS_hangNewBlock_36 : decode cS_hangNewBlock 36 = .ok (.iconst 1, 1) := by decide +kernel
theorem dS_hangNewBlock_37 : decode cS_hangNewBlock 37 = .ok (.invokevirtual 209, 3) := by decide +kernel
theorem dS_hangNewBlock_40 : decode cS_hangNewBlock 40 = .ok (.goto 8, 3) := by decide +kernel
theorem dS_hangNewBlock_43 : decode cS_hangNewBlock 43 = .ok (.aload_n 1, 1) := by decide +kernel
theorem dS_hangNewBlock_44 : decode cS_hangNewBlock 44 = .ok (.iconst 2, 1) := by decide +kernel
theorem dS_hangNewBlock_45 : decode cS_hangNewBlock 45 = .ok (.putfield 42, 3) := by decide +kernel
theorem dS_hangNewBlock_48 : decode cS_hangNewBlock 48 = .ok (.return_, 1) := by decide +kernel
theorem dS_unhangHere_0 : decode cS_unhangHere 0 = .ok (.aload_n 0, 1) := by decide +kernel
theorem dS_unhangHere_1 : decode cS_unhangHere 1 = .ok (.aload_n 1, 1) := by decide +kernel
theorem dS_unhangHere_2 : decode cS_unhangHere 2 = .ok (.invokevirtual 199, 3) := by decide +kernel
theorem dS_unhangHere_5 : decode cS_unhangHere 5 = .ok (.pop, 1) := by decide +kernel
theorem dS_unhangHere_6 : decode cS_unhangHere 6 = .ok (.aload_n 0, 1) := by decide +kernel
theorem dS_unhangHere_7 : decode cS_unhangHere 7 = .ok (.aload_n 1, 1) := by decide +kernel
theorem dS_unhangHere_8 : decode cS_unhangHere 8 = .ok (.iconst 1, 1) := by decide +kernel
theorem dS_unhangHere_9 : decode cS_unhangHere 9 = .ok (.invokevirtual 209, 3) := by decide +kernel
theorem dS_unhangHere_12 : decode cS_unhangHere 12 = .ok (.return_, 1) := by decide +kernel
theorem dS_endWork_0 : decode cS_endWork 0 = .ok (.aload_n 1, 1) := by decide +kernel
theorem dS_endWork_1 : decode cS_endWork 1 = .ok (.iconst (-1), 1) := by decide +kernel
theorem dS_endWork_2 : decode cS_endWork 2 = .ok (.putfield 97, 3) := by decide +kernel
theorem dS_endWork_5 : decode cS_endWork 5 = .ok (.aload_n 1, 1) := by decide +kernel
theorem dS_endWork_6 : decode cS_endWork 6 = .ok (.iconst (-1), 1) := by decide +kernel
theorem dS_endWork_7 : decode cS_endWork 7 = .ok (.putfield 91, 3) := by decide +kernel
theorem dS_endWork_10 : decode cS_endWork 10 = .ok (.aload_n 1, 1) := by decide +kernel
theorem dS_endWork_11 : decode cS_endWork 11 = .ok (.iconst (-1), 1) := by decide +kernel
theorem dS_endWork_12 : decode cS_endWork 12 = .ok (.putfield 94, 3) := by decide +kernel
theorem dS_endWork_15 : decode cS_endWork 15 = .ok (.aload_n 1, 1) := by decide +kernel
theorem dS_endWork_16 : decode cS_endWork 16 = .ok (.aload_n 1, 1) := by decide +kernel
theorem dS_endWork_17 : decode cS_endWork 17 = .ok (.getfield 222, 3) := by decide +kernel
theorem dS_endWork_20 : decode cS_endWork 20 = .ok (.putfield 66, 3) := by decide +kernel
theorem dS_endWork_23 : decode cS_endWork 23 = .ok (.aload_n 1, 1) := by decide +kernel
theorem dS_endWork_24 : decode cS_endWork 24 = .ok (.iconst 0, 1) := by decide +kernel
theorem dS_endWork_25 : decode cS_endWork 25 = .ok (.putfield 42, 3) := by decide +kernel
theorem dS_endWork_28 : decode cS_endWork 28 = .ok (.return_, 1) := by decide +kernel
theorem dS_conclude_0 : decode cS_conclude 0 = .ok (.aload_n 1, 1) := by decide +kernel
theorem dS_conclude_1 : decode cS_conclude 1 = .ok (.iload_n 2, 1) := by decide +kernel
theorem dS_conclude_2 : decode cS_conclude 2 = .ok (.putfield 222, 3) := by decide +kernel
theorem dS_conclude_5 : decode cS_conclude 5 = .ok (.aload_n 1, 1) := by decide +kernel
theorem dS_conclude_6 : decode cS_conclude 6 = .ok (.bipush 9, 2) := by decide +kernel
theorem dS_conclude_8 : decode cS_conclude 8 = .ok (.putfield 42, 3) := by decide +kernel
theorem dS_conclude_11 : decode cS_conclude 11 = .ok (.return_, 1) := by decide +kernel
theorem dS_moveHereTo_0 : decode cS_moveHereTo 0 = .ok (.aload_n 1, 1) := by decide +kernel
theorem dS_moveHereTo_1 : decode cS_moveHereTo 1 = .ok (.iload_n 2, 1) := by decide +kernel
theorem dS_moveHereTo_2 : decode cS_moveHereTo 2 = .ok (.putfield 77, 3) := by decide +kernel
theorem dS_moveHereTo_5 : decode cS_moveHereTo 5 = .ok (.aload_n 1, 1) := by decide +kernel
theorem dS_moveHereTo_6 : decode cS_moveHereTo 6 = .ok (.aload_n 0, 1) := by decide +kernel
theorem dS_moveHereTo_7 : decode cS_moveHereTo 7 = .ok (.getfield 15, 3) := by decide +kernel
theorem dS_moveHereTo_10 : decode cS_moveHereTo 10 = .ok (.iload_n 2, 1) := by decide +kernel
theorem dS_moveHereTo_11 : decode cS_moveHereTo 11 = .ok (.aaload, 1) := by decide +kernel
theorem dS_moveHereTo_12 : decode cS_moveHereTo 12 = .ok (.getfield 225, 3) := by decide +kernel
theorem dS_moveHereTo_15 : decode cS_moveHereTo 15 = .ok (.putfield 196, 3) := by decide +kernel
theorem dS_moveHereTo_18 : decode cS_moveHereTo 18 = .ok (.aload_n 1, 1) := by decide +kernel
theorem dS_moveHereTo_19 : decode cS_moveHereTo 19 = .ok (.aload_n 0, 1) := by decide +kernel
theorem dS_moveHereTo_20 : decode cS_moveHereTo 20 = .ok (.getfield 9, 3) := by decide +kernel
theorem dS_moveHereTo_23 : decode cS_moveHereTo 23 = .ok (.iconst 1, 1) := by decide +kernel
theorem dS_moveHereTo_24 : decode cS_moveHereTo 24 = .ok (.if_icmp .ne 11, 3) := by decide +kernel
theorem dS_moveHereTo_27 : decode cS_moveHereTo 27 = .ok (.iload_n 2, 1) := by decide +kernel
theorem dS_moveHereTo_28 : decode cS_moveHereTo 28 = .ok (.ifCond .eq 7, 3) := by decide +kernel
theorem dS_moveHereTo_31 : decode cS_moveHereTo 31 = .ok (.iconst 3, 1) := by decide +kernel
theorem dS_moveHereTo_32 : decode cS_moveHereTo 32 = .ok (.goto 4, 3) := by decide +kernel
theorem dS_moveHereTo_35 : decode cS_moveHereTo 35 = .ok (.iconst 4, 1) := by decide +kernel
theorem dS_moveHereTo_36 : decode cS_moveHereTo 36 = .ok (.putfield 42, 3) := by decide +kernel
theorem dS_moveHereTo_39 : decode cS_moveHereTo 39 = .ok (.return_, 1) := by decide +kernel
theorem dS_takeOutHere_0 : decode cS_takeOutHere 0 = .ok (.aload_n 0, 1) := by decide +kernel
theorem dS_takeOutHere_1 : decode cS_takeOutHere 1 = .ok (.aload_n 1, 1) := by decide +kernel
theorem dS_takeOutHere_2 : decode cS_takeOutHere 2 = .ok (.invokevirtual 183, 3) := by decide +kernel
theorem dS_takeOutHere_5 : decode cS_takeOutHere 5 = .ok (.aload_n 0, 1) := by decide +kernel
theorem dS_takeOutHere_6 : decode cS_takeOutHere 6 = .ok (.getfield 15, 3) := by decide +kernel
theorem dS_takeOutHere_9 : decode cS_takeOutHere 9 = .ok (.aload_n 1, 1) := by decide +kernel
theorem dS_takeOutHere_10 : decode cS_takeOutHere 10 = .ok (.getfield 74, 3) := by decide +kernel
theorem dS_takeOutHere_13 : decode cS_takeOutHere 13 = .ok (.aaload, 1) := by decide +kernel
theorem dS_takeOutHere_14 : decode cS_takeOutHere 14 = .ok (.astore_n 2, 1) := by decide +kernel
theorem dS_takeOutHere_15 : decode cS_takeOutHere 15 = .ok (.aload_n 2, 1) := by decide +kernel
theorem dS_takeOutHere_16 : decode cS_takeOutHere 16 = .ok (.aload_n 1, 1) := by decide +kernel
theorem dS_takeOutHere_17 : decode cS_takeOutHere 17 = .ok (.getfield 77, 3) := by decide +kernel
theorem dS_takeOutHere_20 : decode cS_takeOutHere 20 = .ok (.invokevirtual 186, 3) := by decide +kernel
theorem dS_takeOutHere_23 : decode cS_takeOutHere 23 = .ok (.ifCond .ne 5, 3) := by decide +kernel
theorem dS_takeOutHere_26 : decode cS_takeOutHere 26 = .ok (.iconst 0, 1) := by decide +kernel
theorem dS_takeOutHere_27 : decode cS_takeOutHere 27 = .ok (.ireturn, 1) := by decide +kernel
theorem dS_takeOutHere_28 : decode cS_takeOutHere 28 = .ok (.aload_n 2, 1) := by decide +kernel
theorem dS_takeOutHere_29 : decode cS_takeOutHere 29 = .ok (.aload_n 1, 1) := by decide +kernel
theorem dS_takeOutHere_30 : decode cS_takeOutHere 30 = .ok (.getfield 80, 3) := by decide +kernel
theorem dS_takeOutHere_33 : decode cS_takeOutHere 33 = .ok (.invokevirtual 219, 3) := by decide +kernel
theorem dS_takeOutHere_36 : decode cS_takeOutHere 36 = .ok (.aload_n 0, 1) := by decide +kernel
theorem dS_takeOutHere_37 : decode cS_takeOutHere 37 = .ok (.aload_n 1, 1) := by decide +kernel
theorem dS_takeOutHere_38 : decode cS_takeOutHere 38 = .ok (.invokevirtual 228, 3) := by decide +kernel
theorem dS_takeOutHere_41 : decode cS_takeOutHere 41 = .ok (.iconst 1, 1) := by decide +kernel
theorem dS_takeOutHere_42 : decode cS_takeOutHere 42 = .ok (.ireturn, 1) := by decide +kernel
theorem dS_lookAtBack_0 : decode cS_lookAtBack 0 = .ok (.aload_n 1, 1) := by decide +kernel
theorem dS_lookAtBack_1 : decode cS_lookAtBack 1 = .ok (.getfield 74, 3) := by decide +kernel
theorem dS_lookAtBack_4 : decode cS_lookAtBack 4 = .ok (.ifCond .eq 20, 3) := by decide +kernel
theorem dS_lookAtBack_7 : decode cS_lookAtBack 7 = .ok (.aload_n 0, 1) := by decide +kernel
theorem dS_lookAtBack_8 : decode cS_lookAtBack 8 = .ok (.aload_n 0, 1) := by decide +kernel
theorem dS_lookAtBack_9 : decode cS_lookAtBack 9 = .ok (.getfield 15, 3) := by decide +kernel
theorem dS_lookAtBack_12 : decode cS_lookAtBack 12 = .ok (.aload_n 1, 1) := by decide +kernel
theorem dS_lookAtBack_13 : decode cS_lookAtBack 13 = .ok (.getfield 74, 3) := by decide +kernel
theorem dS_lookAtBack_16 : decode cS_lookAtBack 16 = .ok (.aaload, 1) := by decide +kernel
theorem dS_lookAtBack_17 : decode cS_lookAtBack 17 = .ok (.aload_n 1, 1) := by decide +kernel
theorem dS_lookAtBack_18 : decode cS_lookAtBack 18 = .ok (.getfield 176, 3) := by decide +kernel
theorem dS_lookAtBack_21 : decode cS_lookAtBack 21 = .ok (.invokevirtual 231, 3) := by decide +kernel
theorem dS_lookAtBack_24 : decode cS_lookAtBack 24 = .ok (.return_, 1) := by decide +kernel
theorem dS_lookAtHere_0 : decode cS_lookAtHere 0 = .ok (.aload_n 0, 1) := by decide +kernel
theorem dS_lookAtHere_1 : decode cS_lookAtHere 1 = .ok (.aload_n 0, 1) := by decide +kernel
theorem dS_lookAtHere_2 : decode cS_lookAtHere 2 = .ok (.getfield 15, 3) := by decide +kernel
theorem dS_lookAtHere_5 : decode cS_lookAtHere 5 = .ok (.aload_n 1, 1) := by decide +kernel
theorem dS_lookAtHere_6 : decode cS_lookAtHere 6 = .ok (.getfield 77, 3) := by decide +kernel
theorem dS_lookAtHere_9 : decode cS_lookAtHere 9 = .ok (.aaload, 1) := by decide +kernel
theorem dS_lookAtHere_10 : decode cS_lookAtHere 10 = .ok (.aload_n 1, 1) := by decide +kernel
theorem dS_lookAtHere_11 : decode cS_lookAtHere 11 = .ok (.getfield 196, 3) := by decide +kernel
theorem dS_lookAtHere_14 : decode cS_lookAtHere 14 = .ok (.invokevirtual 231, 3) := by decide +kernel
theorem dS_lookAtHere_17 : decode cS_lookAtHere 17 = .ok (.return_, 1) := by decide +kernel
theorem dS_countFault_0 : decode cS_countFault 0 = .ok (.aload_n 1, 1) := by decide +kernel
theorem dS_countFault_1 : decode cS_countFault 1 = .ok (.getfield 235, 3) := by decide +kernel
theorem dS_countFault_4 : decode cS_countFault 4 = .ok (.ifCond .eq 11, 3) := by decide +kernel
theorem dS_countFault_7 : decode cS_countFault 7 = .ok (.aload_n 1, 1) := by decide +kernel
theorem dS_countFault_8 : decode cS_countFault 8 = .ok (.getfield 225, 3) := by decide +kernel
theorem dS_countFault_11 : decode cS_countFault 11 = .ok (.iload_n 2, 1) := by decide +kernel
theorem dS_countFault_12 : decode cS_countFault 12 = .ok (.if_icmp .eq 13, 3) := by decide +kernel
theorem dS_countFault_15 : decode cS_countFault 15 = .ok (.aload_n 0, 1) := by decide +kernel
theorem dS_countFault_16 : decode cS_countFault 16 = .ok (.dup, 1) := by decide +kernel
theorem dS_countFault_17 : decode cS_countFault 17 = .ok (.getfield 139, 3) := by decide +kernel
theorem dS_countFault_20 : decode cS_countFault 20 = .ok (.iconst 1, 1) := by decide +kernel
theorem dS_countFault_21 : decode cS_countFault 21 = .ok (.iadd, 1) := by decide +kernel
theorem dS_countFault_22 : decode cS_countFault 22 = .ok (.putfield 139, 3) := by decide +kernel
theorem dS_countFault_25 : decode cS_countFault 25 = .ok (.return_, 1) := by decide +kernel
theorem dS_takeFreeBlock_0 : decode cS_takeFreeBlock 0 = .ok (.iconst 1, 1) := by decide +kernel
theorem dS_takeFreeBlock_1 : decode cS_takeFreeBlock 1 = .ok (.istore_n 1, 1) := by decide +kernel
theorem dS_takeFreeBlock_2 : decode cS_takeFreeBlock 2 = .ok (.iload_n 1, 1) := by decide +kernel
end
section
theorem dS_takeFreeBlock_3 : decode cS_takeFreeBlock 3 = .ok (.bipush 20, 2) := by decide +kernel
theorem dS_takeFreeBlock_5 : decode cS_takeFreeBlock 5 = .ok (.if_icmp .gt 48, 3) := by decide +kernel
theorem dS_takeFreeBlock_8 : decode cS_takeFreeBlock 8 = .ok (.aload_n 0, 1) := by decide +kernel
theorem dS_takeFreeBlock_9 : decode cS_takeFreeBlock 9 = .ok (.getfield 15, 3) := by decide +kernel
theorem dS_takeFreeBlock_12 : decode cS_takeFreeBlock 12 = .ok (.iload_n 1, 1) := by decide +kernel
theorem dS_takeFreeBlock_13 : decode cS_takeFreeBlock 13 = .ok (.aaload, 1) := by decide +kernel
theorem dS_takeFreeBlock_14 : decode cS_takeFreeBlock 14 = .ok (.getfield 235, 3) := by decide +kernel
theorem dS_takeFreeBlock_17 : decode cS_takeFreeBlock 17 = .ok (.ifCond .ne 30, 3) := by decide +kernel
theorem dS_takeFreeBlock_20 : decode cS_takeFreeBlock 20 = .ok (.aload_n 0, 1) := by decide +kernel
theorem dS_takeFreeBlock_21 : decode cS_takeFreeBlock 21 = .ok (.getfield 15, 3) := by decide +kernel
theorem dS_takeFreeBlock_24 : decode cS_takeFreeBlock 24 = .ok (.iload_n 1, 1) := by decide +kernel
theorem dS_takeFreeBlock_25 : decode cS_takeFreeBlock 25 = .ok (.aaload, 1) := by decide +kernel
theorem dS_takeFreeBlock_26 : decode cS_takeFreeBlock 26 = .ok (.iconst 1, 1) := by decide +kernel
theorem dS_takeFreeBlock_27 : decode cS_takeFreeBlock 27 = .ok (.putfield 235, 3) := by decide +kernel
theorem dS_takeFreeBlock_30 : decode cS_takeFreeBlock 30 = .ok (.aload_n 0, 1) := by decide +kernel
theorem dS_takeFreeBlock_31 : decode cS_takeFreeBlock 31 = .ok (.getfield 15, 3) := by decide +kernel
theorem dS_takeFreeBlock_34 : decode cS_takeFreeBlock 34 = .ok (.iload_n 1, 1) := by decide +kernel
theorem dS_takeFreeBlock_35 : decode cS_takeFreeBlock 35 = .ok (.aaload, 1) := by decide +kernel
theorem dS_takeFreeBlock_36 : decode cS_takeFreeBlock 36 = .ok (.dup, 1) := by decide +kernel
theorem dS_takeFreeBlock_37 : decode cS_takeFreeBlock 37 = .ok (.getfield 225, 3) := by decide +kernel
theorem dS_takeFreeBlock_40 : decode cS_takeFreeBlock 40 = .ok (.iconst 1, 1) := by decide +kernel
theorem dS_takeFreeBlock_41 : decode cS_takeFreeBlock 41 = .ok (.iadd, 1) := by decide +kernel
theorem dS_takeFreeBlock_42 : decode cS_takeFreeBlock 42 = .ok (.putfield 225, 3) := by decide +kernel
theorem dS_takeFreeBlock_45 : decode cS_takeFreeBlock 45 = .ok (.iload_n 1, 1) := by decide +kernel
theorem dS_takeFreeBlock_46 : decode cS_takeFreeBlock 46 = .ok (.ireturn, 1) := by decide +kernel
theorem dS_takeFreeBlock_47 : decode cS_takeFreeBlock 47 = .ok (.iinc 1 1, 3) := by decide +kernel
theorem dS_takeFreeBlock_50 : decode cS_takeFreeBlock 50 = .ok (.goto (-48), 3) := by decide +kernel
theorem dS_takeFreeBlock_53 : decode cS_takeFreeBlock 53 = .ok (.iconst 0, 1) := by decide +kernel
theorem dS_takeFreeBlock_54 : decode cS_takeFreeBlock 54 = .ok (.ireturn, 1) := by decide +kernel
theorem dS_giveNewBlockBack_0 : decode cS_giveNewBlockBack 0 = .ok (.aload_n 1, 1) := by decide +kernel
theorem dS_giveNewBlockBack_1 : decode cS_giveNewBlockBack 1 = .ok (.getfield 83, 3) := by decide +kernel
theorem dS_giveNewBlockBack_4 : decode cS_giveNewBlockBack 4 = .ok (.ifCond .eq 20, 3) := by decide +kernel
theorem dS_giveNewBlockBack_7 : decode cS_giveNewBlockBack 7 = .ok (.aload_n 0, 1) := by decide +kernel
theorem dS_giveNewBlockBack_8 : decode cS_giveNewBlockBack 8 = .ok (.getfield 15, 3) := by decide +kernel
theorem dS_giveNewBlockBack_11 : decode cS_giveNewBlockBack 11 = .ok (.aload_n 1, 1) := by decide +kernel
theorem dS_giveNewBlockBack_12 : decode cS_giveNewBlockBack 12 = .ok (.getfield 83, 3) := by decide +kernel
theorem dS_giveNewBlockBack_15 : decode cS_giveNewBlockBack 15 = .ok (.aaload, 1) := by decide +kernel
theorem dS_giveNewBlockBack_16 : decode cS_giveNewBlockBack 16 = .ok (.invokevirtual 238, 3) := by decide +kernel
theorem dS_giveNewBlockBack_19 : decode cS_giveNewBlockBack 19 = .ok (.aload_n 1, 1) := by decide +kernel
theorem dS_giveNewBlockBack_20 : decode cS_giveNewBlockBack 20 = .ok (.iconst 0, 1) := by decide +kernel
theorem dS_giveNewBlockBack_21 : decode cS_giveNewBlockBack 21 = .ok (.putfield 83, 3) := by decide +kernel
theorem dS_giveNewBlockBack_24 : decode cS_giveNewBlockBack 24 = .ok (.return_, 1) := by decide +kernel
theorem dS_retireHere_0 : decode cS_retireHere 0 = .ok (.aload_n 0, 1) := by decide +kernel
theorem dS_retireHere_1 : decode cS_retireHere 1 = .ok (.getfield 15, 3) := by decide +kernel
theorem dS_retireHere_4 : decode cS_retireHere 4 = .ok (.aload_n 1, 1) := by decide +kernel
theorem dS_retireHere_5 : decode cS_retireHere 5 = .ok (.getfield 77, 3) := by decide +kernel
theorem dS_retireHere_8 : decode cS_retireHere 8 = .ok (.aaload, 1) := by decide +kernel
theorem dS_retireHere_9 : decode cS_retireHere 9 = .ok (.astore_n 2, 1) := by decide +kernel
theorem dS_retireHere_10 : decode cS_retireHere 10 = .ok (.aload_n 0, 1) := by decide +kernel
theorem dS_retireHere_11 : decode cS_retireHere 11 = .ok (.getfield 9, 3) := by decide +kernel
theorem dS_retireHere_14 : decode cS_retireHere 14 = .ok (.iconst 2, 1) := by decide +kernel
theorem dS_retireHere_15 : decode cS_retireHere 15 = .ok (.if_icmp .ne 10, 3) := by decide +kernel
theorem dS_retireHere_18 : decode cS_retireHere 18 = .ok (.aload_n 2, 1) := by decide +kernel
theorem dS_retireHere_19 : decode cS_retireHere 19 = .ok (.invokevirtual 238, 3) := by decide +kernel
theorem dS_retireHere_22 : decode cS_retireHere 22 = .ok (.goto 44, 3) := by decide +kernel
theorem dS_retireHere_25 : decode cS_retireHere 25 = .ok (.aload_n 0, 1) := by decide +kernel
theorem dS_retireHere_26 : decode cS_retireHere 26 = .ok (.getfield 9, 3) := by decide +kernel
theorem dS_retireHere_29 : decode cS_retireHere 29 = .ok (.ifCond .ne 14, 3) := by decide +kernel
theorem dS_retireHere_32 : decode cS_retireHere 32 = .ok (.aload_n 2, 1) := by decide +kernel
theorem dS_retireHere_33 : decode cS_retireHere 33 = .ok (.aload_n 0, 1) := by decide +kernel
theorem dS_retireHere_34 : decode cS_retireHere 34 = .ok (.getfield 111, 3) := by decide +kernel
theorem dS_retireHere_37 : decode cS_retireHere 37 = .ok (.invokevirtual 241, 3) := by decide +kernel
theorem dS_retireHere_40 : decode cS_retireHere 40 = .ok (.goto 26, 3) := by decide +kernel
theorem dS_retireHere_43 : decode cS_retireHere 43 = .ok (.aload_n 2, 1) := by decide +kernel
theorem dS_retireHere_44 : decode cS_retireHere 44 = .ok (.aload_n 1, 1) := by decide +kernel
theorem dS_retireHere_45 : decode cS_retireHere 45 = .ok (.getfield 244, 3) := by decide +kernel
theorem dS_retireHere_48 : decode cS_retireHere 48 = .ok (.invokevirtual 241, 3) := by decide +kernel
theorem dS_retireHere_51 : decode cS_retireHere 51 = .ok (.aload_n 0, 1) := by decide +kernel
theorem dS_retireHere_52 : decode cS_retireHere 52 = .ok (.aload_n 1, 1) := by decide +kernel
theorem dS_retireHere_53 : decode cS_retireHere 53 = .ok (.invokevirtual 247, 3) := by decide +kernel
theorem dS_retireHere_56 : decode cS_retireHere 56 = .ok (.iconst 4, 1) := by decide +kernel
theorem dS_retireHere_57 : decode cS_retireHere 57 = .ok (.if_icmp .lt 9, 3) := by decide +kernel
theorem dS_retireHere_60 : decode cS_retireHere 60 = .ok (.aload_n 0, 1) := by decide +kernel
theorem dS_retireHere_61 : decode cS_retireHere 61 = .ok (.aload_n 1, 1) := by decide +kernel
theorem dS_retireHere_62 : decode cS_retireHere 62 = .ok (.invokevirtual 119, 3) := by decide +kernel
theorem dS_retireHere_65 : decode cS_retireHere 65 = .ok (.pop, 1) := by decide +kernel
theorem dS_retireHere_66 : decode cS_retireHere 66 = .ok (.return_, 1) := by decide +kernel
theorem dS_allAnnounceCurrentEpoch_0 : decode cS_allAnnounceCurrentEpoch 0 = .ok (.iconst 0, 1) := by decide +kernel
theorem dS_allAnnounceCurrentEpoch_1 : decode cS_allAnnounceCurrentEpoch 1 = .ok (.istore_n 1, 1) := by decide +kernel
theorem dS_allAnnounceCurrentEpoch_2 : decode cS_allAnnounceCurrentEpoch 2 = .ok (.iload_n 1, 1) := by decide +kernel
theorem dS_allAnnounceCurrentEpoch_3 : decode cS_allAnnounceCurrentEpoch 3 = .ok (.iconst 4, 1) := by decide +kernel
theorem dS_allAnnounceCurrentEpoch_4 : decode cS_allAnnounceCurrentEpoch 4 = .ok (.if_icmp .ge 34, 3) := by decide +kernel
theorem dS_allAnnounceCurrentEpoch_7 : decode cS_allAnnounceCurrentEpoch 7 = .ok (.aload_n 0, 1) := by decide +kernel
theorem dS_allAnnounceCurrentEpoch_8 : decode cS_allAnnounceCurrentEpoch 8 = .ok (.getfield 22, 3) := by decide +kernel
theorem dS_allAnnounceCurrentEpoch_11 : decode cS_allAnnounceCurrentEpoch 11 = .ok (.iload_n 1, 1) := by decide +kernel
theorem dS_allAnnounceCurrentEpoch_12 : decode cS_allAnnounceCurrentEpoch 12 = .ok (.aaload, 1) := by decide +kernel
theorem dS_allAnnounceCurrentEpoch_13 : decode cS_allAnnounceCurrentEpoch 13 = .ok (.getfield 97, 3) := by decide +kernel
theorem dS_allAnnounceCurrentEpoch_16 : decode cS_allAnnounceCurrentEpoch 16 = .ok (.istore_n 2, 1) := by decide +kernel
theorem dS_allAnnounceCurrentEpoch_17 : decode cS_allAnnounceCurrentEpoch 17 = .ok (.iload_n 2, 1) := by decide +kernel
theorem dS_allAnnounceCurrentEpoch_18 : decode cS_allAnnounceCurrentEpoch 18 = .ok (.iconst (-1), 1) := by decide +kernel
theorem dS_allAnnounceCurrentEpoch_19 : decode cS_allAnnounceCurrentEpoch 19 = .ok (.if_icmp .eq 13, 3) := by decide +kernel
theorem dS_allAnnounceCurrentEpoch_22 : decode cS_allAnnounceCurrentEpoch 22 = .ok (.iload_n 2, 1) := by decide +kernel
theorem dS_allAnnounceCurrentEpoch_23 : decode cS_allAnnounceCurrentEpoch 23 = .ok (.aload_n 0, 1) := by decide +kernel
theorem dS_allAnnounceCurrentEpoch_24 : decode cS_allAnnounceCurrentEpoch 24 = .ok (.getfield 111, 3) := by decide +kernel
theorem dS_allAnnounceCurrentEpoch_27 : decode cS_allAnnounceCurrentEpoch 27 = .ok (.if_icmp .eq 5, 3) := by decide +kernel
theorem dS_allAnnounceCurrentEpoch_30 : decode cS_allAnnounceCurrentEpoch 30 = .ok (.iconst 0, 1) := by decide +kernel
theorem dS_allAnnounceCurrentEpoch_31 : decode cS_allAnnounceCurrentEpoch 31 = .ok (.ireturn, 1) := by decide +kernel
theorem dS_allAnnounceCurrentEpoch_32 : decode cS_allAnnounceCurrentEpoch 32 = .ok (.iinc 1 1, 3) := by decide +kernel
theorem dS_allAnnounceCurrentEpoch_35 : decode cS_allAnnounceCurrentEpoch 35 = .ok (.goto (-33), 3) := by decide +kernel
theorem dS_allAnnounceCurrentEpoch_38 : decode cS_allAnnounceCurrentEpoch 38 = .ok (.iconst 1, 1) := by decide +kernel
theorem dS_allAnnounceCurrentEpoch_39 : decode cS_allAnnounceCurrentEpoch 39 = .ok (.ireturn, 1) := by decide +kernel
theorem dS_freeOldEpochs_0 : decode cS_freeOldEpochs 0 = .ok (.iconst 1, 1) := by decide +kernel
theorem dS_freeOldEpochs_1 : decode cS_freeOldEpochs 1 = .ok (.istore_n 1, 1) := by decide +kernel
theorem dS_freeOldEpochs_2 : decode cS_freeOldEpochs 2 = .ok (.iload_n 1, 1) := by decide +kernel
theorem dS_freeOldEpochs_3 : decode cS_freeOldEpochs 3 = .ok (.bipush 20, 2) := by decide +kernel
theorem dS_freeOldEpochs_5 : decode cS_freeOldEpochs 5 = .ok (.if_icmp .gt 41, 3) := by decide +kernel
theorem dS_freeOldEpochs_8 : decode cS_freeOldEpochs 8 = .ok (.aload_n 0, 1) := by decide +kernel
theorem dS_freeOldEpochs_9 : decode cS_freeOldEpochs 9 = .ok (.getfield 15, 3) := by decide +kernel
theorem dS_freeOldEpochs_12 : decode cS_freeOldEpochs 12 = .ok (.iload_n 1, 1) := by decide +kernel
theorem dS_freeOldEpochs_13 : decode cS_freeOldEpochs 13 = .ok (.aaload, 1) := by decide +kernel
theorem dS_freeOldEpochs_14 : decode cS_freeOldEpochs 14 = .ok (.astore_n 2, 1) := by decide +kernel
theorem dS_freeOldEpochs_15 : decode cS_freeOldEpochs 15 = .ok (.aload_n 2, 1) := by decide +kernel
theorem dS_freeOldEpochs_16 : decode cS_freeOldEpochs 16 = .ok (.getfield 235, 3) := by decide +kernel
theorem dS_freeOldEpochs_19 : decode cS_freeOldEpochs 19 = .ok (.iconst 2, 1) := by decide +kernel
theorem dS_freeOldEpochs_20 : decode cS_freeOldEpochs 20 = .ok (.if_icmp .ne 20, 3) := by decide +kernel
theorem dS_freeOldEpochs_23 : decode cS_freeOldEpochs 23 = .ok (.aload_n 2, 1) := by decide +kernel
theorem dS_freeOldEpochs_24 : decode cS_freeOldEpochs 24 = .ok (.getfield 250, 3) := by decide +kernel
theorem dS_freeOldEpochs_27 : decode cS_freeOldEpochs 27 = .ok (.aload_n 0, 1) := by decide +kernel
theorem dS_freeOldEpochs_28 : decode cS_freeOldEpochs 28 = .ok (.getfield 111, 3) := by decide +kernel
theorem dS_freeOldEpochs_31 : decode cS_freeOldEpochs 31 = .ok (.iconst 2, 1) := by decide +kernel
theorem dS_freeOldEpochs_32 : decode cS_freeOldEpochs 32 = .ok (.isub, 1) := by decide +kernel
theorem dS_freeOldEpochs_33 : decode cS_freeOldEpochs 33 = .ok (.if_icmp .gt 7, 3) := by decide +kernel
theorem dS_freeOldEpochs_36 : decode cS_freeOldEpochs 36 = .ok (.aload_n 2, 1) := by decide +kernel
theorem dS_freeOldEpochs_37 : decode cS_freeOldEpochs 37 = .ok (.invokevirtual 238, 3) := by decide +kernel
theorem dS_freeOldEpochs_40 : decode cS_freeOldEpochs 40 = .ok (.iinc 1 1, 3) := by decide +kernel
theorem dS_freeOldEpochs_43 : decode cS_freeOldEpochs 43 = .ok (.goto (-41), 3) := by decide +kernel
theorem dS_freeOldEpochs_46 : decode cS_freeOldEpochs 46 = .ok (.return_, 1) := by decide +kernel
theorem dS_countRetiredBy_0 : decode cS_countRetiredBy 0 = .ok (.iconst 0, 1) := by decide +kernel
theorem dS_countRetiredBy_1 : decode cS_countRetiredBy 1 = .ok (.istore_n 2, 1) := by decide +kernel
theorem dS_countRetiredBy_2 : decode cS_countRetiredBy 2 = .ok (.iconst 1, 1) := by decide +kernel
theorem dS_countRetiredBy_3 : decode cS_countRetiredBy 3 = .ok (.istore_n 3, 1) := by decide +kernel
theorem dS_countRetiredBy_4 : decode cS_countRetiredBy 4 = .ok (.iload_n 3, 1) := by decide +kernel
theorem dS_countRetiredBy_5 : decode cS_countRetiredBy 5 = .ok (.bipush 20, 2) := by decide +kernel
theorem dS_countRetiredBy_7 : decode cS_countRetiredBy 7 = .ok (.if_icmp .gt 21, 3) := by decide +kernel
theorem dS_countRetiredBy_10 : decode cS_countRetiredBy 10 = .ok (.aload_n 0, 1) := by decide +kernel
theorem dS_countRetiredBy_11 : decode cS_countRetiredBy 11 = .ok (.aload_n 1, 1) := by decide +kernel
theorem dS_countRetiredBy_12 : decode cS_countRetiredBy 12 = .ok (.iload_n 3, 1) := by decide +kernel
theorem dS_countRetiredBy_13 : decode cS_countRetiredBy 13 = .ok (.invokevirtual 253, 3) := by decide +kernel
theorem dS_countRetiredBy_16 : decode cS_countRetiredBy 16 = .ok (.ifCond .eq 6, 3) := by decide +kernel
theorem dS_countRetiredBy_19 : decode cS_countRetiredBy 19 = .ok (.iinc 2 1, 3) := by decide +kernel
theorem dS_countRetiredBy_22 : decode cS_countRetiredBy 22 = .ok (.iinc 3 1, 3) := by decide +kernel
theorem dS_countRetiredBy_25 : decode cS_countRetiredBy 25 = .ok (.goto (-21), 3) := by decide +kernel
theorem dS_countRetiredBy_28 : decode cS_countRetiredBy 28 = .ok (.iload_n 2, 1) := by decide +kernel
theorem dS_countRetiredBy_29 : decode cS_countRetiredBy 29 = .ok (.ireturn, 1) := by decide +kernel
theorem dS_freeUnnamed_0 : decode cS_freeUnnamed 0 = .ok (.iconst 0, 1) := by decide +kernel
theorem dS_freeUnnamed_1 : decode cS_freeUnnamed 1 = .ok (.istore_n 2, 1) := by decide +kernel
theorem dS_freeUnnamed_2 : decode cS_freeUnnamed 2 = .ok (.iconst 1, 1) := by decide +kernel
theorem dS_freeUnnamed_3 : decode cS_freeUnnamed 3 = .ok (.istore_n 3, 1) := by decide +kernel
theorem dS_freeUnnamed_4 : decode cS_freeUnnamed 4 = .ok (.iload_n 3, 1) := by decide +kernel
theorem dS_freeUnnamed_5 : decode cS_freeUnnamed 5 = .ok (.bipush 20, 2) := by decide +kernel
theorem dS_freeUnnamed_7 : decode cS_freeUnnamed 7 = .ok (.if_icmp .gt 38, 3) := by decide +kernel
theorem dS_freeUnnamed_10 : decode cS_freeUnnamed 10 = .ok (.aload_n 0, 1) := by decide +kernel
theorem dS_freeUnnamed_11 : decode cS_freeUnnamed 11 = .ok (.aload_n 1, 1) := by decide +kernel
theorem dS_freeUnnamed_12 : decode cS_freeUnnamed 12 = .ok (.iload_n 3, 1) := by decide +kernel
theorem dS_freeUnnamed_13 : decode cS_freeUnnamed 13 = .ok (.invokevirtual 253, 3) := by decide +kernel
theorem dS_freeUnnamed_16 : decode cS_freeUnnamed 16 = .ok (.ifCond .eq 23, 3) := by decide +kernel
theorem dS_freeUnnamed_19 : decode cS_freeUnnamed 19 = .ok (.aload_n 0, 1) := by decide +kernel
theorem dS_freeUnnamed_20 : decode cS_freeUnnamed 20 = .ok (.iload_n 3, 1) := by decide +kernel
theorem dS_freeUnnamed_21 : decode cS_freeUnnamed 21 = .ok (.invokevirtual 257, 3) := by decide +kernel
theorem dS_freeUnnamed_24 : decode cS_freeUnnamed 24 = .ok (.ifCond .ne 15, 3) := by decide +kernel
theorem dS_freeUnnamed_27 : decode cS_freeUnnamed 27 = .ok (.aload_n 0, 1) := by decide +kernel
theorem dS_freeUnnamed_28 : decode cS_freeUnnamed 28 = .ok (.getfield 15, 3) := by decide +kernel
theorem dS_freeUnnamed_31 : decode cS_freeUnnamed 31 = .ok (.iload_n 3, 1) := by decide +kernel
theorem dS_freeUnnamed_32 : decode cS_freeUnnamed 32 = .ok (.aaload, 1) := by decide +kernel
theorem dS_freeUnnamed_33 : decode cS_freeUnnamed 33 = .ok (.invokevirtual 238, 3) := by decide +kernel
theorem dS_freeUnnamed_36 : decode cS_freeUnnamed 36 = .ok (.iinc 2 1, 3) := by decide +kernel
theorem dS_freeUnnamed_39 : decode cS_freeUnnamed 39 = .ok (.iinc 3 1, 3) := by decide +kernel
theorem dS_freeUnnamed_42 : decode cS_freeUnnamed 42 = .ok (.goto (-38), 3) := by decide +kernel
theorem dS_freeUnnamed_45 : decode cS_freeUnnamed 45 = .ok (.iload_n 2, 1) := by decide +kernel
theorem dS_freeUnnamed_46 : decode cS_freeUnnamed 46 = .ok (.ireturn, 1) := by decide +kernel
theorem dS_isRetiredBy_0 : decode cS_isRetiredBy 0 = .ok (.aload_n 0, 1) := by decide +kernel
theorem dS_isRetiredBy_1 : decode cS_isRetiredBy 1 = .ok (.getfield 15, 3) := by decide +kernel
theorem dS_isRetiredBy_4 : decode cS_isRetiredBy 4 = .ok (.iload_n 2, 1) := by decide +kernel
theorem dS_isRetiredBy_5 : decode cS_isRetiredBy 5 = .ok (.aaload, 1) := by decide +kernel
theorem dS_isRetiredBy_6 : decode cS_isRetiredBy 6 = .ok (.getfield 235, 3) := by decide +kernel
theorem dS_isRetiredBy_9 : decode cS_isRetiredBy 9 = .ok (.iconst 2, 1) := by decide +kernel
theorem dS_isRetiredBy_10 : decode cS_isRetiredBy 10 = .ok (.if_icmp .ne 23, 3) := by decide +kernel
theorem dS_isRetiredBy_13 : decode cS_isRetiredBy 13 = .ok (.aload_n 0, 1) := by decide +kernel
theorem dS_isRetiredBy_14 : decode cS_isRetiredBy 14 = .ok (.getfield 15, 3) := by decide +kernel
theorem dS_isRetiredBy_17 : decode cS_isRetiredBy 17 = .ok (.iload_n 2, 1) := by decide +kernel
theorem dS_isRetiredBy_18 : decode cS_isRetiredBy 18 = .ok (.aaload, 1) := by decide +kernel
theorem dS_isRetiredBy_19 : decode cS_isRetiredBy 19 = .ok (.getfield 250, 3) := by decide +kernel
theorem dS_isRetiredBy_22 : decode cS_isRetiredBy 22 = .ok (.aload_n 1, 1) := by decide +kernel
theorem dS_isRetiredBy_23 : decode cS_isRetiredBy 23 = .ok (.getfield 244, 3) := by decide +kernel
theorem dS_isRetiredBy_26 : decode cS_isRetiredBy 26 = .ok (.if_icmp .ne 7, 3) := by decide +kernel
theorem dS_isRetiredBy_29 : decode cS_isRetiredBy 29 = .ok (.iconst 1, 1) := by decide +kernel
theorem dS_isRetiredBy_30 : decode cS_isRetiredBy 30 = .ok (.goto 4, 3) := by decide +kernel
theorem dS_isRetiredBy_33 : decode cS_isRetiredBy 33 = .ok (.iconst 0, 1) := by decide +kernel
theorem dS_isRetiredBy_34 : decode cS_isRetiredBy 34 = .ok (.ireturn, 1) := by decide +kernel
theorem dS_isNamed_0 : decode cS_isNamed 0 = .ok (.iconst 0, 1) := by decide +kernel
theorem dS_isNamed_1 : decode cS_isNamed 1 = .ok (.istore_n 2, 1) := by decide +kernel
theorem dS_isNamed_2 : decode cS_isNamed 2 = .ok (.iload_n 2, 1) := by decide +kernel
theorem dS_isNamed_3 : decode cS_isNamed 3 = .ok (.iconst 4, 1) := by decide +kernel
theorem dS_isNamed_4 : decode cS_isNamed 4 = .ok (.if_icmp .ge 37, 3) := by decide +kernel
theorem dS_isNamed_7 : decode cS_isNamed 7 = .ok (.aload_n 0, 1) := by decide +kernel
theorem dS_isNamed_8 : decode cS_isNamed 8 = .ok (.getfield 22, 3) := by decide +kernel
theorem dS_isNamed_11 : decode cS_isNamed 11 = .ok (.iload_n 2, 1) := by decide +kernel
theorem dS_isNamed_12 : decode cS_isNamed 12 = .ok (.aaload, 1) := by decide +kernel
theorem dS_isNamed_13 : decode cS_isNamed 13 = .ok (.getfield 91, 3) := by decide +kernel
theorem dS_isNamed_16 : decode cS_isNamed 16 = .ok (.iload_n 1, 1) := by decide +kernel
theorem dS_isNamed_17 : decode cS_isNamed 17 = .ok (.if_icmp .eq 16, 3) := by decide +kernel
theorem dS_isNamed_20 : decode cS_isNamed 20 = .ok (.aload_n 0, 1) := by decide +kernel
theorem dS_isNamed_21 : decode cS_isNamed 21 = .ok (.getfield 22, 3) := by decide +kernel
theorem dS_isNamed_24 : decode cS_isNamed 24 = .ok (.iload_n 2, 1) := by decide +kernel
theorem dS_isNamed_25 : decode cS_isNamed 25 = .ok (.aaload, 1) := by decide +kernel
theorem dS_isNamed_26 : decode cS_isNamed 26 = .ok (.getfield 94, 3) := by decide +kernel
theorem dS_isNamed_29 : decode cS_isNamed 29 = .ok (.iload_n 1, 1) := by decide +kernel
theorem dS_isNamed_30 : decode cS_isNamed 30 = .ok (.if_icmp .ne 5, 3) := by decide +kernel
theorem dS_isNamed_33 : decode cS_isNamed 33 = .ok (.iconst 1, 1) := by decide +kernel
theorem dS_isNamed_34 : decode cS_isNamed 34 = .ok (.ireturn, 1) := by decide +kernel
theorem dS_isNamed_35 : decode cS_isNamed 35 = .ok (.iinc 2 1, 3) := by decide +kernel
theorem dS_isNamed_38 : decode cS_isNamed 38 = .ok (.goto (-36), 3) := by decide +kernel
theorem dS_isNamed_41 : decode cS_isNamed 41 = .ok (.iconst 0, 1) := by decide +kernel
theorem dS_isNamed_42 : decode cS_isNamed 42 = .ok (.ireturn, 1) := by decide +kernel
end
section
theorem flB_9 : FL RB 9 RB "state" "I" := Or.inl (WSg_in (List.mem_of_getElem? (i := 86) (by decide +kernel)) rfl)
theorem flS_235 : FL RS 235 RB "state" "I" := Or.inr ⟨"SteppedList", NWl_in (List.mem_of_getElem? (i := 87) (by decide +kernel)) rfl⟩
theorem flB_25 : FL RB 25 RB "key" "I" := Or.inl (WSg_in (List.mem_of_getElem? (i := 88) (by decide +kernel)) rfl)
theorem flS_138 : FL RS 138 RB "key" "I" := Or.inr ⟨"SteppedList", NWl_in (List.mem_of_getElem? (i := 89) (by decide +kernel)) rfl⟩
theorem flB_18 : FL RB 18 RB "link" "I" := Or.inl (WSg_in (List.mem_of_getElem? (i := 90) (by decide +kernel)) rfl)
theorem flS_131 : FL RS 131 RB "link" "I" := Or.inr ⟨"SteppedList", NWl_in (List.mem_of_getElem? (i := 91) (by decide +kernel)) rfl⟩
theorem flB_21 : FL RB 21 RB "marked" "Z" := Or.inl (WSg_in (List.mem_of_getElem? (i := 92) (by decide +kernel)) rfl)
theorem flS_134 : FL RS 134 RB "marked" "Z" := Or.inr ⟨"SteppedList", NWl_in (List.mem_of_getElem? (i := 93) (by decide +kernel)) rfl⟩
theorem flB_28 : FL RB 28 RB "life" "I" := Or.inl (WSg_in (List.mem_of_getElem? (i := 94) (by decide +kernel)) rfl)
theorem flS_225 : FL RS 225 RB "life" "I" := Or.inr ⟨"SteppedList", NWl_in (List.mem_of_getElem? (i := 95) (by decide +kernel)) rfl⟩
theorem flB_15 : FL RB 15 RB "retiredWith" "I" := Or.inl (WSg_in (List.mem_of_getElem? (i := 96) (by decide +kernel)) rfl)
theorem flS_250 : FL RS 250 RB "retiredWith" "I" := Or.inr ⟨"SteppedList", NWl_in (List.mem_of_getElem? (i := 97) (by decide +kernel)) rfl⟩
theorem flK_30 : FL RK 30 RK "number" "I" := Or.inl (WSg_in (List.mem_of_getElem? (i := 118) (by decide +kernel)) rfl)
theorem flS_244 : FL RS 244 RK "number" "I" := Or.inr ⟨"SteppedList", NWl_in (List.mem_of_getElem? (i := 119) (by decide +kernel)) rfl⟩
theorem flK_9 : FL RK 9 RK "before" "I" := Or.inl (WSg_in (List.mem_of_getElem? (i := 120) (by decide +kernel)) rfl)
theorem flS_42 : FL RS 42 RK "before" "I" := Or.inr ⟨"SteppedList", NWl_in (List.mem_of_getElem? (i := 121) (by decide +kernel)) rfl⟩
theorem flS_53 : FL RS 53 RK "operation" "I" := Or.inr ⟨"SteppedList", NWl_in (List.mem_of_getElem? (i := 122) (by decide +kernel)) rfl⟩
theorem flS_56 : FL RS 56 RK "key" "I" := Or.inr ⟨"SteppedList", NWl_in (List.mem_of_getElem? (i := 123) (by decide +kernel)) rfl⟩
theorem flK_33 : FL RK 33 RK "back" "I" := Or.inl (WSg_in (List.mem_of_getElem? (i := 124) (by decide +kernel)) rfl)
theorem flS_74 : FL RS 74 RK "back" "I" := Or.inr ⟨"SteppedList", NWl_in (List.mem_of_getElem? (i := 125) (by decide +kernel)) rfl⟩
theorem flK_36 : FL RK 36 RK "backLife" "I" := Or.inl (WSg_in (List.mem_of_getElem? (i := 126) (by decide +kernel)) rfl)
theorem flS_176 : FL RS 176 RK "backLife" "I" := Or.inr ⟨"SteppedList", NWl_in (List.mem_of_getElem? (i := 127) (by decide +kernel)) rfl⟩
theorem flK_39 : FL RK 39 RK "here" "I" := Or.inl (WSg_in (List.mem_of_getElem? (i := 128) (by decide +kernel)) rfl)
theorem flS_77 : FL RS 77 RK "here" "I" := Or.inr ⟨"SteppedList", NWl_in (List.mem_of_getElem? (i := 129) (by decide +kernel)) rfl⟩
theorem flK_42 : FL RK 42 RK "hereLife" "I" := Or.inl (WSg_in (List.mem_of_getElem? (i := 130) (by decide +kernel)) rfl)
theorem flS_196 : FL RS 196 RK "hereLife" "I" := Or.inr ⟨"SteppedList", NWl_in (List.mem_of_getElem? (i := 131) (by decide +kernel)) rfl⟩
theorem flK_45 : FL RK 45 RK "next" "I" := Or.inl (WSg_in (List.mem_of_getElem? (i := 132) (by decide +kernel)) rfl)
theorem flS_80 : FL RS 80 RK "next" "I" := Or.inr ⟨"SteppedList", NWl_in (List.mem_of_getElem? (i := 133) (by decide +kernel)) rfl⟩
theorem flK_48 : FL RK 48 RK "found" "Z" := Or.inl (WSg_in (List.mem_of_getElem? (i := 134) (by decide +kernel)) rfl)
theorem flS_190 : FL RS 190 RK "found" "Z" := Or.inr ⟨"SteppedList", NWl_in (List.mem_of_getElem? (i := 135) (by decide +kernel)) rfl⟩
theorem flK_52 : FL RK 52 RK "newBlock" "I" := Or.inl (WSg_in (List.mem_of_getElem? (i := 136) (by decide +kernel)) rfl)
theorem flS_83 : FL RS 83 RK "newBlock" "I" := Or.inr ⟨"SteppedList", NWl_in (List.mem_of_getElem? (i := 137) (by decide +kernel)) rfl⟩
theorem flK_15 : FL RK 15 RK "comingResult" "I" := Or.inl (WSg_in (List.mem_of_getElem? (i := 138) (by decide +kernel)) rfl)
theorem flS_222 : FL RS 222 RK "comingResult" "I" := Or.inr ⟨"SteppedList", NWl_in (List.mem_of_getElem? (i := 139) (by decide +kernel)) rfl⟩
theorem flK_18 : FL RK 18 RK "endedResult" "I" := Or.inl (WSg_in (List.mem_of_getElem? (i := 140) (by decide +kernel)) rfl)
theorem flS_66 : FL RS 66 RK "endedResult" "I" := Or.inr ⟨"SteppedList", NWl_in (List.mem_of_getElem? (i := 141) (by decide +kernel)) rfl⟩
theorem flK_21 : FL RK 21 RK "slot0" "I" := Or.inl (WSg_in (List.mem_of_getElem? (i := 142) (by decide +kernel)) rfl)
theorem flS_91 : FL RS 91 RK "slot0" "I" := Or.inr ⟨"SteppedList", NWl_in (List.mem_of_getElem? (i := 143) (by decide +kernel)) rfl⟩
theorem flK_24 : FL RK 24 RK "slot1" "I" := Or.inl (WSg_in (List.mem_of_getElem? (i := 144) (by decide +kernel)) rfl)
theorem flS_94 : FL RS 94 RK "slot1" "I" := Or.inr ⟨"SteppedList", NWl_in (List.mem_of_getElem? (i := 145) (by decide +kernel)) rfl⟩
theorem flK_27 : FL RK 27 RK "announced" "I" := Or.inl (WSg_in (List.mem_of_getElem? (i := 146) (by decide +kernel)) rfl)
theorem flS_97 : FL RS 97 RK "announced" "I" := Or.inr ⟨"SteppedList", NWl_in (List.mem_of_getElem? (i := 147) (by decide +kernel)) rfl⟩
theorem flS_9 : FL RS 9 RS "scheme" "I" := Or.inl (WSg_in (List.mem_of_getElem? (i := 181) (by decide +kernel)) rfl)
theorem flS_15 : FL RS 15 RS "blocks" "[LSteppedList$Block;" := Or.inl (WSg_in (List.mem_of_getElem? (i := 182) (by decide +kernel)) rfl)
theorem flS_22 : FL RS 22 RS "workers" "[LSteppedList$Worker;" := Or.inl (WSg_in (List.mem_of_getElem? (i := 183) (by decide +kernel)) rfl)
theorem flS_111 : FL RS 111 RS "currentEpoch" "I" := Or.inl (WSg_in (List.mem_of_getElem? (i := 184) (by decide +kernel)) rfl)
theorem flS_139 : FL RS 139 RS "faultCount" "I" := Or.inl (WSg_in (List.mem_of_getElem? (i := 185) (by decide +kernel)) rfl)
theorem ckL_103 : CK RL 103 yS_size cS_size 4 (some .int) 0 := ⟨WSg_in (List.mem_of_getElem? (i := 200) (by decide +kernel)) rfl, WSg_in (List.mem_of_getElem? (i := 59) (by decide +kernel)) rfl, WSg_in (List.mem_of_getElem? (i := 198) (by decide +kernel)) rfl, WSg_in (List.mem_of_getElem? (i := 199) (by decide +kernel)) rfl, Or.inl (WSg_in (List.mem_of_getElem? (i := 197) (by decide +kernel)) rfl), ⟨by decide, by decide⟩, by decide +kernel⟩
theorem ckL_107 : CK RL 107 yS_has cS_has 4 (some .boolean) 1 := ⟨WSg_in (List.mem_of_getElem? (i := 204) (by decide +kernel)) rfl, WSg_in (List.mem_of_getElem? (i := 59) (by decide +kernel)) rfl, WSg_in (List.mem_of_getElem? (i := 202) (by decide +kernel)) rfl, WSg_in (List.mem_of_getElem? (i := 203) (by decide +kernel)) rfl, Or.inl (WSg_in (List.mem_of_getElem? (i := 201) (by decide +kernel)) rfl), ⟨by decide, by decide⟩, by decide +kernel⟩
theorem ckL_112 : CK RL 112 yS_faults cS_faults 1 (some .int) 0 := ⟨WSg_in (List.mem_of_getElem? (i := 208) (by decide +kernel)) rfl, WSg_in (List.mem_of_getElem? (i := 59) (by decide +kernel)) rfl, WSg_in (List.mem_of_getElem? (i := 206) (by decide +kernel)) rfl, WSg_in (List.mem_of_getElem? (i := 207) (by decide +kernel)) rfl, Or.inl (WSg_in (List.mem_of_getElem? (i := 205) (by decide +kernel)) rfl), ⟨by decide, by decide⟩, by decide +kernel⟩
theorem ckL_116 : CK RL 116 yS_epoch cS_epoch 1 (some .int) 0 := ⟨WSg_in (List.mem_of_getElem? (i := 212) (by decide +kernel)) rfl, WSg_in (List.mem_of_getElem? (i := 59) (by decide +kernel)) rfl, WSg_in (List.mem_of_getElem? (i := 210) (by decide +kernel)) rfl, WSg_in (List.mem_of_getElem? (i := 211) (by decide +kernel)) rfl, Or.inl (WSg_in (List.mem_of_getElem? (i := 209) (by decide +kernel)) rfl), ⟨by decide, by decide⟩, by decide +kernel⟩
theorem ckL_53 : CKs RL 53 yL_cell cL_cell 2 (some .int) 2 := ⟨WSg_in (List.mem_of_getElem? (i := 215) (by decide +kernel)) rfl, WSg_in (List.mem_of_getElem? (i := 58) (by decide +kernel)) rfl, WSg_in (List.mem_of_getElem? (i := 214) (by decide +kernel)) rfl, WSg_in (List.mem_of_getElem? (i := 213) (by decide +kernel)) rfl, ⟨by decide, by decide⟩, by decide +kernel⟩
theorem ckL_7 : CK RL 7 yS_begin cS_begin 5 none 3 := ⟨WSg_in (List.mem_of_getElem? (i := 225) (by decide +kernel)) rfl, WSg_in (List.mem_of_getElem? (i := 59) (by decide +kernel)) rfl, WSg_in (List.mem_of_getElem? (i := 223) (by decide +kernel)) rfl, WSg_in (List.mem_of_getElem? (i := 224) (by decide +kernel)) rfl, Or.inl (WSg_in (List.mem_of_getElem? (i := 222) (by decide +kernel)) rfl), ⟨by decide, by decide⟩, by decide +kernel⟩
theorem ckS_29 : CK RS 29 yS_workerOf cS_workerOf 2 (some (.object "SteppedList$Worker")) 1 := ⟨WSg_in (List.mem_of_getElem? (i := 229) (by decide +kernel)) rfl, WSg_in (List.mem_of_getElem? (i := 59) (by decide +kernel)) rfl, WSg_in (List.mem_of_getElem? (i := 228) (by decide +kernel)) rfl, WSg_in (List.mem_of_getElem? (i := 0) (by decide +kernel)) rfl, Or.inl (WSg_in (List.mem_of_getElem? (i := 226) (by decide +kernel)) rfl), ⟨by decide, by decide⟩, by decide +kernel⟩
theorem ckS_50 : CK RS 50 yK_forget cK_forget 1 none 0 := ⟨WSg_in (List.mem_of_getElem? (i := 336) (by decide +kernel)) rfl, WSg_in (List.mem_of_getElem? (i := 61) (by decide +kernel)) rfl, WSg_in (List.mem_of_getElem? (i := 335) (by decide +kernel)) rfl, WSg_in (List.mem_of_getElem? (i := 2) (by decide +kernel)) rfl, Or.inr ⟨"SteppedList", NWl_in (List.mem_of_getElem? (i := 333) (by decide +kernel)) rfl⟩, ⟨by decide, by decide⟩, by decide +kernel⟩
theorem ckL_19 : CK RL 19 yS_step cS_step 3 (some .int) 1 := ⟨WSg_in (List.mem_of_getElem? (i := 343) (by decide +kernel)) rfl, WSg_in (List.mem_of_getElem? (i := 59) (by decide +kernel)) rfl, WSg_in (List.mem_of_getElem? (i := 341) (by decide +kernel)) rfl, WSg_in (List.mem_of_getElem? (i := 342) (by decide +kernel)) rfl, Or.inl (WSg_in (List.mem_of_getElem? (i := 340) (by decide +kernel)) rfl), ⟨by decide, by decide⟩, by decide +kernel⟩
theorem ckS_59 : CK RS 59 yS_busyWorkerOf cS_busyWorkerOf 3 (some (.object "SteppedList$Worker")) 1 := ⟨WSg_in (List.mem_of_getElem? (i := 347) (by decide +kernel)) rfl, WSg_in (List.mem_of_getElem? (i := 59) (by decide +kernel)) rfl, WSg_in (List.mem_of_getElem? (i := 346) (by decide +kernel)) rfl, WSg_in (List.mem_of_getElem? (i := 3) (by decide +kernel)) rfl, Or.inl (WSg_in (List.mem_of_getElem? (i := 344) (by decide +kernel)) rfl), ⟨by decide, by decide⟩, by decide +kernel⟩
theorem ckS_62 : CK RS 62 yS_perform cS_perform 2 none 1 := ⟨WSg_in (List.mem_of_getElem? (i := 352) (by decide +kernel)) rfl, WSg_in (List.mem_of_getElem? (i := 59) (by decide +kernel)) rfl, WSg_in (List.mem_of_getElem? (i := 351) (by decide +kernel)) rfl, WSg_in (List.mem_of_getElem? (i := 4) (by decide +kernel)) rfl, Or.inl (WSg_in (List.mem_of_getElem? (i := 349) (by decide +kernel)) rfl), ⟨by decide, by decide⟩, by decide +kernel⟩
theorem ckS_146 : CK RS 146 yS_startWork cS_startWork 2 none 1 := ⟨WSg_in (List.mem_of_getElem? (i := 356) (by decide +kernel)) rfl, WSg_in (List.mem_of_getElem? (i := 59) (by decide +kernel)) rfl, WSg_in (List.mem_of_getElem? (i := 355) (by decide +kernel)) rfl, WSg_in (List.mem_of_getElem? (i := 5) (by decide +kernel)) rfl, Or.inl (WSg_in (List.mem_of_getElem? (i := 353) (by decide +kernel)) rfl), ⟨by decide, by decide⟩, by decide +kernel⟩
theorem ckS_149 : CK RS 149 yS_goToHead cS_goToHead 2 none 1 := ⟨WSg_in (List.mem_of_getElem? (i := 360) (by decide +kernel)) rfl, WSg_in (List.mem_of_getElem? (i := 59) (by decide +kernel)) rfl, WSg_in (List.mem_of_getElem? (i := 359) (by decide +kernel)) rfl, WSg_in (List.mem_of_getElem? (i := 6) (by decide +kernel)) rfl, Or.inl (WSg_in (List.mem_of_getElem? (i := 357) (by decide +kernel)) rfl), ⟨by decide, by decide⟩, by decide +kernel⟩
theorem ckS_179 : CK RS 179 yS_moveHereTo cS_moveHereTo 3 none 2 := ⟨WSg_in (List.mem_of_getElem? (i := 364) (by decide +kernel)) rfl, WSg_in (List.mem_of_getElem? (i := 59) (by decide +kernel)) rfl, WSg_in (List.mem_of_getElem? (i := 363) (by decide +kernel)) rfl, WSg_in (List.mem_of_getElem? (i := 7) (by decide +kernel)) rfl, Or.inl (WSg_in (List.mem_of_getElem? (i := 361) (by decide +kernel)) rfl), ⟨by decide, by decide⟩, by decide +kernel⟩
theorem ckS_152 : CK RS 152 yS_nameHere cS_nameHere 2 none 1 := ⟨WSg_in (List.mem_of_getElem? (i := 368) (by decide +kernel)) rfl, WSg_in (List.mem_of_getElem? (i := 59) (by decide +kernel)) rfl, WSg_in (List.mem_of_getElem? (i := 367) (by decide +kernel)) rfl, WSg_in (List.mem_of_getElem? (i := 8) (by decide +kernel)) rfl, Or.inl (WSg_in (List.mem_of_getElem? (i := 365) (by decide +kernel)) rfl), ⟨by decide, by decide⟩, by decide +kernel⟩
theorem ckS_155 : CK RS 155 yS_checkBack cS_checkBack 2 none 1 := ⟨WSg_in (List.mem_of_getElem? (i := 372) (by decide +kernel)) rfl, WSg_in (List.mem_of_getElem? (i := 59) (by decide +kernel)) rfl, WSg_in (List.mem_of_getElem? (i := 371) (by decide +kernel)) rfl, WSg_in (List.mem_of_getElem? (i := 9) (by decide +kernel)) rfl, Or.inl (WSg_in (List.mem_of_getElem? (i := 369) (by decide +kernel)) rfl), ⟨by decide, by decide⟩, by decide +kernel⟩
theorem ckS_183 : CK RS 183 yS_lookAtBack cS_lookAtBack 2 none 1 := ⟨WSg_in (List.mem_of_getElem? (i := 376) (by decide +kernel)) rfl, WSg_in (List.mem_of_getElem? (i := 59) (by decide +kernel)) rfl, WSg_in (List.mem_of_getElem? (i := 375) (by decide +kernel)) rfl, WSg_in (List.mem_of_getElem? (i := 10) (by decide +kernel)) rfl, Or.inl (WSg_in (List.mem_of_getElem? (i := 373) (by decide +kernel)) rfl), ⟨by decide, by decide⟩, by decide +kernel⟩
theorem ckS_231 : CK RS 231 yS_countFault cS_countFault 3 none 2 := ⟨WSg_in (List.mem_of_getElem? (i := 380) (by decide +kernel)) rfl, WSg_in (List.mem_of_getElem? (i := 59) (by decide +kernel)) rfl, WSg_in (List.mem_of_getElem? (i := 379) (by decide +kernel)) rfl, WSg_in (List.mem_of_getElem? (i := 11) (by decide +kernel)) rfl, Or.inl (WSg_in (List.mem_of_getElem? (i := 377) (by decide +kernel)) rfl), ⟨by decide, by decide⟩, by decide +kernel⟩
theorem ckS_186 : CK RS 186 yB_leadsTo cB_leadsTo 2 (some .boolean) 1 := ⟨WSg_in (List.mem_of_getElem? (i := 384) (by decide +kernel)) rfl, WSg_in (List.mem_of_getElem? (i := 60) (by decide +kernel)) rfl, WSg_in (List.mem_of_getElem? (i := 383) (by decide +kernel)) rfl, WSg_in (List.mem_of_getElem? (i := 12) (by decide +kernel)) rfl, Or.inr ⟨"SteppedList", NWl_in (List.mem_of_getElem? (i := 381) (by decide +kernel)) rfl⟩, ⟨by decide, by decide⟩, by decide +kernel⟩
theorem ckS_158 : CK RS 158 yS_readHere cS_readHere 3 none 1 := ⟨WSg_in (List.mem_of_getElem? (i := 388) (by decide +kernel)) rfl, WSg_in (List.mem_of_getElem? (i := 59) (by decide +kernel)) rfl, WSg_in (List.mem_of_getElem? (i := 387) (by decide +kernel)) rfl, WSg_in (List.mem_of_getElem? (i := 13) (by decide +kernel)) rfl, Or.inl (WSg_in (List.mem_of_getElem? (i := 385) (by decide +kernel)) rfl), ⟨by decide, by decide⟩, by decide +kernel⟩
theorem ckS_193 : CK RS 193 yS_lookAtHere cS_lookAtHere 2 none 1 := ⟨WSg_in (List.mem_of_getElem? (i := 392) (by decide +kernel)) rfl, WSg_in (List.mem_of_getElem? (i := 59) (by decide +kernel)) rfl, WSg_in (List.mem_of_getElem? (i := 391) (by decide +kernel)) rfl, WSg_in (List.mem_of_getElem? (i := 14) (by decide +kernel)) rfl, Or.inl (WSg_in (List.mem_of_getElem? (i := 389) (by decide +kernel)) rfl), ⟨by decide, by decide⟩, by decide +kernel⟩
theorem ckS_161 : CK RS 161 yS_cutHere cS_cutHere 2 none 1 := ⟨WSg_in (List.mem_of_getElem? (i := 396) (by decide +kernel)) rfl, WSg_in (List.mem_of_getElem? (i := 59) (by decide +kernel)) rfl, WSg_in (List.mem_of_getElem? (i := 395) (by decide +kernel)) rfl, WSg_in (List.mem_of_getElem? (i := 15) (by decide +kernel)) rfl, Or.inl (WSg_in (List.mem_of_getElem? (i := 393) (by decide +kernel)) rfl), ⟨by decide, by decide⟩, by decide +kernel⟩
theorem ckS_199 : CK RS 199 yS_takeOutHere cS_takeOutHere 3 (some .boolean) 1 := ⟨WSg_in (List.mem_of_getElem? (i := 400) (by decide +kernel)) rfl, WSg_in (List.mem_of_getElem? (i := 59) (by decide +kernel)) rfl, WSg_in (List.mem_of_getElem? (i := 399) (by decide +kernel)) rfl, WSg_in (List.mem_of_getElem? (i := 16) (by decide +kernel)) rfl, Or.inl (WSg_in (List.mem_of_getElem? (i := 397) (by decide +kernel)) rfl), ⟨by decide, by decide⟩, by decide +kernel⟩
theorem ckS_219 : CK RS 219 yB_lead cB_lead 2 none 1 := ⟨WSg_in (List.mem_of_getElem? (i := 404) (by decide +kernel)) rfl, WSg_in (List.mem_of_getElem? (i := 60) (by decide +kernel)) rfl, WSg_in (List.mem_of_getElem? (i := 403) (by decide +kernel)) rfl, WSg_in (List.mem_of_getElem? (i := 17) (by decide +kernel)) rfl, Or.inr ⟨"SteppedList", NWl_in (List.mem_of_getElem? (i := 401) (by decide +kernel)) rfl⟩, ⟨by decide, by decide⟩, by decide +kernel⟩
theorem ckS_228 : CK RS 228 yS_retireHere cS_retireHere 3 none 1 := ⟨WSg_in (List.mem_of_getElem? (i := 408) (by decide +kernel)) rfl, WSg_in (List.mem_of_getElem? (i := 59) (by decide +kernel)) rfl, WSg_in (List.mem_of_getElem? (i := 407) (by decide +kernel)) rfl, WSg_in (List.mem_of_getElem? (i := 18) (by decide +kernel)) rfl, Or.inl (WSg_in (List.mem_of_getElem? (i := 405) (by decide +kernel)) rfl), ⟨by decide, by decide⟩, by decide +kernel⟩
theorem ckS_238 : CK RS 238 yB_setFree cB_setFree 1 none 0 := ⟨WSg_in (List.mem_of_getElem? (i := 412) (by decide +kernel)) rfl, WSg_in (List.mem_of_getElem? (i := 60) (by decide +kernel)) rfl, WSg_in (List.mem_of_getElem? (i := 411) (by decide +kernel)) rfl, WSg_in (List.mem_of_getElem? (i := 19) (by decide +kernel)) rfl, Or.inr ⟨"SteppedList", NWl_in (List.mem_of_getElem? (i := 409) (by decide +kernel)) rfl⟩, ⟨by decide, by decide⟩, by decide +kernel⟩
theorem ckS_241 : CK RS 241 yB_retireWith cB_retireWith 2 none 1 := ⟨WSg_in (List.mem_of_getElem? (i := 416) (by decide +kernel)) rfl, WSg_in (List.mem_of_getElem? (i := 60) (by decide +kernel)) rfl, WSg_in (List.mem_of_getElem? (i := 415) (by decide +kernel)) rfl, WSg_in (List.mem_of_getElem? (i := 20) (by decide +kernel)) rfl, Or.inr ⟨"SteppedList", NWl_in (List.mem_of_getElem? (i := 413) (by decide +kernel)) rfl⟩, ⟨by decide, by decide⟩, by decide +kernel⟩
theorem ckS_247 : CK RS 247 yS_countRetiredBy cS_countRetiredBy 4 (some .int) 1 := ⟨WSg_in (List.mem_of_getElem? (i := 420) (by decide +kernel)) rfl, WSg_in (List.mem_of_getElem? (i := 59) (by decide +kernel)) rfl, WSg_in (List.mem_of_getElem? (i := 419) (by decide +kernel)) rfl, WSg_in (List.mem_of_getElem? (i := 21) (by decide +kernel)) rfl, Or.inl (WSg_in (List.mem_of_getElem? (i := 417) (by decide +kernel)) rfl), ⟨by decide, by decide⟩, by decide +kernel⟩
theorem ckS_253 : CK RS 253 yS_isRetiredBy cS_isRetiredBy 3 (some .boolean) 2 := ⟨WSg_in (List.mem_of_getElem? (i := 424) (by decide +kernel)) rfl, WSg_in (List.mem_of_getElem? (i := 59) (by decide +kernel)) rfl, WSg_in (List.mem_of_getElem? (i := 423) (by decide +kernel)) rfl, WSg_in (List.mem_of_getElem? (i := 22) (by decide +kernel)) rfl, Or.inl (WSg_in (List.mem_of_getElem? (i := 421) (by decide +kernel)) rfl), ⟨by decide, by decide⟩, by decide +kernel⟩
theorem ckS_119 : CK RS 119 yS_freeUnnamed cS_freeUnnamed 4 (some .int) 1 := ⟨WSg_in (List.mem_of_getElem? (i := 428) (by decide +kernel)) rfl, WSg_in (List.mem_of_getElem? (i := 59) (by decide +kernel)) rfl, WSg_in (List.mem_of_getElem? (i := 427) (by decide +kernel)) rfl, WSg_in (List.mem_of_getElem? (i := 23) (by decide +kernel)) rfl, Or.inl (WSg_in (List.mem_of_getElem? (i := 425) (by decide +kernel)) rfl), ⟨by decide, by decide⟩, by decide +kernel⟩
theorem ckS_257 : CK RS 257 yS_isNamed cS_isNamed 3 (some .boolean) 1 := ⟨WSg_in (List.mem_of_getElem? (i := 432) (by decide +kernel)) rfl, WSg_in (List.mem_of_getElem? (i := 59) (by decide +kernel)) rfl, WSg_in (List.mem_of_getElem? (i := 431) (by decide +kernel)) rfl, WSg_in (List.mem_of_getElem? (i := 24) (by decide +kernel)) rfl, Or.inl (WSg_in (List.mem_of_getElem? (i := 429) (by decide +kernel)) rfl), ⟨by decide, by decide⟩, by decide +kernel⟩
theorem ckS_164 : CK RS 164 yS_doOperation cS_doOperation 2 none 1 := ⟨WSg_in (List.mem_of_getElem? (i := 436) (by decide +kernel)) rfl, WSg_in (List.mem_of_getElem? (i := 59) (by decide +kernel)) rfl, WSg_in (List.mem_of_getElem? (i := 435) (by decide +kernel)) rfl, WSg_in (List.mem_of_getElem? (i := 25) (by decide +kernel)) rfl, Or.inl (WSg_in (List.mem_of_getElem? (i := 433) (by decide +kernel)) rfl), ⟨by decide, by decide⟩, by decide +kernel⟩
theorem ckS_203 : CK RS 203 yS_prepareInsert cS_prepareInsert 3 none 1 := ⟨WSg_in (List.mem_of_getElem? (i := 440) (by decide +kernel)) rfl, WSg_in (List.mem_of_getElem? (i := 59) (by decide +kernel)) rfl, WSg_in (List.mem_of_getElem? (i := 439) (by decide +kernel)) rfl, WSg_in (List.mem_of_getElem? (i := 26) (by decide +kernel)) rfl, Or.inl (WSg_in (List.mem_of_getElem? (i := 437) (by decide +kernel)) rfl), ⟨by decide, by decide⟩, by decide +kernel⟩
theorem ckS_212 : CK RS 212 yS_giveNewBlockBack cS_giveNewBlockBack 2 none 1 := ⟨WSg_in (List.mem_of_getElem? (i := 444) (by decide +kernel)) rfl, WSg_in (List.mem_of_getElem? (i := 59) (by decide +kernel)) rfl, WSg_in (List.mem_of_getElem? (i := 443) (by decide +kernel)) rfl, WSg_in (List.mem_of_getElem? (i := 27) (by decide +kernel)) rfl, Or.inl (WSg_in (List.mem_of_getElem? (i := 441) (by decide +kernel)) rfl), ⟨by decide, by decide⟩, by decide +kernel⟩
theorem ckS_209 : CK RS 209 yS_conclude cS_conclude 3 none 2 := ⟨WSg_in (List.mem_of_getElem? (i := 448) (by decide +kernel)) rfl, WSg_in (List.mem_of_getElem? (i := 59) (by decide +kernel)) rfl, WSg_in (List.mem_of_getElem? (i := 447) (by decide +kernel)) rfl, WSg_in (List.mem_of_getElem? (i := 28) (by decide +kernel)) rfl, Or.inl (WSg_in (List.mem_of_getElem? (i := 445) (by decide +kernel)) rfl), ⟨by decide, by decide⟩, by decide +kernel⟩
theorem ckS_215 : CK RS 215 yS_takeFreeBlock cS_takeFreeBlock 2 (some .int) 0 := ⟨WSg_in (List.mem_of_getElem? (i := 452) (by decide +kernel)) rfl, WSg_in (List.mem_of_getElem? (i := 59) (by decide +kernel)) rfl, WSg_in (List.mem_of_getElem? (i := 451) (by decide +kernel)) rfl, WSg_in (List.mem_of_getElem? (i := 29) (by decide +kernel)) rfl, Or.inl (WSg_in (List.mem_of_getElem? (i := 449) (by decide +kernel)) rfl), ⟨by decide, by decide⟩, by decide +kernel⟩
theorem ckS_206 : CK RS 206 yS_markForRemoval cS_markForRemoval 3 none 1 := ⟨WSg_in (List.mem_of_getElem? (i := 456) (by decide +kernel)) rfl, WSg_in (List.mem_of_getElem? (i := 59) (by decide +kernel)) rfl, WSg_in (List.mem_of_getElem? (i := 455) (by decide +kernel)) rfl, WSg_in (List.mem_of_getElem? (i := 30) (by decide +kernel)) rfl, Or.inl (WSg_in (List.mem_of_getElem? (i := 453) (by decide +kernel)) rfl), ⟨by decide, by decide⟩, by decide +kernel⟩
theorem ckS_167 : CK RS 167 yS_hangNewBlock cS_hangNewBlock 3 none 1 := ⟨WSg_in (List.mem_of_getElem? (i := 460) (by decide +kernel)) rfl, WSg_in (List.mem_of_getElem? (i := 59) (by decide +kernel)) rfl, WSg_in (List.mem_of_getElem? (i := 459) (by decide +kernel)) rfl, WSg_in (List.mem_of_getElem? (i := 31) (by decide +kernel)) rfl, Or.inl (WSg_in (List.mem_of_getElem? (i := 457) (by decide +kernel)) rfl), ⟨by decide, by decide⟩, by decide +kernel⟩
theorem ckS_170 : CK RS 170 yS_endWork cS_endWork 2 none 1 := ⟨WSg_in (List.mem_of_getElem? (i := 464) (by decide +kernel)) rfl, WSg_in (List.mem_of_getElem? (i := 59) (by decide +kernel)) rfl, WSg_in (List.mem_of_getElem? (i := 463) (by decide +kernel)) rfl, WSg_in (List.mem_of_getElem? (i := 32) (by decide +kernel)) rfl, Or.inl (WSg_in (List.mem_of_getElem? (i := 461) (by decide +kernel)) rfl), ⟨by decide, by decide⟩, by decide +kernel⟩
theorem ckS_173 : CK RS 173 yS_unhangHere cS_unhangHere 2 none 1 := ⟨WSg_in (List.mem_of_getElem? (i := 468) (by decide +kernel)) rfl, WSg_in (List.mem_of_getElem? (i := 59) (by decide +kernel)) rfl, WSg_in (List.mem_of_getElem? (i := 467) (by decide +kernel)) rfl, WSg_in (List.mem_of_getElem? (i := 33) (by decide +kernel)) rfl, Or.inl (WSg_in (List.mem_of_getElem? (i := 465) (by decide +kernel)) rfl), ⟨by decide, by decide⟩, by decide +kernel⟩
theorem ckL_23 : CK RL 23 yS_finish cS_finish 4 (some .int) 1 := ⟨WSg_in (List.mem_of_getElem? (i := 475) (by decide +kernel)) rfl, WSg_in (List.mem_of_getElem? (i := 59) (by decide +kernel)) rfl, WSg_in (List.mem_of_getElem? (i := 473) (by decide +kernel)) rfl, WSg_in (List.mem_of_getElem? (i := 474) (by decide +kernel)) rfl, Or.inl (WSg_in (List.mem_of_getElem? (i := 472) (by decide +kernel)) rfl), ⟨by decide, by decide⟩, by decide +kernel⟩
theorem ckL_26 : CK RL 26 yS_result cS_result 3 (some .int) 1 := ⟨WSg_in (List.mem_of_getElem? (i := 483) (by decide +kernel)) rfl, WSg_in (List.mem_of_getElem? (i := 59) (by decide +kernel)) rfl, WSg_in (List.mem_of_getElem? (i := 481) (by decide +kernel)) rfl, WSg_in (List.mem_of_getElem? (i := 482) (by decide +kernel)) rfl, Or.inl (WSg_in (List.mem_of_getElem? (i := 480) (by decide +kernel)) rfl), ⟨by decide, by decide⟩, by decide +kernel⟩
theorem ckL_31 : CK RL 31 yS_at cS_at 2 (some .int) 1 := ⟨WSg_in (List.mem_of_getElem? (i := 506) (by decide +kernel)) rfl, WSg_in (List.mem_of_getElem? (i := 59) (by decide +kernel)) rfl, WSg_in (List.mem_of_getElem? (i := 504) (by decide +kernel)) rfl, WSg_in (List.mem_of_getElem? (i := 505) (by decide +kernel)) rfl, Or.inl (WSg_in (List.mem_of_getElem? (i := 503) (by decide +kernel)) rfl), ⟨by decide, by decide⟩, by decide +kernel⟩
theorem ckL_34 : CK RL 34 yS_known cS_known 4 (some .int) 2 := ⟨WSg_in (List.mem_of_getElem? (i := 513) (by decide +kernel)) rfl, WSg_in (List.mem_of_getElem? (i := 59) (by decide +kernel)) rfl, WSg_in (List.mem_of_getElem? (i := 511) (by decide +kernel)) rfl, WSg_in (List.mem_of_getElem? (i := 512) (by decide +kernel)) rfl, Or.inl (WSg_in (List.mem_of_getElem? (i := 510) (by decide +kernel)) rfl), ⟨by decide, by decide⟩, by decide +kernel⟩
theorem ckL_38 : CK RL 38 yS_says cS_says 4 (some .int) 2 := ⟨WSg_in (List.mem_of_getElem? (i := 521) (by decide +kernel)) rfl, WSg_in (List.mem_of_getElem? (i := 59) (by decide +kernel)) rfl, WSg_in (List.mem_of_getElem? (i := 519) (by decide +kernel)) rfl, WSg_in (List.mem_of_getElem? (i := 520) (by decide +kernel)) rfl, Or.inl (WSg_in (List.mem_of_getElem? (i := 518) (by decide +kernel)) rfl), ⟨by decide, by decide⟩, by decide +kernel⟩
theorem ckL_41 : CK RL 41 yS_advance cS_advance 1 (some .boolean) 0 := ⟨WSg_in (List.mem_of_getElem? (i := 530) (by decide +kernel)) rfl, WSg_in (List.mem_of_getElem? (i := 59) (by decide +kernel)) rfl, WSg_in (List.mem_of_getElem? (i := 528) (by decide +kernel)) rfl, WSg_in (List.mem_of_getElem? (i := 529) (by decide +kernel)) rfl, Or.inl (WSg_in (List.mem_of_getElem? (i := 527) (by decide +kernel)) rfl), ⟨by decide, by decide⟩, by decide +kernel⟩
theorem ckS_107 : CK RS 107 yS_allAnnounceCurrentEpoch cS_allAnnounceCurrentEpoch 3 (some .boolean) 0 := ⟨WSg_in (List.mem_of_getElem? (i := 550) (by decide +kernel)) rfl, WSg_in (List.mem_of_getElem? (i := 59) (by decide +kernel)) rfl, WSg_in (List.mem_of_getElem? (i := 549) (by decide +kernel)) rfl, WSg_in (List.mem_of_getElem? (i := 34) (by decide +kernel)) rfl, Or.inl (WSg_in (List.mem_of_getElem? (i := 547) (by decide +kernel)) rfl), ⟨by decide, by decide⟩, by decide +kernel⟩
theorem ckS_114 : CK RS 114 yS_freeOldEpochs cS_freeOldEpochs 3 none 0 := ⟨WSg_in (List.mem_of_getElem? (i := 554) (by decide +kernel)) rfl, WSg_in (List.mem_of_getElem? (i := 59) (by decide +kernel)) rfl, WSg_in (List.mem_of_getElem? (i := 553) (by decide +kernel)) rfl, WSg_in (List.mem_of_getElem? (i := 35) (by decide +kernel)) rfl, Or.inl (WSg_in (List.mem_of_getElem? (i := 551) (by decide +kernel)) rfl), ⟨by decide, by decide⟩, by decide +kernel⟩
theorem ckL_47 : CK RL 47 yS_scan cS_scan 3 (some .int) 1 := ⟨WSg_in (List.mem_of_getElem? (i := 561) (by decide +kernel)) rfl, WSg_in (List.mem_of_getElem? (i := 59) (by decide +kernel)) rfl, WSg_in (List.mem_of_getElem? (i := 559) (by decide +kernel)) rfl, WSg_in (List.mem_of_getElem? (i := 560) (by decide +kernel)) rfl, Or.inl (WSg_in (List.mem_of_getElem? (i := 558) (by decide +kernel)) rfl), ⟨by decide, by decide⟩, by decide +kernel⟩
theorem ckL_50 : CK RL 50 yS_block cS_block 3 (some .int) 2 := ⟨WSg_in (List.mem_of_getElem? (i := 569) (by decide +kernel)) rfl, WSg_in (List.mem_of_getElem? (i := 59) (by decide +kernel)) rfl, WSg_in (List.mem_of_getElem? (i := 567) (by decide +kernel)) rfl, WSg_in (List.mem_of_getElem? (i := 568) (by decide +kernel)) rfl, Or.inl (WSg_in (List.mem_of_getElem? (i := 566) (by decide +kernel)) rfl), ⟨by decide, by decide⟩, by decide +kernel⟩
theorem ckS_127 : CK RS 127 yB_tell cB_tell 2 (some .int) 1 := ⟨WSg_in (List.mem_of_getElem? (i := 575) (by decide +kernel)) rfl, WSg_in (List.mem_of_getElem? (i := 60) (by decide +kernel)) rfl, WSg_in (List.mem_of_getElem? (i := 574) (by decide +kernel)) rfl, WSg_in (List.mem_of_getElem? (i := 36) (by decide +kernel)) rfl, Or.inr ⟨"SteppedList", NWl_in (List.mem_of_getElem? (i := 572) (by decide +kernel)) rfl⟩, ⟨by decide, by decide⟩, by decide +kernel⟩
theorem flM_75 : FL RM 75 RM "thrown" "I" := Or.inl (WSg_in (List.mem_of_getElem? (i := 582) (by decide +kernel)) rfl)
theorem flM_71 : FL RM 71 RM "scheme" "I" := Or.inl (WSg_in (List.mem_of_getElem? (i := 583) (by decide +kernel)) rfl)
theorem flM_85 : FL RM 85 RM "epoch" "I" := Or.inl (WSg_in (List.mem_of_getElem? (i := 584) (by decide +kernel)) rfl)
theorem flM_92 : FL RM 92 RM "faults" "I" := Or.inl (WSg_in (List.mem_of_getElem? (i := 585) (by decide +kernel)) rfl)
theorem flM_7 : FL RM 7 RM "state" "[I" := Or.inl (WSg_in (List.mem_of_getElem? (i := 586) (by decide +kernel)) rfl)
theorem flM_13 : FL RM 13 RM "keys" "[I" := Or.inl (WSg_in (List.mem_of_getElem? (i := 587) (by decide +kernel)) rfl)
theorem flM_16 : FL RM 16 RM "links" "[I" := Or.inl (WSg_in (List.mem_of_getElem? (i := 588) (by decide +kernel)) rfl)
theorem flM_19 : FL RM 19 RM "marks" "[Z" := Or.inl (WSg_in (List.mem_of_getElem? (i := 589) (by decide +kernel)) rfl)
theorem flM_23 : FL RM 23 RM "lives" "[I" := Or.inl (WSg_in (List.mem_of_getElem? (i := 590) (by decide +kernel)) rfl)
theorem flM_26 : FL RM 26 RM "with" "[I" := Or.inl (WSg_in (List.mem_of_getElem? (i := 591) (by decide +kernel)) rfl)
theorem flM_29 : FL RM 29 RM "step" "[I" := Or.inl (WSg_in (List.mem_of_getElem? (i := 592) (by decide +kernel)) rfl)
theorem flM_32 : FL RM 32 RM "operation" "[I" := Or.inl (WSg_in (List.mem_of_getElem? (i := 593) (by decide +kernel)) rfl)
theorem flM_35 : FL RM 35 RM "wanted" "[I" := Or.inl (WSg_in (List.mem_of_getElem? (i := 594) (by decide +kernel)) rfl)
theorem flM_38 : FL RM 38 RM "back" "[I" := Or.inl (WSg_in (List.mem_of_getElem? (i := 595) (by decide +kernel)) rfl)
theorem flM_41 : FL RM 41 RM "backLife" "[I" := Or.inl (WSg_in (List.mem_of_getElem? (i := 596) (by decide +kernel)) rfl)
theorem flM_44 : FL RM 44 RM "here" "[I" := Or.inl (WSg_in (List.mem_of_getElem? (i := 597) (by decide +kernel)) rfl)
theorem flM_47 : FL RM 47 RM "hereLife" "[I" := Or.inl (WSg_in (List.mem_of_getElem? (i := 598) (by decide +kernel)) rfl)
theorem flM_50 : FL RM 50 RM "next" "[I" := Or.inl (WSg_in (List.mem_of_getElem? (i := 599) (by decide +kernel)) rfl)
theorem flM_53 : FL RM 53 RM "found" "[Z" := Or.inl (WSg_in (List.mem_of_getElem? (i := 600) (by decide +kernel)) rfl)
theorem flM_56 : FL RM 56 RM "fresh" "[I" := Or.inl (WSg_in (List.mem_of_getElem? (i := 601) (by decide +kernel)) rfl)
theorem flM_59 : FL RM 59 RM "coming" "[I" := Or.inl (WSg_in (List.mem_of_getElem? (i := 602) (by decide +kernel)) rfl)
theorem flM_62 : FL RM 62 RM "results" "[I" := Or.inl (WSg_in (List.mem_of_getElem? (i := 603) (by decide +kernel)) rfl)
theorem flM_65 : FL RM 65 RM "announced" "[I" := Or.inl (WSg_in (List.mem_of_getElem? (i := 604) (by decide +kernel)) rfl)
theorem flM_68 : FL RM 68 RM "slots" "[I" := Or.inl (WSg_in (List.mem_of_getElem? (i := 605) (by decide +kernel)) rfl)
theorem ckL_69 : CK RL 69 yM_thrown cM_thrown 1 (some .int) 0 := ⟨WSg_in (List.mem_of_getElem? (i := 660) (by decide +kernel)) rfl, WSg_in (List.mem_of_getElem? (i := 62) (by decide +kernel)) rfl, WSg_in (List.mem_of_getElem? (i := 658) (by decide +kernel)) rfl, WSg_in (List.mem_of_getElem? (i := 659) (by decide +kernel)) rfl, Or.inl (WSg_in (List.mem_of_getElem? (i := 657) (by decide +kernel)) rfl), ⟨by decide, by decide⟩, by decide +kernel⟩
theorem ckL_68 : CK RL 68 yM_begin cM_begin 4 none 3 := ⟨WSg_in (List.mem_of_getElem? (i := 664) (by decide +kernel)) rfl, WSg_in (List.mem_of_getElem? (i := 62) (by decide +kernel)) rfl, WSg_in (List.mem_of_getElem? (i := 662) (by decide +kernel)) rfl, WSg_in (List.mem_of_getElem? (i := 663) (by decide +kernel)) rfl, Or.inl (WSg_in (List.mem_of_getElem? (i := 661) (by decide +kernel)) rfl), ⟨by decide, by decide⟩, by decide +kernel⟩
theorem ckM_78 : CKs RM 78 yM_isThread cM_isThread 1 (some .boolean) 1 := ⟨WSg_in (List.mem_of_getElem? (i := 667) (by decide +kernel)) rfl, WSg_in (List.mem_of_getElem? (i := 62) (by decide +kernel)) rfl, WSg_in (List.mem_of_getElem? (i := 666) (by decide +kernel)) rfl, WSg_in (List.mem_of_getElem? (i := 665) (by decide +kernel)) rfl, ⟨by decide, by decide⟩, by decide +kernel⟩
theorem ckL_96 : CK RL 96 yM_advance cM_advance 3 (some .boolean) 0 := ⟨WSg_in (List.mem_of_getElem? (i := 671) (by decide +kernel)) rfl, WSg_in (List.mem_of_getElem? (i := 62) (by decide +kernel)) rfl, WSg_in (List.mem_of_getElem? (i := 669) (by decide +kernel)) rfl, WSg_in (List.mem_of_getElem? (i := 670) (by decide +kernel)) rfl, Or.inl (WSg_in (List.mem_of_getElem? (i := 668) (by decide +kernel)) rfl), ⟨by decide, by decide⟩, by decide +kernel⟩
theorem ckL_99 : CK RL 99 yM_scan cM_scan 2 (some .int) 1 := ⟨WSg_in (List.mem_of_getElem? (i := 675) (by decide +kernel)) rfl, WSg_in (List.mem_of_getElem? (i := 62) (by decide +kernel)) rfl, WSg_in (List.mem_of_getElem? (i := 673) (by decide +kernel)) rfl, WSg_in (List.mem_of_getElem? (i := 674) (by decide +kernel)) rfl, Or.inl (WSg_in (List.mem_of_getElem? (i := 672) (by decide +kernel)) rfl), ⟨by decide, by decide⟩, by decide +kernel⟩
theorem ckM_88 : CK RM 88 yM_sweep cM_sweep 4 (some .int) 1 := ⟨WSg_in (List.mem_of_getElem? (i := 679) (by decide +kernel)) rfl, WSg_in (List.mem_of_getElem? (i := 62) (by decide +kernel)) rfl, WSg_in (List.mem_of_getElem? (i := 678) (by decide +kernel)) rfl, WSg_in (List.mem_of_getElem? (i := 37) (by decide +kernel)) rfl, Or.inl (WSg_in (List.mem_of_getElem? (i := 676) (by decide +kernel)) rfl), ⟨by decide, by decide⟩, by decide +kernel⟩
theorem ckM_82 : CK RM 82 yM_isNamed cM_isNamed 4 (some .boolean) 1 := ⟨WSg_in (List.mem_of_getElem? (i := 683) (by decide +kernel)) rfl, WSg_in (List.mem_of_getElem? (i := 62) (by decide +kernel)) rfl, WSg_in (List.mem_of_getElem? (i := 682) (by decide +kernel)) rfl, WSg_in (List.mem_of_getElem? (i := 38) (by decide +kernel)) rfl, Or.inl (WSg_in (List.mem_of_getElem? (i := 680) (by decide +kernel)) rfl), ⟨by decide, by decide⟩, by decide +kernel⟩
theorem ckL_76 : CK RL 76 yM_step cM_step 2 (some .int) 1 := ⟨WSg_in (List.mem_of_getElem? (i := 687) (by decide +kernel)) rfl, WSg_in (List.mem_of_getElem? (i := 62) (by decide +kernel)) rfl, WSg_in (List.mem_of_getElem? (i := 685) (by decide +kernel)) rfl, WSg_in (List.mem_of_getElem? (i := 686) (by decide +kernel)) rfl, Or.inl (WSg_in (List.mem_of_getElem? (i := 684) (by decide +kernel)) rfl), ⟨by decide, by decide⟩, by decide +kernel⟩
theorem ckM_150 : CK RM 150 yM_advanceThread cM_advanceThread 3 none 1 := ⟨WSg_in (List.mem_of_getElem? (i := 691) (by decide +kernel)) rfl, WSg_in (List.mem_of_getElem? (i := 62) (by decide +kernel)) rfl, WSg_in (List.mem_of_getElem? (i := 690) (by decide +kernel)) rfl, WSg_in (List.mem_of_getElem? (i := 39) (by decide +kernel)) rfl, Or.inl (WSg_in (List.mem_of_getElem? (i := 688) (by decide +kernel)) rfl), ⟨by decide, by decide⟩, by decide +kernel⟩
theorem ckM_123 : CK RM 123 yM_head cM_head 2 (some .int) 1 := ⟨WSg_in (List.mem_of_getElem? (i := 695) (by decide +kernel)) rfl, WSg_in (List.mem_of_getElem? (i := 62) (by decide +kernel)) rfl, WSg_in (List.mem_of_getElem? (i := 694) (by decide +kernel)) rfl, WSg_in (List.mem_of_getElem? (i := 40) (by decide +kernel)) rfl, Or.inl (WSg_in (List.mem_of_getElem? (i := 692) (by decide +kernel)) rfl), ⟨by decide, by decide⟩, by decide +kernel⟩
theorem ckM_99 : CK RM 99 yM_come cM_come 3 (some .int) 2 := ⟨WSg_in (List.mem_of_getElem? (i := 699) (by decide +kernel)) rfl, WSg_in (List.mem_of_getElem? (i := 62) (by decide +kernel)) rfl, WSg_in (List.mem_of_getElem? (i := 698) (by decide +kernel)) rfl, WSg_in (List.mem_of_getElem? (i := 41) (by decide +kernel)) rfl, Or.inl (WSg_in (List.mem_of_getElem? (i := 696) (by decide +kernel)) rfl), ⟨by decide, by decide⟩, by decide +kernel⟩
theorem ckM_126 : CK RM 126 yM_name cM_name 3 (some .int) 1 := ⟨WSg_in (List.mem_of_getElem? (i := 703) (by decide +kernel)) rfl, WSg_in (List.mem_of_getElem? (i := 62) (by decide +kernel)) rfl, WSg_in (List.mem_of_getElem? (i := 702) (by decide +kernel)) rfl, WSg_in (List.mem_of_getElem? (i := 42) (by decide +kernel)) rfl, Or.inl (WSg_in (List.mem_of_getElem? (i := 700) (by decide +kernel)) rfl), ⟨by decide, by decide⟩, by decide +kernel⟩
theorem ckM_129 : CK RM 129 yM_check cM_check 2 (some .int) 1 := ⟨WSg_in (List.mem_of_getElem? (i := 707) (by decide +kernel)) rfl, WSg_in (List.mem_of_getElem? (i := 62) (by decide +kernel)) rfl, WSg_in (List.mem_of_getElem? (i := 706) (by decide +kernel)) rfl, WSg_in (List.mem_of_getElem? (i := 43) (by decide +kernel)) rfl, Or.inl (WSg_in (List.mem_of_getElem? (i := 704) (by decide +kernel)) rfl), ⟨by decide, by decide⟩, by decide +kernel⟩
theorem ckM_103 : CK RM 103 yM_lookBack cM_lookBack 2 none 1 := ⟨WSg_in (List.mem_of_getElem? (i := 711) (by decide +kernel)) rfl, WSg_in (List.mem_of_getElem? (i := 62) (by decide +kernel)) rfl, WSg_in (List.mem_of_getElem? (i := 710) (by decide +kernel)) rfl, WSg_in (List.mem_of_getElem? (i := 44) (by decide +kernel)) rfl, Or.inl (WSg_in (List.mem_of_getElem? (i := 708) (by decide +kernel)) rfl), ⟨by decide, by decide⟩, by decide +kernel⟩
theorem ckM_95 : CK RM 95 yM_look cM_look 3 none 2 := ⟨WSg_in (List.mem_of_getElem? (i := 715) (by decide +kernel)) rfl, WSg_in (List.mem_of_getElem? (i := 62) (by decide +kernel)) rfl, WSg_in (List.mem_of_getElem? (i := 714) (by decide +kernel)) rfl, WSg_in (List.mem_of_getElem? (i := 45) (by decide +kernel)) rfl, Or.inl (WSg_in (List.mem_of_getElem? (i := 712) (by decide +kernel)) rfl), ⟨by decide, by decide⟩, by decide +kernel⟩
theorem ckM_107 : CK RM 107 yM_linked cM_linked 2 (some .boolean) 1 := ⟨WSg_in (List.mem_of_getElem? (i := 719) (by decide +kernel)) rfl, WSg_in (List.mem_of_getElem? (i := 62) (by decide +kernel)) rfl, WSg_in (List.mem_of_getElem? (i := 718) (by decide +kernel)) rfl, WSg_in (List.mem_of_getElem? (i := 46) (by decide +kernel)) rfl, Or.inl (WSg_in (List.mem_of_getElem? (i := 716) (by decide +kernel)) rfl), ⟨by decide, by decide⟩, by decide +kernel⟩
theorem ckM_132 : CK RM 132 yM_read cM_read 3 (some .int) 1 := ⟨WSg_in (List.mem_of_getElem? (i := 723) (by decide +kernel)) rfl, WSg_in (List.mem_of_getElem? (i := 62) (by decide +kernel)) rfl, WSg_in (List.mem_of_getElem? (i := 722) (by decide +kernel)) rfl, WSg_in (List.mem_of_getElem? (i := 47) (by decide +kernel)) rfl, Or.inl (WSg_in (List.mem_of_getElem? (i := 720) (by decide +kernel)) rfl), ⟨by decide, by decide⟩, by decide +kernel⟩
theorem ckM_135 : CK RM 135 yM_cut cM_cut 2 (some .int) 1 := ⟨WSg_in (List.mem_of_getElem? (i := 727) (by decide +kernel)) rfl, WSg_in (List.mem_of_getElem? (i := 62) (by decide +kernel)) rfl, WSg_in (List.mem_of_getElem? (i := 726) (by decide +kernel)) rfl, WSg_in (List.mem_of_getElem? (i := 48) (by decide +kernel)) rfl, Or.inl (WSg_in (List.mem_of_getElem? (i := 724) (by decide +kernel)) rfl), ⟨by decide, by decide⟩, by decide +kernel⟩
theorem ckM_110 : CK RM 110 yM_link cM_link 4 none 3 := ⟨WSg_in (List.mem_of_getElem? (i := 731) (by decide +kernel)) rfl, WSg_in (List.mem_of_getElem? (i := 62) (by decide +kernel)) rfl, WSg_in (List.mem_of_getElem? (i := 730) (by decide +kernel)) rfl, WSg_in (List.mem_of_getElem? (i := 49) (by decide +kernel)) rfl, Or.inl (WSg_in (List.mem_of_getElem? (i := 728) (by decide +kernel)) rfl), ⟨by decide, by decide⟩, by decide +kernel⟩
theorem ckM_114 : CK RM 114 yM_retire cM_retire 5 none 2 := ⟨WSg_in (List.mem_of_getElem? (i := 735) (by decide +kernel)) rfl, WSg_in (List.mem_of_getElem? (i := 62) (by decide +kernel)) rfl, WSg_in (List.mem_of_getElem? (i := 734) (by decide +kernel)) rfl, WSg_in (List.mem_of_getElem? (i := 50) (by decide +kernel)) rfl, Or.inl (WSg_in (List.mem_of_getElem? (i := 732) (by decide +kernel)) rfl), ⟨by decide, by decide⟩, by decide +kernel⟩
theorem ckM_138 : CK RM 138 yM_act cM_act 2 (some .int) 1 := ⟨WSg_in (List.mem_of_getElem? (i := 739) (by decide +kernel)) rfl, WSg_in (List.mem_of_getElem? (i := 62) (by decide +kernel)) rfl, WSg_in (List.mem_of_getElem? (i := 738) (by decide +kernel)) rfl, WSg_in (List.mem_of_getElem? (i := 51) (by decide +kernel)) rfl, Or.inl (WSg_in (List.mem_of_getElem? (i := 736) (by decide +kernel)) rfl), ⟨by decide, by decide⟩, by decide +kernel⟩
theorem ckM_117 : CK RM 117 yM_insert cM_insert 3 (some .int) 1 := ⟨WSg_in (List.mem_of_getElem? (i := 743) (by decide +kernel)) rfl, WSg_in (List.mem_of_getElem? (i := 62) (by decide +kernel)) rfl, WSg_in (List.mem_of_getElem? (i := 742) (by decide +kernel)) rfl, WSg_in (List.mem_of_getElem? (i := 52) (by decide +kernel)) rfl, Or.inl (WSg_in (List.mem_of_getElem? (i := 740) (by decide +kernel)) rfl), ⟨by decide, by decide⟩, by decide +kernel⟩
theorem ckM_120 : CK RM 120 yM_remove cM_remove 3 (some .int) 1 := ⟨WSg_in (List.mem_of_getElem? (i := 747) (by decide +kernel)) rfl, WSg_in (List.mem_of_getElem? (i := 62) (by decide +kernel)) rfl, WSg_in (List.mem_of_getElem? (i := 746) (by decide +kernel)) rfl, WSg_in (List.mem_of_getElem? (i := 53) (by decide +kernel)) rfl, Or.inl (WSg_in (List.mem_of_getElem? (i := 744) (by decide +kernel)) rfl), ⟨by decide, by decide⟩, by decide +kernel⟩
theorem ckM_141 : CK RM 141 yM_hang cM_hang 2 (some .int) 1 := ⟨WSg_in (List.mem_of_getElem? (i := 751) (by decide +kernel)) rfl, WSg_in (List.mem_of_getElem? (i := 62) (by decide +kernel)) rfl, WSg_in (List.mem_of_getElem? (i := 750) (by decide +kernel)) rfl, WSg_in (List.mem_of_getElem? (i := 54) (by decide +kernel)) rfl, Or.inl (WSg_in (List.mem_of_getElem? (i := 748) (by decide +kernel)) rfl), ⟨by decide, by decide⟩, by decide +kernel⟩
theorem ckM_144 : CK RM 144 yM_end cM_end 2 (some .int) 1 := ⟨WSg_in (List.mem_of_getElem? (i := 755) (by decide +kernel)) rfl, WSg_in (List.mem_of_getElem? (i := 62) (by decide +kernel)) rfl, WSg_in (List.mem_of_getElem? (i := 754) (by decide +kernel)) rfl, WSg_in (List.mem_of_getElem? (i := 55) (by decide +kernel)) rfl, Or.inl (WSg_in (List.mem_of_getElem? (i := 752) (by decide +kernel)) rfl), ⟨by decide, by decide⟩, by decide +kernel⟩
theorem ckM_147 : CK RM 147 yM_unhang cM_unhang 2 (some .int) 1 := ⟨WSg_in (List.mem_of_getElem? (i := 759) (by decide +kernel)) rfl, WSg_in (List.mem_of_getElem? (i := 62) (by decide +kernel)) rfl, WSg_in (List.mem_of_getElem? (i := 758) (by decide +kernel)) rfl, WSg_in (List.mem_of_getElem? (i := 56) (by decide +kernel)) rfl, Or.inl (WSg_in (List.mem_of_getElem? (i := 756) (by decide +kernel)) rfl), ⟨by decide, by decide⟩, by decide +kernel⟩
theorem ckL_79 : CK RL 79 yM_finish cM_finish 3 (some .int) 1 := ⟨WSg_in (List.mem_of_getElem? (i := 763) (by decide +kernel)) rfl, WSg_in (List.mem_of_getElem? (i := 62) (by decide +kernel)) rfl, WSg_in (List.mem_of_getElem? (i := 761) (by decide +kernel)) rfl, WSg_in (List.mem_of_getElem? (i := 762) (by decide +kernel)) rfl, Or.inl (WSg_in (List.mem_of_getElem? (i := 760) (by decide +kernel)) rfl), ⟨by decide, by decide⟩, by decide +kernel⟩
theorem ckL_82 : CK RL 82 yM_result cM_result 2 (some .int) 1 := ⟨WSg_in (List.mem_of_getElem? (i := 767) (by decide +kernel)) rfl, WSg_in (List.mem_of_getElem? (i := 62) (by decide +kernel)) rfl, WSg_in (List.mem_of_getElem? (i := 765) (by decide +kernel)) rfl, WSg_in (List.mem_of_getElem? (i := 766) (by decide +kernel)) rfl, Or.inl (WSg_in (List.mem_of_getElem? (i := 764) (by decide +kernel)) rfl), ⟨by decide, by decide⟩, by decide +kernel⟩
theorem ckL_85 : CK RL 85 yM_at cM_at 2 (some .int) 1 := ⟨WSg_in (List.mem_of_getElem? (i := 771) (by decide +kernel)) rfl, WSg_in (List.mem_of_getElem? (i := 62) (by decide +kernel)) rfl, WSg_in (List.mem_of_getElem? (i := 769) (by decide +kernel)) rfl, WSg_in (List.mem_of_getElem? (i := 770) (by decide +kernel)) rfl, Or.inl (WSg_in (List.mem_of_getElem? (i := 768) (by decide +kernel)) rfl), ⟨by decide, by decide⟩, by decide +kernel⟩
theorem ckL_89 : CK RL 89 yM_known cM_known 3 (some .int) 2 := ⟨WSg_in (List.mem_of_getElem? (i := 775) (by decide +kernel)) rfl, WSg_in (List.mem_of_getElem? (i := 62) (by decide +kernel)) rfl, WSg_in (List.mem_of_getElem? (i := 773) (by decide +kernel)) rfl, WSg_in (List.mem_of_getElem? (i := 774) (by decide +kernel)) rfl, Or.inl (WSg_in (List.mem_of_getElem? (i := 772) (by decide +kernel)) rfl), ⟨by decide, by decide⟩, by decide +kernel⟩
theorem ckL_92 : CK RL 92 yM_says cM_says 4 (some .int) 2 := ⟨WSg_in (List.mem_of_getElem? (i := 779) (by decide +kernel)) rfl, WSg_in (List.mem_of_getElem? (i := 62) (by decide +kernel)) rfl, WSg_in (List.mem_of_getElem? (i := 777) (by decide +kernel)) rfl, WSg_in (List.mem_of_getElem? (i := 778) (by decide +kernel)) rfl, Or.inl (WSg_in (List.mem_of_getElem? (i := 776) (by decide +kernel)) rfl), ⟨by decide, by decide⟩, by decide +kernel⟩
theorem ckL_102 : CK RL 102 yM_block cM_block 3 (some .int) 2 := ⟨WSg_in (List.mem_of_getElem? (i := 783) (by decide +kernel)) rfl, WSg_in (List.mem_of_getElem? (i := 62) (by decide +kernel)) rfl, WSg_in (List.mem_of_getElem? (i := 781) (by decide +kernel)) rfl, WSg_in (List.mem_of_getElem? (i := 782) (by decide +kernel)) rfl, Or.inl (WSg_in (List.mem_of_getElem? (i := 780) (by decide +kernel)) rfl), ⟨by decide, by decide⟩, by decide +kernel⟩
theorem ckL_106 : CK RL 106 yM_size cM_size 1 (some .int) 0 := ⟨WSg_in (List.mem_of_getElem? (i := 787) (by decide +kernel)) rfl, WSg_in (List.mem_of_getElem? (i := 62) (by decide +kernel)) rfl, WSg_in (List.mem_of_getElem? (i := 785) (by decide +kernel)) rfl, WSg_in (List.mem_of_getElem? (i := 786) (by decide +kernel)) rfl, Or.inl (WSg_in (List.mem_of_getElem? (i := 784) (by decide +kernel)) rfl), ⟨by decide, by decide⟩, by decide +kernel⟩
theorem ckM_153 : CK RM 153 yM_count cM_count 6 (some .int) 2 := ⟨WSg_in (List.mem_of_getElem? (i := 791) (by decide +kernel)) rfl, WSg_in (List.mem_of_getElem? (i := 62) (by decide +kernel)) rfl, WSg_in (List.mem_of_getElem? (i := 790) (by decide +kernel)) rfl, WSg_in (List.mem_of_getElem? (i := 57) (by decide +kernel)) rfl, Or.inl (WSg_in (List.mem_of_getElem? (i := 788) (by decide +kernel)) rfl), ⟨by decide, by decide⟩, by decide +kernel⟩
theorem ckL_111 : CK RL 111 yM_has cM_has 2 (some .boolean) 1 := ⟨WSg_in (List.mem_of_getElem? (i := 795) (by decide +kernel)) rfl, WSg_in (List.mem_of_getElem? (i := 62) (by decide +kernel)) rfl, WSg_in (List.mem_of_getElem? (i := 793) (by decide +kernel)) rfl, WSg_in (List.mem_of_getElem? (i := 794) (by decide +kernel)) rfl, Or.inl (WSg_in (List.mem_of_getElem? (i := 792) (by decide +kernel)) rfl), ⟨by decide, by decide⟩, by decide +kernel⟩
theorem ckL_115 : CK RL 115 yM_faults cM_faults 1 (some .int) 0 := ⟨WSg_in (List.mem_of_getElem? (i := 799) (by decide +kernel)) rfl, WSg_in (List.mem_of_getElem? (i := 62) (by decide +kernel)) rfl, WSg_in (List.mem_of_getElem? (i := 797) (by decide +kernel)) rfl, WSg_in (List.mem_of_getElem? (i := 798) (by decide +kernel)) rfl, Or.inl (WSg_in (List.mem_of_getElem? (i := 796) (by decide +kernel)) rfl), ⟨by decide, by decide⟩, by decide +kernel⟩
theorem ckL_119 : CK RL 119 yM_epoch cM_epoch 1 (some .int) 0 := ⟨WSg_in (List.mem_of_getElem? (i := 803) (by decide +kernel)) rfl, WSg_in (List.mem_of_getElem? (i := 62) (by decide +kernel)) rfl, WSg_in (List.mem_of_getElem? (i := 801) (by decide +kernel)) rfl, WSg_in (List.mem_of_getElem? (i := 802) (by decide +kernel)) rfl, Or.inl (WSg_in (List.mem_of_getElem? (i := 800) (by decide +kernel)) rfl), ⟨by decide, by decide⟩, by decide +kernel⟩
end
section
def f_leadsTo (k : Nat) (b : Int32) (c : CS) : Int32 := (if c 2 k = b then (if c 3 k = 0 then 1 else 0) else 0)
set_option maxRecDepth 100000 in
set_option maxHeartbeats 4000000 in
theorem k_leadsTo (l : Launch) (D : va_G) (K : Nat → ClassId) (base : Nat) (X : Nat → Nat) (k : Nat) (hk : k < 21) (b : Int32) (c : CS) (hI : Inv c) : CtI l D K base yB_leadsTo cB_leadsTo 2 .boolean (rmD 0) [.ref (X (2 + k)), .int b] (cW X K c) (f_leadsTo k b c) (cW X K c) := by
  refine CtI.enter (by decide) (Nat.le_of_ble_eq_true rfl) ?_
  intro κ A Q F hE
  show G κ l (rmD 0) A Q D 2 0 0 (cW X K c) 0 [(0, .ref (X (2 + k))), (1, .int b)] []
  refine G.aload_n 0 F dB_leadsTo_0 rfl rfl ?_
  refine G.gB 2 F hk (by decide) flB_18 dB_leadsTo_1 ?_
  refine G.iload_n 1 F dB_leadsTo_4 rfl rfl ?_
  refine G.icmp_ne 19 F dB_leadsTo_5 rfl (fun h1 => ?_) (fun h1 => ?_)
  · skip
    refine G.iconst 0 F dB_leadsTo_19 (by decide) ?_
    exact hE _ _ 0 dB_leadsTo_20 rfl (if_neg h1).symm
  · skip
    refine G.aload_n 0 F dB_leadsTo_8 rfl rfl ?_
    refine G.gB 3 F hk (by decide) flB_21 dB_leadsTo_9 ?_
    refine G.if_ne 19 F dB_leadsTo_12 rfl (fun h2 => ?_) (fun h2 => ?_)
    · skip
      refine G.iconst 0 F dB_leadsTo_19 (by decide) ?_
      exact hE _ _ 0 dB_leadsTo_20 rfl ((if_pos h1).trans (if_neg h2)).symm
    · skip
      refine G.iconst 1 F dB_leadsTo_15 (by decide) ?_
      refine G.goto 20 F dB_leadsTo_16 rfl ?_
      exact hE _ _ 1 dB_leadsTo_20 rfl ((if_pos h1).trans (if_pos h2)).symm

def f_lead (k : Nat) (b : Int32) (c : CS) : CS := (up2 (up2 c 2 k b) 3 k 0)
theorem i_lead (k : Nat) (hk : k < 21) (b : Int32) (hb : vp_in b 21) (c : CS) (hI : Inv c) : Inv (f_lead k b c) := by
  unfold f_lead
  exact (Inv.upo (Inv.upi hI hb) rfl)
set_option maxRecDepth 100000 in
set_option maxHeartbeats 4000000 in
theorem k_lead (l : Launch) (D : va_G) (K : Nat → ClassId) (base : Nat) (X : Nat → Nat) (k : Nat) (hk : k < 21) (b : Int32) (hb : vp_in b 21) (c : CS) (hI : Inv c) : CtV l D K base yB_lead cB_lead 2 (rmD 0) [.ref (X (2 + k)), .int b] (cW X K c) (cW X K (f_lead k b c)) := by
  refine CtV.enter (by decide) (Nat.le_of_ble_eq_true rfl) ?_
  intro κ A Q F hE
  show G κ l (rmD 0) A Q D 2 0 0 (cW X K c) 0 [(0, .ref (X (2 + k))), (1, .int b)] []
  refine G.aload_n 0 F dB_lead_0 rfl rfl ?_
  refine G.iload_n 1 F dB_lead_1 rfl rfl ?_
  refine G.pB 2 F hk (by decide) flB_18 rfl rfl dB_lead_2 ?_
  refine G.aload_n 0 F dB_lead_5 rfl rfl ?_
  refine G.iconst 0 F dB_lead_6 (by decide) ?_
  refine G.pB 3 F hk (by decide) flB_21 rfl rfl dB_lead_7 ?_
  exact G.st (congrArg (cW X K) rfl) (hE _ _ dB_lead_10)

def f_retireWith (k : Nat) (e : Int32) (c : CS) : CS := (up2 (up2 c 0 k 2) 5 k e)
theorem i_retireWith (k : Nat) (hk : k < 21) (e : Int32) (c : CS) (hI : Inv c) : Inv (f_retireWith k e c) := by
  unfold f_retireWith
  exact (Inv.upo (Inv.upo hI rfl) rfl)
set_option maxRecDepth 100000 in
set_option maxHeartbeats 4000000 in
theorem k_retireWith (l : Launch) (D : va_G) (K : Nat → ClassId) (base : Nat) (X : Nat → Nat) (k : Nat) (hk : k < 21) (e : Int32) (c : CS) (hI : Inv c) : CtV l D K base yB_retireWith cB_retireWith 2 (rmD 0) [.ref (X (2 + k)), .int e] (cW X K c) (cW X K (f_retireWith k e c)) := by
  refine CtV.enter (by decide) (Nat.le_of_ble_eq_true rfl) ?_
  intro κ A Q F hE
  show G κ l (rmD 0) A Q D 2 0 0 (cW X K c) 0 [(0, .ref (X (2 + k))), (1, .int e)] []
  refine G.aload_n 0 F dB_retireWith_0 rfl rfl ?_
  refine G.iconst 2 F dB_retireWith_1 (by decide) ?_
  refine G.pB 0 F hk (by decide) flB_9 rfl rfl dB_retireWith_2 ?_
  refine G.aload_n 0 F dB_retireWith_5 rfl rfl ?_
  refine G.iload_n 1 F dB_retireWith_6 rfl rfl ?_
  refine G.pB 5 F hk (by decide) flB_15 rfl rfl dB_retireWith_7 ?_
  exact G.st (congrArg (cW X K) rfl) (hE _ _ dB_retireWith_10)

def f_setFree (k : Nat) (c : CS) : CS := (up2 (up2 c 0 k 0) 5 k (-1))
theorem i_setFree (k : Nat) (hk : k < 21) (c : CS) (hI : Inv c) : Inv (f_setFree k c) := by
  unfold f_setFree
  exact (Inv.upo (Inv.upo hI rfl) rfl)
set_option maxRecDepth 100000 in
set_option maxHeartbeats 4000000 in
theorem k_setFree (l : Launch) (D : va_G) (K : Nat → ClassId) (base : Nat) (X : Nat → Nat) (k : Nat) (hk : k < 21) (c : CS) (hI : Inv c) : CtV l D K base yB_setFree cB_setFree 1 (rmD 0) [.ref (X (2 + k))] (cW X K c) (cW X K (f_setFree k c)) := by
  refine CtV.enter (by decide) (Nat.le_of_ble_eq_true rfl) ?_
  intro κ A Q F hE
  show G κ l (rmD 0) A Q D 1 0 0 (cW X K c) 0 [(0, .ref (X (2 + k)))] []
  refine G.aload_n 0 F dB_setFree_0 rfl rfl ?_
  refine G.iconst 0 F dB_setFree_1 (by decide) ?_
  refine G.pB 0 F hk (by decide) flB_9 rfl rfl dB_setFree_2 ?_
  refine G.aload_n 0 F dB_setFree_5 rfl rfl ?_
  refine G.iconst (-1) F dB_setFree_6 (by decide) ?_
  refine G.pB 5 F hk (by decide) flB_15 rfl rfl dB_setFree_7 ?_
  exact G.st (congrArg (cW X K) rfl) (hE _ _ dB_setFree_10)

def f_tell (k : Nat) (w : Int32) (c : CS) : Int32 := (if w = 0 then c 0 k else (if w = 1 then c 1 k else (if w = 2 then c 2 k else (if w = 3 then (if c 3 k = 0 then 0 else 1) else (if w = 4 then c 4 k else c 5 k)))))
set_option maxRecDepth 100000 in
set_option maxHeartbeats 4000000 in
theorem k_tell (l : Launch) (D : va_G) (K : Nat → ClassId) (base : Nat) (X : Nat → Nat) (k : Nat) (hk : k < 21) (w : Int32) (c : CS) (hI : Inv c) : CtI l D K base yB_tell cB_tell 2 .int (rmD 0) [.ref (X (2 + k)), .int w] (cW X K c) (f_tell k w c) (cW X K c) := by
  refine CtI.enter (by decide) (Nat.le_of_ble_eq_true rfl) ?_
  intro κ A Q F hE
  show G κ l (rmD 0) A Q D 2 0 0 (cW X K c) 0 [(0, .ref (X (2 + k))), (1, .int w)] []
  refine G.iload_n 1 F dB_tell_0 rfl rfl ?_
  by_cases h1 : w = 0
  · skip
    refine G.tabIn 36 (off := 35) F dB_tell_1 (sw_lo h1 (by decide)) (sw_hi h1 (by decide)) (sw_at h1 rfl) rfl ?_
    refine G.aload_n 0 F dB_tell_36 rfl rfl ?_
    refine G.gB 0 F hk (by decide) flB_9 dB_tell_37 ?_
    exact hE _ _ (c 0 k) dB_tell_40 rfl (if_pos h1).symm
  by_cases h2 : w = 1
  · skip
    refine G.tabIn 41 (off := 40) F dB_tell_1 (sw_lo h2 (by decide)) (sw_hi h2 (by decide)) (sw_at h2 rfl) rfl ?_
    refine G.aload_n 0 F dB_tell_41 rfl rfl ?_
    refine G.gB 1 F hk (by decide) flB_25 dB_tell_42 ?_
    exact hE _ _ (c 1 k) dB_tell_45 rfl ((if_neg h1).trans (if_pos h2)).symm
  by_cases h3 : w = 2
  · skip
    refine G.tabIn 46 (off := 45) F dB_tell_1 (sw_lo h3 (by decide)) (sw_hi h3 (by decide)) (sw_at h3 rfl) rfl ?_
    refine G.aload_n 0 F dB_tell_46 rfl rfl ?_
    refine G.gB 2 F hk (by decide) flB_18 dB_tell_47 ?_
    exact hE _ _ (c 2 k) dB_tell_50 rfl ((if_neg h1).trans ((if_neg h2).trans (if_pos h3))).symm
  by_cases h4 : w = 3
  · skip
    refine G.tabIn 51 (off := 50) F dB_tell_1 (sw_lo h4 (by decide)) (sw_hi h4 (by decide)) (sw_at h4 rfl) rfl ?_
    refine G.aload_n 0 F dB_tell_51 rfl rfl ?_
    refine G.gB 3 F hk (by decide) flB_21 dB_tell_52 ?_
    refine G.if_eq 62 F dB_tell_55 rfl (fun h5 => ?_) (fun h5 => ?_)
    · skip
      refine G.iconst 0 F dB_tell_62 (by decide) ?_
      exact hE _ _ 0 dB_tell_63 rfl ((if_neg h1).trans ((if_neg h2).trans ((if_neg h3).trans ((if_pos h4).trans (if_pos h5))))).symm
    · skip
      refine G.iconst 1 F dB_tell_58 (by decide) ?_
      refine G.goto 63 F dB_tell_59 rfl ?_
      exact hE _ _ 1 dB_tell_63 rfl ((if_neg h1).trans ((if_neg h2).trans ((if_neg h3).trans ((if_pos h4).trans (if_neg h5))))).symm
  by_cases h6 : w = 4
  · skip
    refine G.tabIn 64 (off := 63) F dB_tell_1 (sw_lo h6 (by decide)) (sw_hi h6 (by decide)) (sw_at h6 rfl) rfl ?_
    refine G.aload_n 0 F dB_tell_64 rfl rfl ?_
    refine G.gB 4 F hk (by decide) flB_28 dB_tell_65 ?_
    exact hE _ _ (c 4 k) dB_tell_68 rfl ((if_neg h1).trans ((if_neg h2).trans ((if_neg h3).trans ((if_neg h4).trans (if_pos h6))))).symm
  refine G.tabOut 69 F dB_tell_1 (by have e0 := lv_neT h1 (show (0 : Int32).toInt = 0 from rfl); have e1 := lv_neT h2 (show (1 : Int32).toInt = 1 from rfl); have e2 := lv_neT h3 (show (2 : Int32).toInt = 2 from rfl); have e3 := lv_neT h4 (show (3 : Int32).toInt = 3 from rfl); have e4 := lv_neT h6 (show (4 : Int32).toInt = 4 from rfl); omega) rfl ?_
  refine G.aload_n 0 F dB_tell_69 rfl rfl ?_
  refine G.gB 5 F hk (by decide) flB_15 dB_tell_70 ?_
  exact hE _ _ (c 5 k) dB_tell_73 rfl ((if_neg h1).trans ((if_neg h2).trans ((if_neg h3).trans ((if_neg h4).trans (if_neg h6))))).symm

def f_forget (t : Nat) (c : CS) : CS := (up2 (up2 (up2 (up2 (up2 (up2 (up2 c 10 t 0) 11 t 0) 12 t 0) 13 t 0) 14 t 0) 15 t 0) 16 t 0)
theorem i_forget (t : Nat) (ht : t < 4) (c : CS) (hI : Inv c) : Inv (f_forget t c) := by
  unfold f_forget
  exact (Inv.upi (Inv.upo (Inv.upi (Inv.upo (Inv.upi (Inv.upo (Inv.upi hI vp0) rfl) vp0) rfl) vp0) rfl) vp0)
set_option maxRecDepth 100000 in
set_option maxHeartbeats 4000000 in
theorem k_forget (l : Launch) (D : va_G) (K : Nat → ClassId) (base : Nat) (X : Nat → Nat) (t : Nat) (ht : t < 4) (c : CS) (hI : Inv c) : CtV l D K base yK_forget cK_forget 1 (rmD 0) [.ref (X (24 + t))] (cW X K c) (cW X K (f_forget t c)) := by
  refine CtV.enter (by decide) (Nat.le_of_ble_eq_true rfl) ?_
  intro κ A Q F hE
  show G κ l (rmD 0) A Q D 1 0 0 (cW X K c) 0 [(0, .ref (X (24 + t)))] []
  refine G.aload_n 0 F dK_forget_0 rfl rfl ?_
  refine G.iconst 0 F dK_forget_1 (by decide) ?_
  refine G.pT 4 10 F rfl ht (by decide) (by decide) flK_33 rfl rfl dK_forget_2 ?_
  refine G.aload_n 0 F dK_forget_5 rfl rfl ?_
  refine G.iconst 0 F dK_forget_6 (by decide) ?_
  refine G.pT 5 11 F rfl ht (by decide) (by decide) flK_36 rfl rfl dK_forget_7 ?_
  refine G.aload_n 0 F dK_forget_10 rfl rfl ?_
  refine G.iconst 0 F dK_forget_11 (by decide) ?_
  refine G.pT 6 12 F rfl ht (by decide) (by decide) flK_39 rfl rfl dK_forget_12 ?_
  refine G.aload_n 0 F dK_forget_15 rfl rfl ?_
  refine G.iconst 0 F dK_forget_16 (by decide) ?_
  refine G.pT 7 13 F rfl ht (by decide) (by decide) flK_42 rfl rfl dK_forget_17 ?_
  refine G.aload_n 0 F dK_forget_20 rfl rfl ?_
  refine G.iconst 0 F dK_forget_21 (by decide) ?_
  refine G.pT 8 14 F rfl ht (by decide) (by decide) flK_45 rfl rfl dK_forget_22 ?_
  refine G.aload_n 0 F dK_forget_25 rfl rfl ?_
  refine G.iconst 0 F dK_forget_26 (by decide) ?_
  refine G.pT 9 15 F rfl ht (by decide) (by decide) flK_48 rfl rfl dK_forget_27 ?_
  refine G.aload_n 0 F dK_forget_30 rfl rfl ?_
  refine G.iconst 0 F dK_forget_31 (by decide) ?_
  refine G.pT 10 16 F rfl ht (by decide) (by decide) flK_52 rfl rfl dK_forget_32 ?_
  exact G.st (congrArg (cW X K) rfl) (hE _ _ dK_forget_35)

def f_conclude (t : Nat) (r : Int32) (c : CS) : CS := (up2 (up2 c 17 t r) 7 t 9)
theorem i_conclude (t : Nat) (ht : t < 4) (r : Int32) (c : CS) (hI : Inv c) : Inv (f_conclude t r c) := by
  unfold f_conclude
  exact (Inv.upo (Inv.upo hI rfl) rfl)
set_option maxRecDepth 100000 in
set_option maxHeartbeats 4000000 in
theorem k_conclude (l : Launch) (D : va_G) (K : Nat → ClassId) (base : Nat) (X : Nat → Nat) (t : Nat) (ht : t < 4) (r : Int32) (c : CS) (hI : Inv c) : CtV l D K base yS_conclude cS_conclude 3 (rmD 0) [.ref (X 0), .ref (X (24 + t)), .int r] (cW X K c) (cW X K (f_conclude t r c)) := by
  refine CtV.enter (by decide) (Nat.le_of_ble_eq_true rfl) ?_
  intro κ A Q F hE
  show G κ l (rmD 0) A Q D 3 0 0 (cW X K c) 0 [(0, .ref (X 0)), (1, .ref (X (24 + t))), (2, .int r)] []
  refine G.aload_n 1 F dS_conclude_0 rfl rfl ?_
  refine G.iload_n 2 F dS_conclude_1 rfl rfl ?_
  refine G.pT 11 17 F rfl ht (by decide) (by decide) flS_222 rfl rfl dS_conclude_2 ?_
  refine G.aload_n 1 F dS_conclude_5 rfl rfl ?_
  refine G.bipush 9 F dS_conclude_6 (by decide) ?_
  refine G.pT 1 7 F rfl ht (by decide) (by decide) flS_42 rfl rfl dS_conclude_8 ?_
  exact G.st (congrArg (cW X K) rfl) (hE _ _ dS_conclude_11)

def f_countFault (k : Nat) (v : Int32) (c : CS) : CS := (if c 0 k = 0 then (up2 c 22 2 ((c 22 2) + 1)) else (if c 4 k = v then c else (up2 c 22 2 ((c 22 2) + 1))))
theorem i_countFault (k : Nat) (hk : k < 21) (v : Int32) (c : CS) (hI : Inv c) : Inv (f_countFault k v c) := by
  unfold f_countFault
  exact (ite_c (fun h1 => (Inv.upo hI rfl)) (fun h1 => (ite_c (fun h2 => hI) (fun h2 => (Inv.upo hI rfl)))))
set_option maxRecDepth 100000 in
set_option maxHeartbeats 4000000 in
theorem k_countFault (l : Launch) (D : va_G) (K : Nat → ClassId) (base : Nat) (X : Nat → Nat) (k : Nat) (hk : k < 21) (v : Int32) (c : CS) (hI : Inv c) : CtV l D K base yS_countFault cS_countFault 3 (rmD 0) [.ref (X 0), .ref (X (2 + k)), .int v] (cW X K c) (cW X K (f_countFault k v c)) := by
  refine CtV.enter (by decide) (Nat.le_of_ble_eq_true rfl) ?_
  intro κ A Q F hE
  show G κ l (rmD 0) A Q D 3 0 0 (cW X K c) 0 [(0, .ref (X 0)), (1, .ref (X (2 + k))), (2, .int v)] []
  refine G.aload_n 1 F dS_countFault_0 rfl rfl ?_
  refine G.gB 0 F hk (by decide) flS_235 dS_countFault_1 ?_
  refine G.if_eq 15 F dS_countFault_4 rfl (fun h1 => ?_) (fun h1 => ?_)
  · skip
    refine G.aload_n 0 F dS_countFault_15 rfl rfl ?_
    refine G.dup F dS_countFault_16 rfl ?_
    refine G.gX 4 F (by decide) flS_139 rfl dS_countFault_17 ?_
    refine G.iconst 1 F dS_countFault_20 (by decide) ?_
    refine G.iadd F dS_countFault_21 ?_
    refine G.pX4 F flS_139 dS_countFault_22 ?_
    exact G.st (congrArg (cW X K) (if_pos h1)) (hE _ _ dS_countFault_25)
  · skip
    refine G.aload_n 1 F dS_countFault_7 rfl rfl ?_
    refine G.gB 4 F hk (by decide) flS_225 dS_countFault_8 ?_
    refine G.iload_n 2 F dS_countFault_11 rfl rfl ?_
    refine G.icmp_eq 25 F dS_countFault_12 rfl (fun h2 => ?_) (fun h2 => ?_)
    · skip
      exact G.st (congrArg (cW X K) ((if_neg h1).trans (if_pos h2))) (hE _ _ dS_countFault_25)
    · skip
      refine G.aload_n 0 F dS_countFault_15 rfl rfl ?_
      refine G.dup F dS_countFault_16 rfl ?_
      refine G.gX 4 F (by decide) flS_139 rfl dS_countFault_17 ?_
      refine G.iconst 1 F dS_countFault_20 (by decide) ?_
      refine G.iadd F dS_countFault_21 ?_
      refine G.pX4 F flS_139 dS_countFault_22 ?_
      exact G.st (congrArg (cW X K) ((if_neg h1).trans (if_neg h2))) (hE _ _ dS_countFault_25)

def f_moveHereTo (t : Nat) (b : Int32) (c : CS) : CS := (if c 22 0 = 1 then (if b = 0 then (up2 (up2 (up2 c 12 t b) 13 t (c 4 b.toNatClampNeg)) 7 t 4) else (up2 (up2 (up2 c 12 t b) 13 t (c 4 b.toNatClampNeg)) 7 t 3)) else (up2 (up2 (up2 c 12 t b) 13 t (c 4 b.toNatClampNeg)) 7 t 4))
theorem i_moveHereTo (t : Nat) (ht : t < 4) (b : Int32) (hb : vp_in b 21) (c : CS) (hI : Inv c) : Inv (f_moveHereTo t b c) := by
  unfold f_moveHereTo
  exact (ite_c (fun h1 => (ite_c (fun h2 => (Inv.upo (Inv.upo (Inv.upi hI hb) rfl) rfl)) (fun h2 => (Inv.upo (Inv.upo (Inv.upi hI hb) rfl) rfl)))) (fun h1 => (Inv.upo (Inv.upo (Inv.upi hI hb) rfl) rfl)))
set_option maxRecDepth 100000 in
set_option maxHeartbeats 4000000 in
theorem k_moveHereTo (l : Launch) (D : va_G) (K : Nat → ClassId) (base : Nat) (X : Nat → Nat) (t : Nat) (ht : t < 4) (b : Int32) (hb : vp_in b 21) (c : CS) (hI : Inv c) : CtV l D K base yS_moveHereTo cS_moveHereTo 3 (rmD 0) [.ref (X 0), .ref (X (24 + t)), .int b] (cW X K c) (cW X K (f_moveHereTo t b c)) := by
  refine CtV.enter (by decide) (Nat.le_of_ble_eq_true rfl) ?_
  intro κ A Q F hE
  show G κ l (rmD 0) A Q D 3 0 0 (cW X K c) 0 [(0, .ref (X 0)), (1, .ref (X (24 + t))), (2, .int b)] []
  refine G.aload_n 1 F dS_moveHereTo_0 rfl rfl ?_
  refine G.iload_n 2 F dS_moveHereTo_1 rfl rfl ?_
  refine G.pT 6 12 F rfl ht (by decide) (by decide) flS_77 rfl rfl dS_moveHereTo_2 ?_
  refine G.aload_n 1 F dS_moveHereTo_5 rfl rfl ?_
  refine G.aload_n 0 F dS_moveHereTo_6 rfl rfl ?_
  refine G.gX 1 F (by decide) flS_15 rfl dS_moveHereTo_7 ?_
  refine G.iload_n 2 F dS_moveHereTo_10 rfl rfl ?_
  refine G.ldB F hb dS_moveHereTo_11 ?_
  refine G.gB 4 F (ix_lt hb) (by decide) flS_225 dS_moveHereTo_12 ?_
  refine G.tope (y := c 4 b.toNatClampNeg) (up2_f _ _ _ _ (by decide)) ?_
  refine G.pT 7 13 F rfl ht (by decide) (by decide) flS_196 rfl rfl dS_moveHereTo_15 ?_
  refine G.aload_n 1 F dS_moveHereTo_18 rfl rfl ?_
  refine G.aload_n 0 F dS_moveHereTo_19 rfl rfl ?_
  refine G.gX 0 F (by decide) flS_9 rfl dS_moveHereTo_20 ?_
  refine G.tope (y := c 22 0) ((up2_f _ _ _ _ (by decide)).trans (up2_f _ _ _ _ (by decide))) ?_
  refine G.iconst 1 F dS_moveHereTo_23 (by decide) ?_
  refine G.icmp_ne 35 F dS_moveHereTo_24 rfl (fun h1 => ?_) (fun h1 => ?_)
  · skip
    refine G.iconst 4 F dS_moveHereTo_35 (by decide) ?_
    refine G.pT 1 7 F rfl ht (by decide) (by decide) flS_42 rfl rfl dS_moveHereTo_36 ?_
    exact G.st (congrArg (cW X K) (if_neg h1)) (hE _ _ dS_moveHereTo_39)
  · skip
    refine G.iload_n 2 F dS_moveHereTo_27 rfl rfl ?_
    refine G.if_eq 35 F dS_moveHereTo_28 rfl (fun h2 => ?_) (fun h2 => ?_)
    · skip
      refine G.iconst 4 F dS_moveHereTo_35 (by decide) ?_
      refine G.pT 1 7 F rfl ht (by decide) (by decide) flS_42 rfl rfl dS_moveHereTo_36 ?_
      exact G.st (congrArg (cW X K) ((if_pos h1).trans (if_pos h2))) (hE _ _ dS_moveHereTo_39)
    · skip
      refine G.iconst 3 F dS_moveHereTo_31 (by decide) ?_
      refine G.goto 36 F dS_moveHereTo_32 rfl ?_
      refine G.pT 1 7 F rfl ht (by decide) (by decide) flS_42 rfl rfl dS_moveHereTo_36 ?_
      exact G.st (congrArg (cW X K) ((if_pos h1).trans (if_neg h2))) (hE _ _ dS_moveHereTo_39)

def f_isRetiredBy (t : Nat) (k : Nat) (c : CS) : Int32 := (if c 0 k = 2 then (if c 5 k = c 6 t then 1 else 0) else 0)
set_option maxRecDepth 100000 in
set_option maxHeartbeats 4000000 in
theorem k_isRetiredBy (l : Launch) (D : va_G) (K : Nat → ClassId) (base : Nat) (X : Nat → Nat) (t : Nat) (ht : t < 4) (k : Nat) (hk : k < 21) (c : CS) (hI : Inv c) : CtI l D K base yS_isRetiredBy cS_isRetiredBy 3 .boolean (rmD 0) [.ref (X 0), .ref (X (24 + t)), .int (nI k)] (cW X K c) (f_isRetiredBy t k c) (cW X K c) := by
  refine CtI.enter (by decide) (Nat.le_of_ble_eq_true rfl) ?_
  intro κ A Q F hE
  show G κ l (rmD 0) A Q D 3 0 0 (cW X K c) 0 [(0, .ref (X 0)), (1, .ref (X (24 + t))), (2, .int (nI k))] []
  refine G.aload_n 0 F dS_isRetiredBy_0 rfl rfl ?_
  refine G.gX 1 F (by decide) flS_15 rfl dS_isRetiredBy_1 ?_
  refine G.iload_n 2 F dS_isRetiredBy_4 rfl rfl ?_
  refine G.ldBn k F rfl hk dS_isRetiredBy_5 ?_
  refine G.gB 0 F hk (by decide) flS_235 dS_isRetiredBy_6 ?_
  refine G.iconst 2 F dS_isRetiredBy_9 (by decide) ?_
  refine G.icmp_ne 33 F dS_isRetiredBy_10 rfl (fun h1 => ?_) (fun h1 => ?_)
  · skip
    refine G.iconst 0 F dS_isRetiredBy_33 (by decide) ?_
    exact hE _ _ 0 dS_isRetiredBy_34 rfl (if_neg h1).symm
  · skip
    refine G.aload_n 0 F dS_isRetiredBy_13 rfl rfl ?_
    refine G.gX 1 F (by decide) flS_15 rfl dS_isRetiredBy_14 ?_
    refine G.iload_n 2 F dS_isRetiredBy_17 rfl rfl ?_
    refine G.ldBn k F rfl hk dS_isRetiredBy_18 ?_
    refine G.gB 5 F hk (by decide) flS_250 dS_isRetiredBy_19 ?_
    refine G.aload_n 1 F dS_isRetiredBy_22 rfl rfl ?_
    refine G.gT 0 6 F rfl ht (by decide) flS_244 dS_isRetiredBy_23 ?_
    refine G.icmp_ne 33 F dS_isRetiredBy_26 rfl (fun h2 => ?_) (fun h2 => ?_)
    · skip
      refine G.iconst 0 F dS_isRetiredBy_33 (by decide) ?_
      exact hE _ _ 0 dS_isRetiredBy_34 rfl ((if_pos h1).trans (if_neg h2)).symm
    · skip
      refine G.iconst 1 F dS_isRetiredBy_29 (by decide) ?_
      refine G.goto 34 F dS_isRetiredBy_30 rfl ?_
      exact hE _ _ 1 dS_isRetiredBy_34 rfl ((if_pos h1).trans (if_pos h2)).symm

def fl_isNamed_2 (b : Int32) : Nat → Nat → CS → Int32
  | 0, _, c => 0
  | n + 1, k, c => (if c 19 k = b then 1 else (if c 20 k = b then 1 else (fl_isNamed_2 b n (k + 1) c)))
def f_isNamed (b : Int32) (c : CS) : Int32 := (fl_isNamed_2 b 4 0 c)
set_option maxRecDepth 100000 in
set_option maxHeartbeats 4000000 in
theorem k_isNamed (l : Launch) (D : va_G) (K : Nat → ClassId) (base : Nat) (X : Nat → Nat) (b : Int32) (c : CS) (hI : Inv c) : CtI l D K base yS_isNamed cS_isNamed 3 .boolean (rmD 0) [.ref (X 0), .int b] (cW X K c) (f_isNamed b c) (cW X K c) := by
  refine CtI.enter (by decide) (Nat.le_of_ble_eq_true rfl) ?_
  intro κ A Q F hE
  show G κ l (rmD 0) A Q D 3 0 0 (cW X K c) 0 [(0, .ref (X 0)), (1, .int b)] []
  have hloop2 : ∀ (n k : Nat), k + n = 4 → f_isNamed b c = fl_isNamed_2 b n k c → G κ l (rmD 0) A Q D 3 0 0 (cW X K c) 2 [(2, .int (nI k)), (0, .ref (X 0)), (1, .int b)] [] := by
    intro n
    induction n with
    | zero =>
      intro k hkn hρ
      obtain rfl : k = 4 := by omega
      refine G.iload_n 0 F dS_isNamed_2 rfl rfl ?_
      refine G.iconst 4 F dS_isNamed_3 (by decide) ?_
      refine G.icmp_ge 41 F dS_isNamed_4 rfl (fun _ => ?_) (fun h9 => absurd (by decide) h9)
      refine G.iconst 0 F dS_isNamed_41 (by decide) ?_
      exact hE _ _ 0 dS_isNamed_42 rfl hρ.symm
    | succ n ih =>
      intro k hkn hρ
      have hk : k < 4 := by omega
      refine G.iload_n 0 F dS_isNamed_2 rfl rfl ?_
      refine G.iconst 4 F dS_isNamed_3 (by decide) ?_
      refine G.icmp_ge 41 F dS_isNamed_4 rfl (fun h9 => absurd h9 (nI_ge (b := 4) (Nat.lt_of_lt_of_le hk (by decide)) (by decide))) (fun _ => ?_)
      refine G.aload_n 1 F dS_isNamed_7 rfl rfl ?_
      refine G.gX 2 F (by decide) flS_22 rfl dS_isNamed_8 ?_
      refine G.iload_n 0 F dS_isNamed_11 rfl rfl ?_
      refine G.ldTn k F rfl hk dS_isNamed_12 ?_
      refine G.gT 13 19 F rfl hk (by decide) flS_91 dS_isNamed_13 ?_
      refine G.iload_n 2 F dS_isNamed_16 rfl rfl ?_
      refine G.icmp_eq 33 F dS_isNamed_17 rfl (fun h1 => ?_) (fun h1 => ?_)
      · skip
        refine G.iconst 1 F dS_isNamed_33 (by decide) ?_
        exact hE _ _ 1 dS_isNamed_34 rfl (hρ.trans (if_pos h1)).symm
      · skip
        refine G.aload_n 1 F dS_isNamed_20 rfl rfl ?_
        refine G.gX 2 F (by decide) flS_22 rfl dS_isNamed_21 ?_
        refine G.iload_n 0 F dS_isNamed_24 rfl rfl ?_
        refine G.ldTn k F rfl hk dS_isNamed_25 ?_
        refine G.gT 14 20 F rfl hk (by decide) flS_94 dS_isNamed_26 ?_
        refine G.iload_n 2 F dS_isNamed_29 rfl rfl ?_
        refine G.icmp_ne 35 F dS_isNamed_30 rfl (fun h2 => ?_) (fun h2 => ?_)
        · skip
          refine G.iinc 0 (nI (k + 1)) F dS_isNamed_35 rfl (nI_succ k).symm (by decide) rfl ?_
          refine G.goto 2 F dS_isNamed_38 rfl ?_
          exact ih (k + 1) (by omega) (hρ.trans ((if_neg h1).trans (if_neg h2)))
        · skip
          refine G.iconst 1 F dS_isNamed_33 (by decide) ?_
          exact hE _ _ 1 dS_isNamed_34 rfl (hρ.trans ((if_neg h1).trans (if_pos h2))).symm
  refine G.iconst 0 F dS_isNamed_0 (by decide) ?_
  refine G.istore_nN F dS_isNamed_1 rfl (by decide) rfl ?_
  exact hloop2 4 0 (by decide) rfl

def fl_allAnnounceCurrentEpoch_2  : Nat → Nat → CS → Int32
  | 0, _, c => 1
  | n + 1, k, c => (if c 21 k = (-1) then (fl_allAnnounceCurrentEpoch_2  n (k + 1) c) else (if c 21 k = c 22 1 then (fl_allAnnounceCurrentEpoch_2  n (k + 1) c) else 0))
def f_allAnnounceCurrentEpoch (c : CS) : Int32 := (fl_allAnnounceCurrentEpoch_2 4 0 c)
set_option maxRecDepth 100000 in
set_option maxHeartbeats 4000000 in
theorem k_allAnnounceCurrentEpoch (l : Launch) (D : va_G) (K : Nat → ClassId) (base : Nat) (X : Nat → Nat)  (c : CS) (hI : Inv c) : CtI l D K base yS_allAnnounceCurrentEpoch cS_allAnnounceCurrentEpoch 3 .boolean (rmD 0) [.ref (X 0)] (cW X K c) (f_allAnnounceCurrentEpoch c) (cW X K c) := by
  refine CtI.enter (by decide) (Nat.le_of_ble_eq_true rfl) ?_
  intro κ A Q F hE
  show G κ l (rmD 0) A Q D 3 0 0 (cW X K c) 0 [(0, .ref (X 0))] []
  have hloop2 : ∀ (n k : Nat), k + n = 4 → f_allAnnounceCurrentEpoch c = fl_allAnnounceCurrentEpoch_2  n k c → G κ l (rmD 0) A Q D 3 0 0 (cW X K c) 2 [(1, .int (nI k)), (0, .ref (X 0))] [] := by
    intro n
    induction n with
    | zero =>
      intro k hkn hρ
      obtain rfl : k = 4 := by omega
      refine G.iload_n 0 F dS_allAnnounceCurrentEpoch_2 rfl rfl ?_
      refine G.iconst 4 F dS_allAnnounceCurrentEpoch_3 (by decide) ?_
      refine G.icmp_ge 38 F dS_allAnnounceCurrentEpoch_4 rfl (fun _ => ?_) (fun h9 => absurd (by decide) h9)
      refine G.iconst 1 F dS_allAnnounceCurrentEpoch_38 (by decide) ?_
      exact hE _ _ 1 dS_allAnnounceCurrentEpoch_39 rfl hρ.symm
    | succ n ih =>
      intro k hkn hρ
      have hk : k < 4 := by omega
      refine G.iload_n 0 F dS_allAnnounceCurrentEpoch_2 rfl rfl ?_
      refine G.iconst 4 F dS_allAnnounceCurrentEpoch_3 (by decide) ?_
      refine G.icmp_ge 38 F dS_allAnnounceCurrentEpoch_4 rfl (fun h9 => absurd h9 (nI_ge (b := 4) (Nat.lt_of_lt_of_le hk (by decide)) (by decide))) (fun _ => ?_)
      refine G.aload_n 1 F dS_allAnnounceCurrentEpoch_7 rfl rfl ?_
      refine G.gX 2 F (by decide) flS_22 rfl dS_allAnnounceCurrentEpoch_8 ?_
      refine G.iload_n 0 F dS_allAnnounceCurrentEpoch_11 rfl rfl ?_
      refine G.ldTn k F rfl hk dS_allAnnounceCurrentEpoch_12 ?_
      refine G.gT 15 21 F rfl hk (by decide) flS_97 dS_allAnnounceCurrentEpoch_13 ?_
      refine G.istore_nN F dS_allAnnounceCurrentEpoch_16 rfl (by decide) rfl ?_
      refine G.iload_n 0 F dS_allAnnounceCurrentEpoch_17 rfl rfl ?_
      refine G.iconst (-1) F dS_allAnnounceCurrentEpoch_18 (by decide) ?_
      refine G.icmp_eq 32 F dS_allAnnounceCurrentEpoch_19 rfl (fun h1 => ?_) (fun h1 => ?_)
      · skip
        refine G.iinc 1 (nI (k + 1)) F dS_allAnnounceCurrentEpoch_32 rfl (nI_succ k).symm (by decide) rfl ?_
        refine G.goto 2 F dS_allAnnounceCurrentEpoch_35 rfl ?_
        refine G.drop ?_
        exact ih (k + 1) (by omega) (hρ.trans (if_pos h1))
      · skip
        refine G.iload_n 0 F dS_allAnnounceCurrentEpoch_22 rfl rfl ?_
        refine G.aload_n 2 F dS_allAnnounceCurrentEpoch_23 rfl rfl ?_
        refine G.gX 3 F (by decide) flS_111 rfl dS_allAnnounceCurrentEpoch_24 ?_
        refine G.icmp_eq 32 F dS_allAnnounceCurrentEpoch_27 rfl (fun h2 => ?_) (fun h2 => ?_)
        · skip
          refine G.iinc 1 (nI (k + 1)) F dS_allAnnounceCurrentEpoch_32 rfl (nI_succ k).symm (by decide) rfl ?_
          refine G.goto 2 F dS_allAnnounceCurrentEpoch_35 rfl ?_
          refine G.drop ?_
          exact ih (k + 1) (by omega) (hρ.trans ((if_neg h1).trans (if_pos h2)))
        · skip
          refine G.iconst 0 F dS_allAnnounceCurrentEpoch_30 (by decide) ?_
          exact hE _ _ 0 dS_allAnnounceCurrentEpoch_31 rfl (hρ.trans ((if_neg h1).trans (if_neg h2))).symm
  refine G.iconst 0 F dS_allAnnounceCurrentEpoch_0 (by decide) ?_
  refine G.istore_nN F dS_allAnnounceCurrentEpoch_1 rfl (by decide) rfl ?_
  exact hloop2 4 0 (by decide) rfl

def fl_takeFreeBlock_2  : Nat → Nat → CS → Int32 × CS
  | 0, _, c9 => (0, c9)
  | n + 1, k, c9 => (if c9 0 k = 0 then (nI k, (up2 (up2 c9 0 k 1) 4 k ((c9 4 k) + 1))) else (fl_takeFreeBlock_2  n (k + 1) c9))
def f_takeFreeBlock (c : CS) : Int32 × CS := (fl_takeFreeBlock_2 20 1 c)
theorem i_fl_takeFreeBlock_2  : ∀ (n k : Nat) (c9 : CS), k + n = 21 → Inv c9 → Inv (fl_takeFreeBlock_2  n k c9).2 := by
  intro n
  induction n with
  | zero =>
    intro k c9 hkn hI9
    exact hI9
  | succ n ih =>
    intro k c9 hkn hI9
    have hk : k < 21 := by omega
    unfold fl_takeFreeBlock_2
    exact (ite_c2 (fun h1 => (Inv.upo (Inv.upo hI9 rfl) rfl)) (fun h1 => (ih (k + 1) _ (by omega) hI9)))
theorem i_takeFreeBlock  (c : CS) (hI : Inv c) : Inv (f_takeFreeBlock  c).2 := by
  unfold f_takeFreeBlock
  exact (i_fl_takeFreeBlock_2  20 1 _ (by decide) hI)
set_option maxRecDepth 100000 in
set_option maxHeartbeats 4000000 in
theorem k_takeFreeBlock (l : Launch) (D : va_G) (K : Nat → ClassId) (base : Nat) (X : Nat → Nat)  (c : CS) (hI : Inv c) : CtI l D K base yS_takeFreeBlock cS_takeFreeBlock 2 .int (rmD 0) [.ref (X 0)] (cW X K c) (f_takeFreeBlock c).1 (cW X K (f_takeFreeBlock c).2) := by
  refine CtI.enter (by decide) (Nat.le_of_ble_eq_true rfl) ?_
  intro κ A Q F hE
  show G κ l (rmD 0) A Q D 2 0 0 (cW X K c) 0 [(0, .ref (X 0))] []
  have hloop2 : ∀ (n k : Nat) (c9 : CS), k + n = 21 → Inv c9 → f_takeFreeBlock c = fl_takeFreeBlock_2  n k c9 → G κ l (rmD 0) A Q D 2 0 0 (cW X K c9) 2 [(1, .int (nI k)), (0, .ref (X 0))] [] := by
    intro n
    induction n with
    | zero =>
      intro k c9 hkn hI9 hρ
      obtain rfl : k = 21 := by omega
      refine G.iload_n 0 F dS_takeFreeBlock_2 rfl rfl ?_
      refine G.bipush 20 F dS_takeFreeBlock_3 (by decide) ?_
      refine G.icmp_gt 53 F dS_takeFreeBlock_5 rfl (fun _ => ?_) (fun h9 => absurd (by decide) h9)
      refine G.iconst 0 F dS_takeFreeBlock_53 (by decide) ?_
      have hr9 : f_takeFreeBlock c = (0, c9) := hρ
      exact G.st (congrArg (fun z : Int32 × CS => cW X K z.2) hr9) (hE _ _ 0 dS_takeFreeBlock_54 rfl (congrArg Prod.fst hr9).symm)
    | succ n ih =>
      intro k c9 hkn hI9 hρ
      have hk : k < 21 := by omega
      refine G.iload_n 0 F dS_takeFreeBlock_2 rfl rfl ?_
      refine G.bipush 20 F dS_takeFreeBlock_3 (by decide) ?_
      refine G.icmp_gt 53 F dS_takeFreeBlock_5 rfl (fun h9 => absurd h9 (nI_nlt (a := 20) (Nat.le_of_lt_succ (Nat.lt_of_lt_of_le hk (by decide))) (by decide))) (fun _ => ?_)
      refine G.aload_n 1 F dS_takeFreeBlock_8 rfl rfl ?_
      refine G.gX 1 F (by decide) flS_15 rfl dS_takeFreeBlock_9 ?_
      refine G.iload_n 0 F dS_takeFreeBlock_12 rfl rfl ?_
      refine G.ldBn k F rfl hk dS_takeFreeBlock_13 ?_
      refine G.gB 0 F hk (by decide) flS_235 dS_takeFreeBlock_14 ?_
      refine G.if_ne 47 F dS_takeFreeBlock_17 rfl (fun h1 => ?_) (fun h1 => ?_)
      · skip
        refine G.iinc 0 (nI (k + 1)) F dS_takeFreeBlock_47 rfl (nI_succ k).symm (by decide) rfl ?_
        refine G.goto 2 F dS_takeFreeBlock_50 rfl ?_
        exact ih (k + 1) _ (by omega) hI9 (hρ.trans (if_neg h1))
      · skip
        refine G.aload_n 1 F dS_takeFreeBlock_20 rfl rfl ?_
        refine G.gX 1 F (by decide) flS_15 rfl dS_takeFreeBlock_21 ?_
        refine G.iload_n 0 F dS_takeFreeBlock_24 rfl rfl ?_
        refine G.ldBn k F rfl hk dS_takeFreeBlock_25 ?_
        refine G.iconst 1 F dS_takeFreeBlock_26 (by decide) ?_
        refine G.pB 0 F hk (by decide) flS_235 rfl rfl dS_takeFreeBlock_27 ?_
        refine G.aload_n 1 F dS_takeFreeBlock_30 rfl rfl ?_
        refine G.gX 1 F (by decide) flS_15 rfl dS_takeFreeBlock_31 ?_
        refine G.iload_n 0 F dS_takeFreeBlock_34 rfl rfl ?_
        refine G.ldBn k F rfl hk dS_takeFreeBlock_35 ?_
        refine G.dup F dS_takeFreeBlock_36 rfl ?_
        refine G.gB 4 F hk (by decide) flS_225 dS_takeFreeBlock_37 ?_
        refine G.tope (y := c9 4 k) (up2_f _ _ _ _ (by decide)) ?_
        refine G.iconst 1 F dS_takeFreeBlock_40 (by decide) ?_
        refine G.iadd F dS_takeFreeBlock_41 ?_
        refine G.pB 4 F hk (by decide) flS_225 rfl rfl dS_takeFreeBlock_42 ?_
        refine G.iload_n 0 F dS_takeFreeBlock_45 rfl rfl ?_
        have hr9 : f_takeFreeBlock c = (nI k, (up2 (up2 c9 0 k 1) 4 k ((c9 4 k) + 1))) := hρ.trans (if_pos h1)
        exact G.st (congrArg (fun z : Int32 × CS => cW X K z.2) hr9) (hE _ _ (nI k) dS_takeFreeBlock_46 rfl (congrArg Prod.fst hr9).symm)
  refine G.iconst 1 F dS_takeFreeBlock_0 (by decide) ?_
  refine G.istore_nN F dS_takeFreeBlock_1 rfl (by decide) rfl ?_
  exact hloop2 20 1 _ (by decide) hI rfl
theorem r_fl_takeFreeBlock : ∀ (n k : Nat) (c : CS), k + n = 21 → vp_in (fl_takeFreeBlock_2 n k c).1 21 := by
  intro n
  induction n with
  | zero => intro k c h; exact vp0
  | succ n ih =>
    intro k c h
    unfold fl_takeFreeBlock_2
    split
    · exact vp_in_nI (by omega) (by decide)
    · exact ih (k + 1) c (by omega)
theorem r_takeFreeBlock (c : CS) : vp_in (f_takeFreeBlock c).1 21 := r_fl_takeFreeBlock 20 1 c (by decide)

def f_endWork (t : Nat) (c : CS) : CS := (up2 (up2 (up2 (up2 (up2 c 21 t (-1)) 19 t (-1)) 20 t (-1)) 18 t (c 17 t)) 7 t 0)
theorem i_endWork (t : Nat) (ht : t < 4) (c : CS) (hI : Inv c) : Inv (f_endWork t c) := by
  unfold f_endWork
  exact (Inv.upo (Inv.upo (Inv.upo (Inv.upo (Inv.upo hI rfl) rfl) rfl) rfl) rfl)
set_option maxRecDepth 100000 in
set_option maxHeartbeats 4000000 in
theorem k_endWork (l : Launch) (D : va_G) (K : Nat → ClassId) (base : Nat) (X : Nat → Nat) (t : Nat) (ht : t < 4) (c : CS) (hI : Inv c) : CtV l D K base yS_endWork cS_endWork 2 (rmD 0) [.ref (X 0), .ref (X (24 + t))] (cW X K c) (cW X K (f_endWork t c)) := by
  refine CtV.enter (by decide) (Nat.le_of_ble_eq_true rfl) ?_
  intro κ A Q F hE
  show G κ l (rmD 0) A Q D 2 0 0 (cW X K c) 0 [(0, .ref (X 0)), (1, .ref (X (24 + t)))] []
  refine G.aload_n 1 F dS_endWork_0 rfl rfl ?_
  refine G.iconst (-1) F dS_endWork_1 (by decide) ?_
  refine G.pT 15 21 F rfl ht (by decide) (by decide) flS_97 rfl rfl dS_endWork_2 ?_
  refine G.aload_n 1 F dS_endWork_5 rfl rfl ?_
  refine G.iconst (-1) F dS_endWork_6 (by decide) ?_
  refine G.pT 13 19 F rfl ht (by decide) (by decide) flS_91 rfl rfl dS_endWork_7 ?_
  refine G.aload_n 1 F dS_endWork_10 rfl rfl ?_
  refine G.iconst (-1) F dS_endWork_11 (by decide) ?_
  refine G.pT 14 20 F rfl ht (by decide) (by decide) flS_94 rfl rfl dS_endWork_12 ?_
  refine G.aload_n 1 F dS_endWork_15 rfl rfl ?_
  refine G.aload_n 1 F dS_endWork_16 rfl rfl ?_
  refine G.gT 11 17 F rfl ht (by decide) flS_222 dS_endWork_17 ?_
  refine G.tope (y := c 17 t) ((up2_f _ _ _ _ (by decide)).trans ((up2_f _ _ _ _ (by decide)).trans (up2_f _ _ _ _ (by decide)))) ?_
  refine G.pT 12 18 F rfl ht (by decide) (by decide) flS_66 rfl rfl dS_endWork_20 ?_
  refine G.aload_n 1 F dS_endWork_23 rfl rfl ?_
  refine G.iconst 0 F dS_endWork_24 (by decide) ?_
  refine G.pT 1 7 F rfl ht (by decide) (by decide) flS_42 rfl rfl dS_endWork_25 ?_
  exact G.st (congrArg (cW X K) rfl) (hE _ _ dS_endWork_28)

def f_nameHere (t : Nat) (c : CS) : CS := (if c 10 t = 0 then (up2 (up2 c 19 t (c 12 t)) 7 t 4) else (if c 19 t = c 10 t then (up2 (up2 c 20 t (c 12 t)) 7 t 4) else (up2 (up2 c 19 t (c 12 t)) 7 t 4)))
theorem i_nameHere (t : Nat) (ht : t < 4) (c : CS) (hI : Inv c) : Inv (f_nameHere t c) := by
  unfold f_nameHere
  exact (ite_c (fun h1 => (Inv.upo (Inv.upo hI rfl) rfl)) (fun h1 => (ite_c (fun h2 => (Inv.upo (Inv.upo hI rfl) rfl)) (fun h2 => (Inv.upo (Inv.upo hI rfl) rfl)))))
set_option maxRecDepth 100000 in
set_option maxHeartbeats 4000000 in
theorem k_nameHere (l : Launch) (D : va_G) (K : Nat → ClassId) (base : Nat) (X : Nat → Nat) (t : Nat) (ht : t < 4) (c : CS) (hI : Inv c) : CtV l D K base yS_nameHere cS_nameHere 2 (rmD 0) [.ref (X 0), .ref (X (24 + t))] (cW X K c) (cW X K (f_nameHere t c)) := by
  refine CtV.enter (by decide) (Nat.le_of_ble_eq_true rfl) ?_
  intro κ A Q F hE
  show G κ l (rmD 0) A Q D 2 0 0 (cW X K c) 0 [(0, .ref (X 0)), (1, .ref (X (24 + t)))] []
  refine G.aload_n 1 F dS_nameHere_0 rfl rfl ?_
  refine G.gT 4 10 F rfl ht (by decide) flS_74 dS_nameHere_1 ?_
  refine G.if_eq 29 F dS_nameHere_4 rfl (fun h1 => ?_) (fun h1 => ?_)
  · skip
    refine G.aload_n 1 F dS_nameHere_29 rfl rfl ?_
    refine G.aload_n 1 F dS_nameHere_30 rfl rfl ?_
    refine G.gT 6 12 F rfl ht (by decide) flS_77 dS_nameHere_31 ?_
    refine G.pT 13 19 F rfl ht (by decide) (by decide) flS_91 rfl rfl dS_nameHere_34 ?_
    refine G.aload_n 1 F dS_nameHere_37 rfl rfl ?_
    refine G.iconst 4 F dS_nameHere_38 (by decide) ?_
    refine G.pT 1 7 F rfl ht (by decide) (by decide) flS_42 rfl rfl dS_nameHere_39 ?_
    exact G.st (congrArg (cW X K) (if_pos h1)) (hE _ _ dS_nameHere_42)
  · skip
    refine G.aload_n 1 F dS_nameHere_7 rfl rfl ?_
    refine G.gT 13 19 F rfl ht (by decide) flS_91 dS_nameHere_8 ?_
    refine G.aload_n 1 F dS_nameHere_11 rfl rfl ?_
    refine G.gT 4 10 F rfl ht (by decide) flS_74 dS_nameHere_12 ?_
    refine G.icmp_ne 29 F dS_nameHere_15 rfl (fun h2 => ?_) (fun h2 => ?_)
    · skip
      refine G.aload_n 1 F dS_nameHere_29 rfl rfl ?_
      refine G.aload_n 1 F dS_nameHere_30 rfl rfl ?_
      refine G.gT 6 12 F rfl ht (by decide) flS_77 dS_nameHere_31 ?_
      refine G.pT 13 19 F rfl ht (by decide) (by decide) flS_91 rfl rfl dS_nameHere_34 ?_
      refine G.aload_n 1 F dS_nameHere_37 rfl rfl ?_
      refine G.iconst 4 F dS_nameHere_38 (by decide) ?_
      refine G.pT 1 7 F rfl ht (by decide) (by decide) flS_42 rfl rfl dS_nameHere_39 ?_
      exact G.st (congrArg (cW X K) ((if_neg h1).trans (if_neg h2))) (hE _ _ dS_nameHere_42)
    · skip
      refine G.aload_n 1 F dS_nameHere_18 rfl rfl ?_
      refine G.aload_n 1 F dS_nameHere_19 rfl rfl ?_
      refine G.gT 6 12 F rfl ht (by decide) flS_77 dS_nameHere_20 ?_
      refine G.pT 14 20 F rfl ht (by decide) (by decide) flS_94 rfl rfl dS_nameHere_23 ?_
      refine G.goto 37 F dS_nameHere_26 rfl ?_
      refine G.aload_n 1 F dS_nameHere_37 rfl rfl ?_
      refine G.iconst 4 F dS_nameHere_38 (by decide) ?_
      refine G.pT 1 7 F rfl ht (by decide) (by decide) flS_42 rfl rfl dS_nameHere_39 ?_
      exact G.st (congrArg (cW X K) ((if_neg h1).trans (if_pos h2))) (hE _ _ dS_nameHere_42)

def f_startWork (t : Nat) (c : CS) : CS := (if c 22 0 = 0 then (up2 (up2 c 21 t (c 22 1)) 7 t 2) else (up2 c 7 t 2))
theorem i_startWork (t : Nat) (ht : t < 4) (c : CS) (hI : Inv c) : Inv (f_startWork t c) := by
  unfold f_startWork
  exact (ite_c (fun h1 => (Inv.upo (Inv.upo hI rfl) rfl)) (fun h1 => (Inv.upo hI rfl)))
set_option maxRecDepth 100000 in
set_option maxHeartbeats 4000000 in
theorem k_startWork (l : Launch) (D : va_G) (K : Nat → ClassId) (base : Nat) (X : Nat → Nat) (t : Nat) (ht : t < 4) (c : CS) (hI : Inv c) : CtV l D K base yS_startWork cS_startWork 2 (rmD 0) [.ref (X 0), .ref (X (24 + t))] (cW X K c) (cW X K (f_startWork t c)) := by
  refine CtV.enter (by decide) (Nat.le_of_ble_eq_true rfl) ?_
  intro κ A Q F hE
  show G κ l (rmD 0) A Q D 2 0 0 (cW X K c) 0 [(0, .ref (X 0)), (1, .ref (X (24 + t)))] []
  refine G.aload_n 0 F dS_startWork_0 rfl rfl ?_
  refine G.gX 0 F (by decide) flS_9 rfl dS_startWork_1 ?_
  refine G.if_ne 15 F dS_startWork_4 rfl (fun h1 => ?_) (fun h1 => ?_)
  · skip
    refine G.aload_n 1 F dS_startWork_15 rfl rfl ?_
    refine G.iconst 2 F dS_startWork_16 (by decide) ?_
    refine G.pT 1 7 F rfl ht (by decide) (by decide) flS_42 rfl rfl dS_startWork_17 ?_
    exact G.st (congrArg (cW X K) (if_neg h1)) (hE _ _ dS_startWork_20)
  · skip
    refine G.aload_n 1 F dS_startWork_7 rfl rfl ?_
    refine G.aload_n 0 F dS_startWork_8 rfl rfl ?_
    refine G.gX 3 F (by decide) flS_111 rfl dS_startWork_9 ?_
    refine G.pT 15 21 F rfl ht (by decide) (by decide) flS_97 rfl rfl dS_startWork_12 ?_
    refine G.aload_n 1 F dS_startWork_15 rfl rfl ?_
    refine G.iconst 2 F dS_startWork_16 (by decide) ?_
    refine G.pT 1 7 F rfl ht (by decide) (by decide) flS_42 rfl rfl dS_startWork_17 ?_
    exact G.st (congrArg (cW X K) (if_pos h1)) (hE _ _ dS_startWork_20)

set_option maxRecDepth 100000 in
set_option maxHeartbeats 4000000 in
theorem k_workerOf (l : Launch) (D : va_G) (K : Nat → ClassId) (base : Nat) (X : Nat → Nat) (t : Nat) (ht : t < 4) (c : CS) (hI : Inv c) : CtR l D K base yS_workerOf cS_workerOf 2 RK (rmD 0) [.ref (X 0), .int (nI t)] (cW X K c) (X (24 + t)) (cW X K c) := by
  refine CtR.enter (by decide) (Nat.le_of_ble_eq_true rfl) ?_
  intro κ A Q F hE
  show G κ l (rmD 0) A Q D 2 0 0 (cW X K c) 0 [(0, .ref (X 0)), (1, .int (nI t))] []
  refine G.iload_n 1 F dS_workerOf_0 rfl rfl ?_
  refine G.if_lt 9 F dS_workerOf_1 rfl (fun h9 => absurd h9 (cm_lt0 ht (by decide))) (fun _ => ?_)
  refine G.iload_n 1 F dS_workerOf_4 rfl rfl ?_
  refine G.iconst 4 F dS_workerOf_5 (by decide) ?_
  refine G.icmp_lt 19 F dS_workerOf_6 rfl (fun _ => ?_) (fun h9 => absurd (nI_lt (b := 4) (Nat.lt_of_lt_of_le ht (by decide)) (by decide)) h9)
  refine G.aload_n 0 F dS_workerOf_19 rfl rfl ?_
  refine G.gX 2 F (by decide) flS_22 rfl dS_workerOf_20 ?_
  refine G.iload_n 1 F dS_workerOf_23 rfl rfl ?_
  refine G.ldTn t F rfl ht dS_workerOf_24 ?_
  exact hE _ _ _ dS_workerOf_25 rfl

def fl_size_14  : Nat → Nat → Int32 → Int32 → CS → Int32
  | 0, _, b2, n1, c => n1
  | n + 1, k, b2, n1, c => (if b2 = 0 then n1 else (if c 3 b2.toNatClampNeg = 0 then (fl_size_14  n (k + 1) (c 2 b2.toNatClampNeg) (n1 + 1) c) else (fl_size_14  n (k + 1) (c 2 b2.toNatClampNeg) n1 c)))
def f_size (c : CS) : Int32 := (fl_size_14 20 0 (c 2 0) 0 c)
set_option maxRecDepth 100000 in
set_option maxHeartbeats 4000000 in
theorem k_size (l : Launch) (D : va_G) (K : Nat → ClassId) (base : Nat) (X : Nat → Nat)  (c : CS) (hI : Inv c) : CtI l D K base yS_size cS_size 4 .int (rmD 0) [.ref (X 0)] (cW X K c) (f_size c) (cW X K c) := by
  refine CtI.enter (by decide) (Nat.le_of_ble_eq_true rfl) ?_
  intro κ A Q F hE
  show G κ l (rmD 0) A Q D 4 0 0 (cW X K c) 0 [(0, .ref (X 0))] []
  have hloop14 : ∀ (n k : Nat) (b2 : Int32) (n1 : Int32), k + n = 20 → vp_in b2 21 → f_size c = fl_size_14  n k b2 n1 c → G κ l (rmD 0) A Q D 4 0 0 (cW X K c) 14 [(3, .int (nI k)), (2, .int b2), (1, .int n1), (0, .ref (X 0))] [] := by
    intro n
    induction n with
    | zero =>
      intro k b2 n1 hkn hr_b2 hρ
      obtain rfl : k = 20 := by omega
      refine G.iload_n 0 F dS_size_14 rfl rfl ?_
      refine G.bipush 20 F dS_size_15 (by decide) ?_
      refine G.icmp_ge 55 F dS_size_17 rfl (fun _ => ?_) (fun h9 => absurd (by decide) h9)
      refine G.iload_n 2 F dS_size_55 rfl rfl ?_
      exact hE _ _ n1 dS_size_56 rfl hρ.symm
    | succ n ih =>
      intro k b2 n1 hkn hr_b2 hρ
      have hk : k < 20 := by omega
      refine G.iload_n 0 F dS_size_14 rfl rfl ?_
      refine G.bipush 20 F dS_size_15 (by decide) ?_
      refine G.icmp_ge 55 F dS_size_17 rfl (fun h9 => absurd h9 (nI_ge (b := 20) (Nat.lt_of_lt_of_le hk (by decide)) (by decide))) (fun _ => ?_)
      refine G.iload_n 1 F dS_size_20 rfl rfl ?_
      refine G.if_eq 55 F dS_size_21 rfl (fun h1 => ?_) (fun h1 => ?_)
      · skip
        refine G.iload_n 2 F dS_size_55 rfl rfl ?_
        exact hE _ _ n1 dS_size_56 rfl (hρ.trans (if_pos h1)).symm
      · skip
        refine G.aload_n 3 F dS_size_24 rfl rfl ?_
        refine G.gX 1 F (by decide) flS_15 rfl dS_size_25 ?_
        refine G.iload_n 1 F dS_size_28 rfl rfl ?_
        refine G.ldB F hr_b2 dS_size_29 ?_
        refine G.gB 3 F (ix_lt hr_b2) (by decide) flS_134 dS_size_30 ?_
        refine G.if_ne 39 F dS_size_33 rfl (fun h2 => ?_) (fun h2 => ?_)
        · skip
          refine G.aload_n 3 F dS_size_39 rfl rfl ?_
          refine G.gX 1 F (by decide) flS_15 rfl dS_size_40 ?_
          refine G.iload_n 1 F dS_size_43 rfl rfl ?_
          refine G.ldB F hr_b2 dS_size_44 ?_
          refine G.gB 2 F (ix_lt hr_b2) (by decide) flS_131 dS_size_45 ?_
          refine G.istore_n 1 F dS_size_48 rfl rfl (by decide) rfl ?_
          refine G.iinc 0 (nI (k + 1)) F dS_size_49 rfl (nI_succ k).symm (by decide) rfl ?_
          refine G.goto 14 F dS_size_52 rfl ?_
          exact ih (k + 1) (c 2 b2.toNatClampNeg) n1 (by omega) (hI 2 _ rfl) (hρ.trans ((if_neg h1).trans (if_neg h2)))
        · skip
          refine G.iinc 2 (n1 + 1) F dS_size_36 rfl rfl (by decide) rfl ?_
          refine G.aload_n 3 F dS_size_39 rfl rfl ?_
          refine G.gX 1 F (by decide) flS_15 rfl dS_size_40 ?_
          refine G.iload_n 1 F dS_size_43 rfl rfl ?_
          refine G.ldB F hr_b2 dS_size_44 ?_
          refine G.gB 2 F (ix_lt hr_b2) (by decide) flS_131 dS_size_45 ?_
          refine G.istore_n 1 F dS_size_48 rfl rfl (by decide) rfl ?_
          refine G.iinc 0 (nI (k + 1)) F dS_size_49 rfl (nI_succ k).symm (by decide) rfl ?_
          refine G.goto 14 F dS_size_52 rfl ?_
          exact ih (k + 1) (c 2 b2.toNatClampNeg) (n1 + 1) (by omega) (hI 2 _ rfl) (hρ.trans ((if_neg h1).trans (if_pos h2)))
  refine G.iconst 0 F dS_size_0 (by decide) ?_
  refine G.istore_nN F dS_size_1 rfl (by decide) rfl ?_
  refine G.aload_n 1 F dS_size_2 rfl rfl ?_
  refine G.gX 1 F (by decide) flS_15 rfl dS_size_3 ?_
  refine G.iconst 0 F dS_size_6 (by decide) ?_
  refine G.ldBn 0 F rfl (by decide) dS_size_7 ?_
  refine G.gB 2 F (by decide) (by decide) flS_131 dS_size_8 ?_
  refine G.istore_nN F dS_size_11 rfl (by decide) rfl ?_
  refine G.iconst 0 F dS_size_12 (by decide) ?_
  refine G.istore_nN F dS_size_13 rfl (by decide) rfl ?_
  exact hloop14 20 0 (c 2 0) 0 (by decide) (hI 2 _ rfl) rfl

def fl_has_12 (y : Int32) : Nat → Nat → Int32 → CS → Int32
  | 0, _, b2, c => 0
  | n + 1, k, b2, c => (if b2 = 0 then 0 else (if c 3 b2.toNatClampNeg = 0 then (if c 1 b2.toNatClampNeg = y then 1 else (fl_has_12 y n (k + 1) (c 2 b2.toNatClampNeg) c)) else (fl_has_12 y n (k + 1) (c 2 b2.toNatClampNeg) c)))
def f_has (y : Int32) (c : CS) : Int32 := (fl_has_12 y 20 0 (c 2 0) c)
set_option maxRecDepth 100000 in
set_option maxHeartbeats 4000000 in
theorem k_has (l : Launch) (D : va_G) (K : Nat → ClassId) (base : Nat) (X : Nat → Nat) (y : Int32) (c : CS) (hI : Inv c) : CtI l D K base yS_has cS_has 4 .boolean (rmD 0) [.ref (X 0), .int y] (cW X K c) (f_has y c) (cW X K c) := by
  refine CtI.enter (by decide) (Nat.le_of_ble_eq_true rfl) ?_
  intro κ A Q F hE
  show G κ l (rmD 0) A Q D 4 0 0 (cW X K c) 0 [(0, .ref (X 0)), (1, .int y)] []
  have hloop12 : ∀ (n k : Nat) (b2 : Int32), k + n = 20 → vp_in b2 21 → f_has y c = fl_has_12 y n k b2 c → G κ l (rmD 0) A Q D 4 0 0 (cW X K c) 12 [(3, .int (nI k)), (2, .int b2), (0, .ref (X 0)), (1, .int y)] [] := by
    intro n
    induction n with
    | zero =>
      intro k b2 hkn hr_b2 hρ
      obtain rfl : k = 20 := by omega
      refine G.iload_n 0 F dS_has_12 rfl rfl ?_
      refine G.bipush 20 F dS_has_13 (by decide) ?_
      refine G.icmp_ge 65 F dS_has_15 rfl (fun _ => ?_) (fun h9 => absurd (by decide) h9)
      refine G.iconst 0 F dS_has_65 (by decide) ?_
      exact hE _ _ 0 dS_has_66 rfl hρ.symm
    | succ n ih =>
      intro k b2 hkn hr_b2 hρ
      have hk : k < 20 := by omega
      refine G.iload_n 0 F dS_has_12 rfl rfl ?_
      refine G.bipush 20 F dS_has_13 (by decide) ?_
      refine G.icmp_ge 65 F dS_has_15 rfl (fun h9 => absurd h9 (nI_ge (b := 20) (Nat.lt_of_lt_of_le hk (by decide)) (by decide))) (fun _ => ?_)
      refine G.iload_n 1 F dS_has_18 rfl rfl ?_
      refine G.if_eq 65 F dS_has_19 rfl (fun h1 => ?_) (fun h1 => ?_)
      · skip
        refine G.iconst 0 F dS_has_65 (by decide) ?_
        exact hE _ _ 0 dS_has_66 rfl (hρ.trans (if_pos h1)).symm
      · skip
        refine G.aload_n 2 F dS_has_22 rfl rfl ?_
        refine G.gX 1 F (by decide) flS_15 rfl dS_has_23 ?_
        refine G.iload_n 1 F dS_has_26 rfl rfl ?_
        refine G.ldB F hr_b2 dS_has_27 ?_
        refine G.gB 3 F (ix_lt hr_b2) (by decide) flS_134 dS_has_28 ?_
        refine G.if_ne 49 F dS_has_31 rfl (fun h2 => ?_) (fun h2 => ?_)
        · skip
          refine G.aload_n 2 F dS_has_49 rfl rfl ?_
          refine G.gX 1 F (by decide) flS_15 rfl dS_has_50 ?_
          refine G.iload_n 1 F dS_has_53 rfl rfl ?_
          refine G.ldB F hr_b2 dS_has_54 ?_
          refine G.gB 2 F (ix_lt hr_b2) (by decide) flS_131 dS_has_55 ?_
          refine G.istore_n 1 F dS_has_58 rfl rfl (by decide) rfl ?_
          refine G.iinc 0 (nI (k + 1)) F dS_has_59 rfl (nI_succ k).symm (by decide) rfl ?_
          refine G.goto 12 F dS_has_62 rfl ?_
          exact ih (k + 1) (c 2 b2.toNatClampNeg) (by omega) (hI 2 _ rfl) (hρ.trans ((if_neg h1).trans (if_neg h2)))
        · skip
          refine G.aload_n 2 F dS_has_34 rfl rfl ?_
          refine G.gX 1 F (by decide) flS_15 rfl dS_has_35 ?_
          refine G.iload_n 1 F dS_has_38 rfl rfl ?_
          refine G.ldB F hr_b2 dS_has_39 ?_
          refine G.gB 1 F (ix_lt hr_b2) (by decide) flS_138 dS_has_40 ?_
          refine G.iload_n 3 F dS_has_43 rfl rfl ?_
          refine G.icmp_ne 49 F dS_has_44 rfl (fun h3 => ?_) (fun h3 => ?_)
          · skip
            refine G.aload_n 2 F dS_has_49 rfl rfl ?_
            refine G.gX 1 F (by decide) flS_15 rfl dS_has_50 ?_
            refine G.iload_n 1 F dS_has_53 rfl rfl ?_
            refine G.ldB F hr_b2 dS_has_54 ?_
            refine G.gB 2 F (ix_lt hr_b2) (by decide) flS_131 dS_has_55 ?_
            refine G.istore_n 1 F dS_has_58 rfl rfl (by decide) rfl ?_
            refine G.iinc 0 (nI (k + 1)) F dS_has_59 rfl (nI_succ k).symm (by decide) rfl ?_
            refine G.goto 12 F dS_has_62 rfl ?_
            exact ih (k + 1) (c 2 b2.toNatClampNeg) (by omega) (hI 2 _ rfl) (hρ.trans ((if_neg h1).trans ((if_pos h2).trans (if_neg h3))))
          · skip
            refine G.iconst 1 F dS_has_47 (by decide) ?_
            exact hE _ _ 1 dS_has_48 rfl (hρ.trans ((if_neg h1).trans ((if_pos h2).trans (if_pos h3)))).symm
  refine G.aload_n 0 F dS_has_0 rfl rfl ?_
  refine G.gX 1 F (by decide) flS_15 rfl dS_has_1 ?_
  refine G.iconst 0 F dS_has_4 (by decide) ?_
  refine G.ldBn 0 F rfl (by decide) dS_has_5 ?_
  refine G.gB 2 F (by decide) (by decide) flS_131 dS_has_6 ?_
  refine G.istore_nN F dS_has_9 rfl (by decide) rfl ?_
  refine G.iconst 0 F dS_has_10 (by decide) ?_
  refine G.istore_nN F dS_has_11 rfl (by decide) rfl ?_
  exact hloop12 20 0 (c 2 0) (by decide) (hI 2 _ rfl) rfl
end
section
def f_faults (c : CS) : Int32 := c 22 2
set_option maxRecDepth 100000 in
set_option maxHeartbeats 4000000 in
theorem k_faults (l : Launch) (D : va_G) (K : Nat → ClassId) (base : Nat) (X : Nat → Nat)  (c : CS) (hI : Inv c) : CtI l D K base yS_faults cS_faults 1 .int (rmD 0) [.ref (X 0)] (cW X K c) (f_faults c) (cW X K c) := by
  refine CtI.enter (by decide) (Nat.le_of_ble_eq_true rfl) ?_
  intro κ A Q F hE
  show G κ l (rmD 0) A Q D 1 0 0 (cW X K c) 0 [(0, .ref (X 0))] []
  refine G.aload_n 0 F dS_faults_0 rfl rfl ?_
  refine G.gX 4 F (by decide) flS_139 rfl dS_faults_1 ?_
  exact hE _ _ (c 22 2) dS_faults_4 rfl rfl.symm

def f_epoch (c : CS) : Int32 := c 22 1
set_option maxRecDepth 100000 in
set_option maxHeartbeats 4000000 in
theorem k_epoch (l : Launch) (D : va_G) (K : Nat → ClassId) (base : Nat) (X : Nat → Nat)  (c : CS) (hI : Inv c) : CtI l D K base yS_epoch cS_epoch 1 .int (rmD 0) [.ref (X 0)] (cW X K c) (f_epoch c) (cW X K c) := by
  refine CtI.enter (by decide) (Nat.le_of_ble_eq_true rfl) ?_
  intro κ A Q F hE
  show G κ l (rmD 0) A Q D 1 0 0 (cW X K c) 0 [(0, .ref (X 0))] []
  refine G.aload_n 0 F dS_epoch_0 rfl rfl ?_
  refine G.gX 3 F (by decide) flS_111 rfl dS_epoch_1 ?_
  exact hE _ _ (c 22 1) dS_epoch_4 rfl rfl.symm

def f_lookAtBack (t : Nat) (c : CS) : CS := (if c 10 t = 0 then c else (f_countFault ((c 10 t).toNatClampNeg) (c 11 t) c))
theorem i_lookAtBack (t : Nat) (ht : t < 4) (c : CS) (hI : Inv c) : Inv (f_lookAtBack t c) := by
  unfold f_lookAtBack
  exact (ite_c (fun h1 => hI) (fun h1 => (i_countFault ((c 10 t).toNatClampNeg) (ix_lt (hI 10 _ rfl)) (c 11 t) c hI)))
set_option maxRecDepth 100000 in
set_option maxHeartbeats 4000000 in
theorem k_lookAtBack (l : Launch) (D : va_G) (K : Nat → ClassId) (base : Nat) (X : Nat → Nat) (t : Nat) (ht : t < 4) (c : CS) (hI : Inv c) : CtV l D K base yS_lookAtBack cS_lookAtBack 2 (rmD 1) [.ref (X 0), .ref (X (24 + t))] (cW X K c) (cW X K (f_lookAtBack t c)) := by
  refine CtV.enter (by decide) (Nat.le_of_ble_eq_true rfl) ?_
  intro κ A Q F hE
  show G κ l (rmD 1) A Q D 2 0 0 (cW X K c) 0 [(0, .ref (X 0)), (1, .ref (X (24 + t)))] []
  refine G.aload_n 1 F dS_lookAtBack_0 rfl rfl ?_
  refine G.gT 4 10 F rfl ht (by decide) flS_74 dS_lookAtBack_1 ?_
  refine G.if_eq 24 F dS_lookAtBack_4 rfl (fun h1 => ?_) (fun h1 => ?_)
  · skip
    exact G.st (congrArg (cW X K) (if_pos h1)) (hE _ _ dS_lookAtBack_24)
  · skip
    refine G.aload_n 0 F dS_lookAtBack_7 rfl rfl ?_
    refine G.aload_n 0 F dS_lookAtBack_8 rfl rfl ?_
    refine G.gX 1 F (by decide) flS_15 rfl dS_lookAtBack_9 ?_
    refine G.aload_n 1 F dS_lookAtBack_12 rfl rfl ?_
    refine G.gT 4 10 F rfl ht (by decide) flS_74 dS_lookAtBack_13 ?_
    refine G.ldB F (hI 10 _ rfl) dS_lookAtBack_16 ?_
    refine G.aload_n 1 F dS_lookAtBack_17 rfl rfl ?_
    refine G.gT 5 11 F rfl ht (by decide) flS_176 dS_lookAtBack_18 ?_
    refine G.callv F (k_countFault l D K base X ((c 10 t).toNatClampNeg) (ix_lt (hI 10 _ rfl)) (c 11 t) c hI) ckS_231 cW_x rfl rfl ⟨rfl, rfl⟩ ⟨by decide, by decide⟩ ⟨Nat.zero_le _, Nat.zero_le _⟩ rfl rfl (Nat.le_of_ble_eq_true rfl) dS_lookAtBack_21 ?_
    exact G.st (congrArg (cW X K) (if_neg h1)) (hE _ _ dS_lookAtBack_24)

def f_lookAtHere (t : Nat) (c : CS) : CS := (f_countFault ((c 12 t).toNatClampNeg) (c 13 t) c)
theorem i_lookAtHere (t : Nat) (ht : t < 4) (c : CS) (hI : Inv c) : Inv (f_lookAtHere t c) := by
  unfold f_lookAtHere
  exact (i_countFault ((c 12 t).toNatClampNeg) (ix_lt (hI 12 _ rfl)) (c 13 t) c hI)
set_option maxRecDepth 100000 in
set_option maxHeartbeats 4000000 in
theorem k_lookAtHere (l : Launch) (D : va_G) (K : Nat → ClassId) (base : Nat) (X : Nat → Nat) (t : Nat) (ht : t < 4) (c : CS) (hI : Inv c) : CtV l D K base yS_lookAtHere cS_lookAtHere 2 (rmD 1) [.ref (X 0), .ref (X (24 + t))] (cW X K c) (cW X K (f_lookAtHere t c)) := by
  refine CtV.enter (by decide) (Nat.le_of_ble_eq_true rfl) ?_
  intro κ A Q F hE
  show G κ l (rmD 1) A Q D 2 0 0 (cW X K c) 0 [(0, .ref (X 0)), (1, .ref (X (24 + t)))] []
  refine G.aload_n 0 F dS_lookAtHere_0 rfl rfl ?_
  refine G.aload_n 0 F dS_lookAtHere_1 rfl rfl ?_
  refine G.gX 1 F (by decide) flS_15 rfl dS_lookAtHere_2 ?_
  refine G.aload_n 1 F dS_lookAtHere_5 rfl rfl ?_
  refine G.gT 6 12 F rfl ht (by decide) flS_77 dS_lookAtHere_6 ?_
  refine G.ldB F (hI 12 _ rfl) dS_lookAtHere_9 ?_
  refine G.aload_n 1 F dS_lookAtHere_10 rfl rfl ?_
  refine G.gT 7 13 F rfl ht (by decide) flS_196 dS_lookAtHere_11 ?_
  refine G.callv F (k_countFault l D K base X ((c 12 t).toNatClampNeg) (ix_lt (hI 12 _ rfl)) (c 13 t) c hI) ckS_231 cW_x rfl rfl ⟨rfl, rfl⟩ ⟨by decide, by decide⟩ ⟨Nat.zero_le _, Nat.zero_le _⟩ rfl rfl (Nat.le_of_ble_eq_true rfl) dS_lookAtHere_14 ?_
  exact G.st (congrArg (cW X K) rfl) (hE _ _ dS_lookAtHere_17)

def fl_countRetiredBy_4 (t : Nat) : Nat → Nat → Int32 → CS → Int32
  | 0, _, n2, c => n2
  | n + 1, k, n2, c => (if f_isRetiredBy t k c = 0 then (fl_countRetiredBy_4 t n (k + 1) n2 c) else (fl_countRetiredBy_4 t n (k + 1) (n2 + 1) c))
def f_countRetiredBy (t : Nat) (c : CS) : Int32 := (fl_countRetiredBy_4 t 20 1 0 c)
set_option maxRecDepth 100000 in
set_option maxHeartbeats 4000000 in
theorem k_countRetiredBy (l : Launch) (D : va_G) (K : Nat → ClassId) (base : Nat) (X : Nat → Nat) (t : Nat) (ht : t < 4) (c : CS) (hI : Inv c) : CtI l D K base yS_countRetiredBy cS_countRetiredBy 4 .int (rmD 1) [.ref (X 0), .ref (X (24 + t))] (cW X K c) (f_countRetiredBy t c) (cW X K c) := by
  refine CtI.enter (by decide) (Nat.le_of_ble_eq_true rfl) ?_
  intro κ A Q F hE
  show G κ l (rmD 1) A Q D 4 0 0 (cW X K c) 0 [(0, .ref (X 0)), (1, .ref (X (24 + t)))] []
  have hloop4 : ∀ (n k : Nat) (n2 : Int32), k + n = 21 → f_countRetiredBy t c = fl_countRetiredBy_4 t n k n2 c → G κ l (rmD 1) A Q D 4 0 0 (cW X K c) 4 [(3, .int (nI k)), (2, .int n2), (0, .ref (X 0)), (1, .ref (X (24 + t)))] [] := by
    intro n
    induction n with
    | zero =>
      intro k n2 hkn hρ
      obtain rfl : k = 21 := by omega
      refine G.iload_n 0 F dS_countRetiredBy_4 rfl rfl ?_
      refine G.bipush 20 F dS_countRetiredBy_5 (by decide) ?_
      refine G.icmp_gt 28 F dS_countRetiredBy_7 rfl (fun _ => ?_) (fun h9 => absurd (by decide) h9)
      refine G.iload_n 1 F dS_countRetiredBy_28 rfl rfl ?_
      exact hE _ _ n2 dS_countRetiredBy_29 rfl hρ.symm
    | succ n ih =>
      intro k n2 hkn hρ
      have hk : k < 21 := by omega
      refine G.iload_n 0 F dS_countRetiredBy_4 rfl rfl ?_
      refine G.bipush 20 F dS_countRetiredBy_5 (by decide) ?_
      refine G.icmp_gt 28 F dS_countRetiredBy_7 rfl (fun h9 => absurd h9 (nI_nlt (a := 20) (Nat.le_of_lt_succ (Nat.lt_of_lt_of_le hk (by decide))) (by decide))) (fun _ => ?_)
      refine G.aload_n 2 F dS_countRetiredBy_10 rfl rfl ?_
      refine G.aload_n 3 F dS_countRetiredBy_11 rfl rfl ?_
      refine G.iload_n 0 F dS_countRetiredBy_12 rfl rfl ?_
      refine G.calli F (k_isRetiredBy l D K base X t ht k hk c hI) ckS_253 cW_x rfl rfl ⟨rfl, rfl⟩ ⟨by decide, by decide⟩ ⟨Nat.zero_le _, Nat.zero_le _⟩ rfl rfl (Nat.le_of_ble_eq_true rfl) dS_countRetiredBy_13 ?_
      refine G.if_eq 22 F dS_countRetiredBy_16 rfl (fun h1 => ?_) (fun h1 => ?_)
      · skip
        refine G.iinc 0 (nI (k + 1)) F dS_countRetiredBy_22 rfl (nI_succ k).symm (by decide) rfl ?_
        refine G.goto 4 F dS_countRetiredBy_25 rfl ?_
        exact ih (k + 1) n2 (by omega) (hρ.trans (if_pos h1))
      · skip
        refine G.iinc 1 (n2 + 1) F dS_countRetiredBy_19 rfl rfl (by decide) rfl ?_
        refine G.iinc 0 (nI (k + 1)) F dS_countRetiredBy_22 rfl (nI_succ k).symm (by decide) rfl ?_
        refine G.goto 4 F dS_countRetiredBy_25 rfl ?_
        exact ih (k + 1) (n2 + 1) (by omega) (hρ.trans (if_neg h1))
  refine G.iconst 0 F dS_countRetiredBy_0 (by decide) ?_
  refine G.istore_nN F dS_countRetiredBy_1 rfl (by decide) rfl ?_
  refine G.iconst 1 F dS_countRetiredBy_2 (by decide) ?_
  refine G.istore_nN F dS_countRetiredBy_3 rfl (by decide) rfl ?_
  exact hloop4 20 1 0 (by decide) rfl

def fl_freeUnnamed_4 (t : Nat) : Nat → Nat → Int32 → CS → Int32 × CS
  | 0, _, n2, c9 => (n2, c9)
  | n + 1, k, n2, c9 => (if f_isRetiredBy t k c9 = 0 then (fl_freeUnnamed_4 t n (k + 1) n2 c9) else (if f_isNamed (nI k) c9 = 0 then (fl_freeUnnamed_4 t n (k + 1) (n2 + 1) (f_setFree k c9)) else (fl_freeUnnamed_4 t n (k + 1) n2 c9)))
def f_freeUnnamed (t : Nat) (c : CS) : Int32 × CS := (fl_freeUnnamed_4 t 20 1 0 c)
theorem i_fl_freeUnnamed_4 (t : Nat) (ht : t < 4) : ∀ (n k : Nat) (n2 : Int32) (c9 : CS), k + n = 21 → Inv c9 → Inv (fl_freeUnnamed_4 t n k n2 c9).2 := by
  intro n
  induction n with
  | zero =>
    intro k n2 c9 hkn hI9
    exact hI9
  | succ n ih =>
    intro k n2 c9 hkn hI9
    have hk : k < 21 := by omega
    unfold fl_freeUnnamed_4
    exact (ite_c2 (fun h1 => (ih (k + 1) n2 _ (by omega) hI9)) (fun h1 => (ite_c2 (fun h2 => (ih (k + 1) (n2 + 1) _ (by omega) (i_setFree k hk c9 hI9))) (fun h2 => (ih (k + 1) n2 _ (by omega) hI9)))))
theorem i_freeUnnamed (t : Nat) (ht : t < 4) (c : CS) (hI : Inv c) : Inv (f_freeUnnamed t c).2 := by
  unfold f_freeUnnamed
  exact (i_fl_freeUnnamed_4 t ht 20 1 0 _ (by decide) hI)
set_option maxRecDepth 100000 in
set_option maxHeartbeats 4000000 in
theorem k_freeUnnamed (l : Launch) (D : va_G) (K : Nat → ClassId) (base : Nat) (X : Nat → Nat) (t : Nat) (ht : t < 4) (c : CS) (hI : Inv c) : CtI l D K base yS_freeUnnamed cS_freeUnnamed 4 .int (rmD 1) [.ref (X 0), .ref (X (24 + t))] (cW X K c) (f_freeUnnamed t c).1 (cW X K (f_freeUnnamed t c).2) := by
  refine CtI.enter (by decide) (Nat.le_of_ble_eq_true rfl) ?_
  intro κ A Q F hE
  show G κ l (rmD 1) A Q D 4 0 0 (cW X K c) 0 [(0, .ref (X 0)), (1, .ref (X (24 + t)))] []
  have hloop4 : ∀ (n k : Nat) (n2 : Int32) (c9 : CS), k + n = 21 → Inv c9 → f_freeUnnamed t c = fl_freeUnnamed_4 t n k n2 c9 → G κ l (rmD 1) A Q D 4 0 0 (cW X K c9) 4 [(3, .int (nI k)), (2, .int n2), (0, .ref (X 0)), (1, .ref (X (24 + t)))] [] := by
    intro n
    induction n with
    | zero =>
      intro k n2 c9 hkn hI9 hρ
      obtain rfl : k = 21 := by omega
      refine G.iload_n 0 F dS_freeUnnamed_4 rfl rfl ?_
      refine G.bipush 20 F dS_freeUnnamed_5 (by decide) ?_
      refine G.icmp_gt 45 F dS_freeUnnamed_7 rfl (fun _ => ?_) (fun h9 => absurd (by decide) h9)
      refine G.iload_n 1 F dS_freeUnnamed_45 rfl rfl ?_
      have hr9 : f_freeUnnamed t c = (n2, c9) := hρ
      exact G.st (congrArg (fun z : Int32 × CS => cW X K z.2) hr9) (hE _ _ n2 dS_freeUnnamed_46 rfl (congrArg Prod.fst hr9).symm)
    | succ n ih =>
      intro k n2 c9 hkn hI9 hρ
      have hk : k < 21 := by omega
      refine G.iload_n 0 F dS_freeUnnamed_4 rfl rfl ?_
      refine G.bipush 20 F dS_freeUnnamed_5 (by decide) ?_
      refine G.icmp_gt 45 F dS_freeUnnamed_7 rfl (fun h9 => absurd h9 (nI_nlt (a := 20) (Nat.le_of_lt_succ (Nat.lt_of_lt_of_le hk (by decide))) (by decide))) (fun _ => ?_)
      refine G.aload_n 2 F dS_freeUnnamed_10 rfl rfl ?_
      refine G.aload_n 3 F dS_freeUnnamed_11 rfl rfl ?_
      refine G.iload_n 0 F dS_freeUnnamed_12 rfl rfl ?_
      refine G.calli F (k_isRetiredBy l D K base X t ht k hk c9 hI9) ckS_253 cW_x rfl rfl ⟨rfl, rfl⟩ ⟨by decide, by decide⟩ ⟨Nat.zero_le _, Nat.zero_le _⟩ rfl rfl (Nat.le_of_ble_eq_true rfl) dS_freeUnnamed_13 ?_
      refine G.if_eq 39 F dS_freeUnnamed_16 rfl (fun h1 => ?_) (fun h1 => ?_)
      · skip
        refine G.iinc 0 (nI (k + 1)) F dS_freeUnnamed_39 rfl (nI_succ k).symm (by decide) rfl ?_
        refine G.goto 4 F dS_freeUnnamed_42 rfl ?_
        exact ih (k + 1) n2 _ (by omega) hI9 (hρ.trans (if_pos h1))
      · skip
        refine G.aload_n 2 F dS_freeUnnamed_19 rfl rfl ?_
        refine G.iload_n 0 F dS_freeUnnamed_20 rfl rfl ?_
        refine G.calli F (k_isNamed l D K base X (nI k) c9 hI9) ckS_257 cW_x rfl rfl ⟨rfl, rfl⟩ ⟨by decide, by decide⟩ ⟨Nat.zero_le _, Nat.zero_le _⟩ rfl rfl (Nat.le_of_ble_eq_true rfl) dS_freeUnnamed_21 ?_
        refine G.if_ne 39 F dS_freeUnnamed_24 rfl (fun h2 => ?_) (fun h2 => ?_)
        · skip
          refine G.iinc 0 (nI (k + 1)) F dS_freeUnnamed_39 rfl (nI_succ k).symm (by decide) rfl ?_
          refine G.goto 4 F dS_freeUnnamed_42 rfl ?_
          exact ih (k + 1) n2 _ (by omega) hI9 (hρ.trans ((if_neg h1).trans (if_neg h2)))
        · skip
          refine G.aload_n 2 F dS_freeUnnamed_27 rfl rfl ?_
          refine G.gX 1 F (by decide) flS_15 rfl dS_freeUnnamed_28 ?_
          refine G.iload_n 0 F dS_freeUnnamed_31 rfl rfl ?_
          refine G.ldBn k F rfl hk dS_freeUnnamed_32 ?_
          refine G.callv F (k_setFree l D K base X k hk c9 hI9) ckS_238 (cW_b hk) rfl rfl ⟨rfl, rfl⟩ ⟨by decide, by decide⟩ ⟨Nat.zero_le _, Nat.zero_le _⟩ rfl rfl (Nat.le_of_ble_eq_true rfl) dS_freeUnnamed_33 ?_
          refine G.iinc 1 (n2 + 1) F dS_freeUnnamed_36 rfl rfl (by decide) rfl ?_
          refine G.iinc 0 (nI (k + 1)) F dS_freeUnnamed_39 rfl (nI_succ k).symm (by decide) rfl ?_
          refine G.goto 4 F dS_freeUnnamed_42 rfl ?_
          exact ih (k + 1) (n2 + 1) _ (by omega) (i_setFree k hk c9 hI9) (hρ.trans ((if_neg h1).trans (if_pos h2)))
  refine G.iconst 0 F dS_freeUnnamed_0 (by decide) ?_
  refine G.istore_nN F dS_freeUnnamed_1 rfl (by decide) rfl ?_
  refine G.iconst 1 F dS_freeUnnamed_2 (by decide) ?_
  refine G.istore_nN F dS_freeUnnamed_3 rfl (by decide) rfl ?_
  exact hloop4 20 1 0 _ (by decide) hI rfl

def fl_freeOldEpochs_2  : Nat → Nat → CS → CS
  | 0, _, c9 => c9
  | n + 1, k, c9 => (if c9 0 k = 2 then (if (c9 22 1) - 2 < c9 5 k then (fl_freeOldEpochs_2  n (k + 1) c9) else (fl_freeOldEpochs_2  n (k + 1) (f_setFree k c9))) else (fl_freeOldEpochs_2  n (k + 1) c9))
def f_freeOldEpochs (c : CS) : CS := (fl_freeOldEpochs_2 20 1 c)
theorem i_fl_freeOldEpochs_2  : ∀ (n k : Nat) (c9 : CS), k + n = 21 → Inv c9 → Inv (fl_freeOldEpochs_2  n k c9) := by
  intro n
  induction n with
  | zero =>
    intro k c9 hkn hI9
    exact hI9
  | succ n ih =>
    intro k c9 hkn hI9
    have hk : k < 21 := by omega
    unfold fl_freeOldEpochs_2
    exact (ite_c (fun h1 => (ite_c (fun h2 => (ih (k + 1) _ (by omega) hI9)) (fun h2 => (ih (k + 1) _ (by omega) (i_setFree k hk c9 hI9))))) (fun h1 => (ih (k + 1) _ (by omega) hI9)))
theorem i_freeOldEpochs  (c : CS) (hI : Inv c) : Inv (f_freeOldEpochs  c) := by
  unfold f_freeOldEpochs
  exact (i_fl_freeOldEpochs_2  20 1 _ (by decide) hI)
set_option maxRecDepth 100000 in
set_option maxHeartbeats 4000000 in
theorem k_freeOldEpochs (l : Launch) (D : va_G) (K : Nat → ClassId) (base : Nat) (X : Nat → Nat)  (c : CS) (hI : Inv c) : CtV l D K base yS_freeOldEpochs cS_freeOldEpochs 3 (rmD 1) [.ref (X 0)] (cW X K c) (cW X K (f_freeOldEpochs c)) := by
  refine CtV.enter (by decide) (Nat.le_of_ble_eq_true rfl) ?_
  intro κ A Q F hE
  show G κ l (rmD 1) A Q D 3 0 0 (cW X K c) 0 [(0, .ref (X 0))] []
  have hloop2 : ∀ (n k : Nat) (c9 : CS), k + n = 21 → Inv c9 → f_freeOldEpochs c = fl_freeOldEpochs_2  n k c9 → G κ l (rmD 1) A Q D 3 0 0 (cW X K c9) 2 [(1, .int (nI k)), (0, .ref (X 0))] [] := by
    intro n
    induction n with
    | zero =>
      intro k c9 hkn hI9 hρ
      obtain rfl : k = 21 := by omega
      refine G.iload_n 0 F dS_freeOldEpochs_2 rfl rfl ?_
      refine G.bipush 20 F dS_freeOldEpochs_3 (by decide) ?_
      refine G.icmp_gt 46 F dS_freeOldEpochs_5 rfl (fun _ => ?_) (fun h9 => absurd (by decide) h9)
      exact G.st (congrArg (cW X K) hρ) (hE _ _ dS_freeOldEpochs_46)
    | succ n ih =>
      intro k c9 hkn hI9 hρ
      have hk : k < 21 := by omega
      refine G.iload_n 0 F dS_freeOldEpochs_2 rfl rfl ?_
      refine G.bipush 20 F dS_freeOldEpochs_3 (by decide) ?_
      refine G.icmp_gt 46 F dS_freeOldEpochs_5 rfl (fun h9 => absurd h9 (nI_nlt (a := 20) (Nat.le_of_lt_succ (Nat.lt_of_lt_of_le hk (by decide))) (by decide))) (fun _ => ?_)
      refine G.aload_n 1 F dS_freeOldEpochs_8 rfl rfl ?_
      refine G.gX 1 F (by decide) flS_15 rfl dS_freeOldEpochs_9 ?_
      refine G.iload_n 0 F dS_freeOldEpochs_12 rfl rfl ?_
      refine G.ldBn k F rfl hk dS_freeOldEpochs_13 ?_
      refine G.astore_nN F dS_freeOldEpochs_14 rfl (by decide) rfl ?_
      refine G.aload_n 0 F dS_freeOldEpochs_15 rfl rfl ?_
      refine G.gB 0 F hk (by decide) flS_235 dS_freeOldEpochs_16 ?_
      refine G.iconst 2 F dS_freeOldEpochs_19 (by decide) ?_
      refine G.icmp_ne 40 F dS_freeOldEpochs_20 rfl (fun h1 => ?_) (fun h1 => ?_)
      · skip
        refine G.iinc 1 (nI (k + 1)) F dS_freeOldEpochs_40 rfl (nI_succ k).symm (by decide) rfl ?_
        refine G.goto 2 F dS_freeOldEpochs_43 rfl ?_
        refine G.drop ?_
        exact ih (k + 1) _ (by omega) hI9 (hρ.trans (if_neg h1))
      · skip
        refine G.aload_n 0 F dS_freeOldEpochs_23 rfl rfl ?_
        refine G.gB 5 F hk (by decide) flS_250 dS_freeOldEpochs_24 ?_
        refine G.aload_n 2 F dS_freeOldEpochs_27 rfl rfl ?_
        refine G.gX 3 F (by decide) flS_111 rfl dS_freeOldEpochs_28 ?_
        refine G.iconst 2 F dS_freeOldEpochs_31 (by decide) ?_
        refine G.isub F dS_freeOldEpochs_32 ?_
        refine G.icmp_gt 40 F dS_freeOldEpochs_33 rfl (fun h2 => ?_) (fun h2 => ?_)
        · skip
          refine G.iinc 1 (nI (k + 1)) F dS_freeOldEpochs_40 rfl (nI_succ k).symm (by decide) rfl ?_
          refine G.goto 2 F dS_freeOldEpochs_43 rfl ?_
          refine G.drop ?_
          exact ih (k + 1) _ (by omega) hI9 (hρ.trans ((if_pos h1).trans (if_pos h2)))
        · skip
          refine G.aload_n 0 F dS_freeOldEpochs_36 rfl rfl ?_
          refine G.callv F (k_setFree l D K base X k hk c9 hI9) ckS_238 (cW_b hk) rfl rfl ⟨rfl, rfl⟩ ⟨by decide, by decide⟩ ⟨Nat.zero_le _, Nat.zero_le _⟩ rfl rfl (Nat.le_of_ble_eq_true rfl) dS_freeOldEpochs_37 ?_
          refine G.iinc 1 (nI (k + 1)) F dS_freeOldEpochs_40 rfl (nI_succ k).symm (by decide) rfl ?_
          refine G.goto 2 F dS_freeOldEpochs_43 rfl ?_
          refine G.drop ?_
          exact ih (k + 1) _ (by omega) (i_setFree k hk c9 hI9) (hρ.trans ((if_pos h1).trans (if_neg h2)))
  refine G.iconst 1 F dS_freeOldEpochs_0 (by decide) ?_
  refine G.istore_nN F dS_freeOldEpochs_1 rfl (by decide) rfl ?_
  exact hloop2 20 1 _ (by decide) hI rfl

def f_giveNewBlockBack (t : Nat) (c : CS) : CS := (if c 16 t = 0 then c else (up2 (f_setFree ((c 16 t).toNatClampNeg) c) 16 t 0))
theorem i_giveNewBlockBack (t : Nat) (ht : t < 4) (c : CS) (hI : Inv c) : Inv (f_giveNewBlockBack t c) := by
  unfold f_giveNewBlockBack
  exact (ite_c (fun h1 => hI) (fun h1 => (Inv.upi (i_setFree ((c 16 t).toNatClampNeg) (ix_lt (hI 16 _ rfl)) c hI) vp0)))
set_option maxRecDepth 100000 in
set_option maxHeartbeats 4000000 in
theorem k_giveNewBlockBack (l : Launch) (D : va_G) (K : Nat → ClassId) (base : Nat) (X : Nat → Nat) (t : Nat) (ht : t < 4) (c : CS) (hI : Inv c) : CtV l D K base yS_giveNewBlockBack cS_giveNewBlockBack 2 (rmD 1) [.ref (X 0), .ref (X (24 + t))] (cW X K c) (cW X K (f_giveNewBlockBack t c)) := by
  refine CtV.enter (by decide) (Nat.le_of_ble_eq_true rfl) ?_
  intro κ A Q F hE
  show G κ l (rmD 1) A Q D 2 0 0 (cW X K c) 0 [(0, .ref (X 0)), (1, .ref (X (24 + t)))] []
  refine G.aload_n 1 F dS_giveNewBlockBack_0 rfl rfl ?_
  refine G.gT 10 16 F rfl ht (by decide) flS_83 dS_giveNewBlockBack_1 ?_
  refine G.if_eq 24 F dS_giveNewBlockBack_4 rfl (fun h1 => ?_) (fun h1 => ?_)
  · skip
    exact G.st (congrArg (cW X K) (if_pos h1)) (hE _ _ dS_giveNewBlockBack_24)
  · skip
    refine G.aload_n 0 F dS_giveNewBlockBack_7 rfl rfl ?_
    refine G.gX 1 F (by decide) flS_15 rfl dS_giveNewBlockBack_8 ?_
    refine G.aload_n 1 F dS_giveNewBlockBack_11 rfl rfl ?_
    refine G.gT 10 16 F rfl ht (by decide) flS_83 dS_giveNewBlockBack_12 ?_
    refine G.ldB F (hI 16 _ rfl) dS_giveNewBlockBack_15 ?_
    refine G.callv F (k_setFree l D K base X ((c 16 t).toNatClampNeg) (ix_lt (hI 16 _ rfl)) c hI) ckS_238 (cW_b (ix_lt (hI 16 _ rfl))) rfl rfl ⟨rfl, rfl⟩ ⟨by decide, by decide⟩ ⟨Nat.zero_le _, Nat.zero_le _⟩ rfl rfl (Nat.le_of_ble_eq_true rfl) dS_giveNewBlockBack_16 ?_
    refine G.aload_n 1 F dS_giveNewBlockBack_19 rfl rfl ?_
    refine G.iconst 0 F dS_giveNewBlockBack_20 (by decide) ?_
    refine G.pT 10 16 F rfl ht (by decide) (by decide) flS_83 rfl rfl dS_giveNewBlockBack_21 ?_
    exact G.st (congrArg (cW X K) (if_neg h1)) (hE _ _ dS_giveNewBlockBack_24)

def f_goToHead (t : Nat) (c : CS) : CS := (f_moveHereTo t (c 2 0) (up2 (up2 c 10 t 0) 11 t 0))
theorem i_goToHead (t : Nat) (ht : t < 4) (c : CS) (hI : Inv c) : Inv (f_goToHead t c) := by
  unfold f_goToHead
  exact (i_moveHereTo t ht (c 2 0) (hI 2 _ rfl) (up2 (up2 c 10 t 0) 11 t 0) (Inv.upo (Inv.upi hI vp0) rfl))
set_option maxRecDepth 100000 in
set_option maxHeartbeats 4000000 in
theorem k_goToHead (l : Launch) (D : va_G) (K : Nat → ClassId) (base : Nat) (X : Nat → Nat) (t : Nat) (ht : t < 4) (c : CS) (hI : Inv c) : CtV l D K base yS_goToHead cS_goToHead 2 (rmD 1) [.ref (X 0), .ref (X (24 + t))] (cW X K c) (cW X K (f_goToHead t c)) := by
  refine CtV.enter (by decide) (Nat.le_of_ble_eq_true rfl) ?_
  intro κ A Q F hE
  show G κ l (rmD 1) A Q D 2 0 0 (cW X K c) 0 [(0, .ref (X 0)), (1, .ref (X (24 + t)))] []
  refine G.aload_n 1 F dS_goToHead_0 rfl rfl ?_
  refine G.iconst 0 F dS_goToHead_1 (by decide) ?_
  refine G.pT 4 10 F rfl ht (by decide) (by decide) flS_74 rfl rfl dS_goToHead_2 ?_
  refine G.aload_n 1 F dS_goToHead_5 rfl rfl ?_
  refine G.iconst 0 F dS_goToHead_6 (by decide) ?_
  refine G.pT 5 11 F rfl ht (by decide) (by decide) flS_176 rfl rfl dS_goToHead_7 ?_
  refine G.aload_n 0 F dS_goToHead_10 rfl rfl ?_
  refine G.aload_n 1 F dS_goToHead_11 rfl rfl ?_
  refine G.aload_n 0 F dS_goToHead_12 rfl rfl ?_
  refine G.gX 1 F (by decide) flS_15 rfl dS_goToHead_13 ?_
  refine G.iconst 0 F dS_goToHead_16 (by decide) ?_
  refine G.ldBn 0 F rfl (by decide) dS_goToHead_17 ?_
  refine G.gB 2 F (by decide) (by decide) flS_131 dS_goToHead_18 ?_
  refine G.tope (y := c 2 0) ((up2_f _ _ _ _ (by decide)).trans (up2_f _ _ _ _ (by decide))) ?_
  refine G.callv F (k_moveHereTo l D K base X t ht (c 2 0) (hI 2 _ rfl) (up2 (up2 c 10 t 0) 11 t 0) (Inv.upo (Inv.upi hI vp0) rfl)) ckS_179 cW_x rfl rfl ⟨rfl, rfl⟩ ⟨by decide, by decide⟩ ⟨Nat.zero_le _, Nat.zero_le _⟩ rfl rfl (Nat.le_of_ble_eq_true rfl) dS_goToHead_21 ?_
  exact G.st (congrArg (cW X K) rfl) (hE _ _ dS_goToHead_24)

set_option maxRecDepth 100000 in
set_option maxHeartbeats 4000000 in
theorem k_busyWorkerOf (l : Launch) (D : va_G) (K : Nat → ClassId) (base : Nat) (X : Nat → Nat) (t : Nat) (ht : t < 4) (c : CS) (hI : Inv c) (hb : ¬ c 7 t = 0) : CtR l D K base yS_busyWorkerOf cS_busyWorkerOf 3 RK (rmD 1) [.ref (X 0), .int (nI t)] (cW X K c) (X (24 + t)) (cW X K c) := by
  refine CtR.enter (by decide) (Nat.le_of_ble_eq_true rfl) ?_
  intro κ A Q F hE
  show G κ l (rmD 1) A Q D 3 0 0 (cW X K c) 0 [(0, .ref (X 0)), (1, .int (nI t))] []
  refine G.aload_n 0 F dS_busyWorkerOf_0 rfl rfl ?_
  refine G.iload_n 1 F dS_busyWorkerOf_1 rfl rfl ?_
  refine G.callr F (k_workerOf l D K base X t ht c hI) ckS_29 cW_x rfl rfl ⟨rfl, rfl⟩ ⟨by decide, by decide⟩ ⟨Nat.zero_le _, Nat.zero_le _⟩ rfl rfl (Nat.le_of_ble_eq_true rfl) dS_busyWorkerOf_2 ?_
  refine G.astore_nN F dS_busyWorkerOf_5 rfl (by decide) rfl ?_
  refine G.aload_n 0 F dS_busyWorkerOf_6 rfl rfl ?_
  refine G.gT 1 7 F rfl ht (by decide) flS_42 dS_busyWorkerOf_7 ?_
  refine G.if_ne 23 F dS_busyWorkerOf_10 rfl (fun _ => ?_) (fun h9 => absurd h9 hb)
  refine G.aload_n 0 F dS_busyWorkerOf_23 rfl rfl ?_
  exact hE _ _ _ dS_busyWorkerOf_24 rfl

def f_begin (t : Nat) (o : Int32) (y : Int32) (c : CS) : CS := (up2 (up2 (up2 (f_forget t c) 8 t o) 9 t y) 7 t 1)
theorem i_begin (t : Nat) (ht : t < 4) (o : Int32) (y : Int32) (c : CS) (hI : Inv c) (ho : ¬ o < 0) (ho2 : o ≤ 2) (hy : ¬ y < 0) (hy2 : y < 32) (hb : c 7 t = 0) : Inv (f_begin t o y c) := by
  unfold f_begin
  exact (Inv.upo (Inv.upo (Inv.upo (i_forget t ht c hI) rfl) rfl) rfl)
set_option maxRecDepth 100000 in
set_option maxHeartbeats 4000000 in
theorem k_begin (l : Launch) (D : va_G) (K : Nat → ClassId) (base : Nat) (X : Nat → Nat) (t : Nat) (ht : t < 4) (o : Int32) (y : Int32) (c : CS) (hI : Inv c) (ho : ¬ o < 0) (ho2 : o ≤ 2) (hy : ¬ y < 0) (hy2 : y < 32) (hb : c 7 t = 0) : CtV l D K base yS_begin cS_begin 5 (rmD 1) [.ref (X 0), .int (nI t), .int o, .int y] (cW X K c) (cW X K (f_begin t o y c)) := by
  refine CtV.enter (by decide) (Nat.le_of_ble_eq_true rfl) ?_
  intro κ A Q F hE
  show G κ l (rmD 1) A Q D 5 0 0 (cW X K c) 0 [(0, .ref (X 0)), (1, .int (nI t)), (2, .int o), (3, .int y)] []
  refine G.aload_n 0 F dS_begin_0 rfl rfl ?_
  refine G.iload_n 1 F dS_begin_1 rfl rfl ?_
  refine G.callr F (k_workerOf l D K base X t ht c hI) ckS_29 cW_x rfl rfl ⟨rfl, rfl⟩ ⟨by decide, by decide⟩ ⟨Nat.zero_le _, Nat.zero_le _⟩ rfl rfl (Nat.le_of_ble_eq_true rfl) dS_begin_2 ?_
  refine G.astoreN F dS_begin_5 (by decide) rfl ?_
  refine G.iload_n 3 F dS_begin_7 rfl rfl ?_
  refine G.if_lt 16 F dS_begin_8 rfl (fun h9 => absurd h9 ho) (fun _ => ?_)
  refine G.iload_n 3 F dS_begin_11 rfl rfl ?_
  refine G.iconst 2 F dS_begin_12 (by decide) ?_
  refine G.icmp_le 26 F dS_begin_13 rfl (fun _ => ?_) (fun h9 => absurd ho2 h9)
  refine G.iload_n 4 F dS_begin_26 rfl rfl ?_
  refine G.if_lt 36 F dS_begin_27 rfl (fun h9 => absurd h9 hy) (fun _ => ?_)
  refine G.iload_n 4 F dS_begin_30 rfl rfl ?_
  refine G.bipush 32 F dS_begin_31 (by decide) ?_
  refine G.icmp_lt 46 F dS_begin_33 rfl (fun _ => ?_) (fun h9 => absurd hy2 h9)
  refine G.aload 0 F dS_begin_46 rfl ?_
  refine G.gT 1 7 F rfl ht (by decide) flS_42 dS_begin_48 ?_
  refine G.if_eq 64 F dS_begin_51 rfl (fun _ => ?_) (fun h9 => absurd hb h9)
  refine G.aload 0 F dS_begin_64 rfl ?_
  refine G.callv F (k_forget l D K base X t ht c hI) ckS_50 (cW_t ht) rfl rfl ⟨rfl, rfl⟩ ⟨by decide, by decide⟩ ⟨Nat.zero_le _, Nat.zero_le _⟩ rfl rfl (Nat.le_of_ble_eq_true rfl) dS_begin_66 ?_
  refine G.aload 0 F dS_begin_69 rfl ?_
  refine G.iload_n 3 F dS_begin_71 rfl rfl ?_
  refine G.pT 2 8 F rfl ht (by decide) (by decide) flS_53 rfl rfl dS_begin_72 ?_
  refine G.aload 0 F dS_begin_75 rfl ?_
  refine G.iload_n 4 F dS_begin_77 rfl rfl ?_
  refine G.pT 3 9 F rfl ht (by decide) (by decide) flS_56 rfl rfl dS_begin_78 ?_
  refine G.aload 0 F dS_begin_81 rfl ?_
  refine G.iconst 1 F dS_begin_83 (by decide) ?_
  refine G.pT 1 7 F rfl ht (by decide) (by decide) flS_42 rfl rfl dS_begin_84 ?_
  exact G.st (congrArg (cW X K) rfl) (hE _ _ dS_begin_87)

def f_result (t : Nat) (c : CS) : Int32 := c 18 t
set_option maxRecDepth 100000 in
set_option maxHeartbeats 4000000 in
theorem k_result (l : Launch) (D : va_G) (K : Nat → ClassId) (base : Nat) (X : Nat → Nat) (t : Nat) (ht : t < 4) (c : CS) (hI : Inv c) (hb : ¬ c 18 t = (-1)) : CtI l D K base yS_result cS_result 3 .int (rmD 1) [.ref (X 0), .int (nI t)] (cW X K c) (f_result t c) (cW X K c) := by
  refine CtI.enter (by decide) (Nat.le_of_ble_eq_true rfl) ?_
  intro κ A Q F hE
  show G κ l (rmD 1) A Q D 3 0 0 (cW X K c) 0 [(0, .ref (X 0)), (1, .int (nI t))] []
  refine G.aload_n 0 F dS_result_0 rfl rfl ?_
  refine G.iload_n 1 F dS_result_1 rfl rfl ?_
  refine G.callr F (k_workerOf l D K base X t ht c hI) ckS_29 cW_x rfl rfl ⟨rfl, rfl⟩ ⟨by decide, by decide⟩ ⟨Nat.zero_le _, Nat.zero_le _⟩ rfl rfl (Nat.le_of_ble_eq_true rfl) dS_result_2 ?_
  refine G.astore_nN F dS_result_5 rfl (by decide) rfl ?_
  refine G.aload_n 0 F dS_result_6 rfl rfl ?_
  refine G.gT 12 18 F rfl ht (by decide) flS_66 dS_result_7 ?_
  refine G.iconst (-1) F dS_result_10 (by decide) ?_
  refine G.icmp_ne 24 F dS_result_11 rfl (fun _ => ?_) (fun h9 => absurd h9 hb)
  refine G.aload_n 0 F dS_result_24 rfl rfl ?_
  refine G.gT 12 18 F rfl ht (by decide) flS_66 dS_result_25 ?_
  exact hE _ _ (c 18 t) dS_result_28 rfl rfl.symm

def f_at (t : Nat) (c : CS) : Int32 := c 7 t
set_option maxRecDepth 100000 in
set_option maxHeartbeats 4000000 in
theorem k_at (l : Launch) (D : va_G) (K : Nat → ClassId) (base : Nat) (X : Nat → Nat) (t : Nat) (ht : t < 4) (c : CS) (hI : Inv c) : CtI l D K base yS_at cS_at 2 .int (rmD 1) [.ref (X 0), .int (nI t)] (cW X K c) (f_at t c) (cW X K c) := by
  refine CtI.enter (by decide) (Nat.le_of_ble_eq_true rfl) ?_
  intro κ A Q F hE
  show G κ l (rmD 1) A Q D 2 0 0 (cW X K c) 0 [(0, .ref (X 0)), (1, .int (nI t))] []
  refine G.aload_n 0 F dS_at_0 rfl rfl ?_
  refine G.iload_n 1 F dS_at_1 rfl rfl ?_
  refine G.callr F (k_workerOf l D K base X t ht c hI) ckS_29 cW_x rfl rfl ⟨rfl, rfl⟩ ⟨by decide, by decide⟩ ⟨Nat.zero_le _, Nat.zero_le _⟩ rfl rfl (Nat.le_of_ble_eq_true rfl) dS_at_2 ?_
  refine G.gT 1 7 F rfl ht (by decide) flS_42 dS_at_5 ?_
  exact hE _ _ (c 7 t) dS_at_8 rfl rfl.symm

def f_block (k : Nat) (w : Int32) (c : CS) : Int32 := (if nI k = 0 then (if w = 2 then f_tell k w c else (-1)) else f_tell k w c)
set_option maxRecDepth 100000 in
set_option maxHeartbeats 4000000 in
theorem k_block (l : Launch) (D : va_G) (K : Nat → ClassId) (base : Nat) (X : Nat → Nat) (k : Nat) (hk : k < 21) (w : Int32) (c : CS) (hI : Inv c) (hw : ¬ w < 0) (hw2 : w ≤ 5) : CtI l D K base yS_block cS_block 3 .int (rmD 1) [.ref (X 0), .int (nI k), .int w] (cW X K c) (f_block k w c) (cW X K c) := by
  refine CtI.enter (by decide) (Nat.le_of_ble_eq_true rfl) ?_
  intro κ A Q F hE
  show G κ l (rmD 1) A Q D 3 0 0 (cW X K c) 0 [(0, .ref (X 0)), (1, .int (nI k)), (2, .int w)] []
  refine G.iload_n 1 F dS_block_0 rfl rfl ?_
  refine G.if_lt 10 F dS_block_1 rfl (fun h9 => absurd h9 (cm_lt0 hk (by decide))) (fun _ => ?_)
  refine G.iload_n 1 F dS_block_4 rfl rfl ?_
  refine G.bipush 20 F dS_block_5 (by decide) ?_
  refine G.icmp_le 20 F dS_block_7 rfl (fun _ => ?_) (fun h9 => absurd (nI_le (b := 20) (Nat.le_of_lt_succ (Nat.lt_of_lt_of_le hk (by decide))) (by decide)) h9)
  refine G.iload_n 2 F dS_block_20 rfl rfl ?_
  refine G.if_lt 29 F dS_block_21 rfl (fun h9 => absurd h9 hw) (fun _ => ?_)
  refine G.iload_n 2 F dS_block_24 rfl rfl ?_
  refine G.iconst 5 F dS_block_25 (by decide) ?_
  refine G.icmp_le 39 F dS_block_26 rfl (fun _ => ?_) (fun h9 => absurd hw2 h9)
  refine G.iload_n 1 F dS_block_39 rfl rfl ?_
  refine G.if_ne 50 F dS_block_40 rfl (fun h1 => ?_) (fun h1 => ?_)
  · skip
    refine G.aload_n 0 F dS_block_50 rfl rfl ?_
    refine G.gX 1 F (by decide) flS_15 rfl dS_block_51 ?_
    refine G.iload_n 1 F dS_block_54 rfl rfl ?_
    refine G.ldBn k F rfl hk dS_block_55 ?_
    refine G.iload_n 2 F dS_block_56 rfl rfl ?_
    refine G.calli F (k_tell l D K base X k hk w c hI) ckS_127 (cW_b hk) rfl rfl ⟨rfl, rfl⟩ ⟨by decide, by decide⟩ ⟨Nat.zero_le _, Nat.zero_le _⟩ rfl rfl (Nat.le_of_ble_eq_true rfl) dS_block_57 ?_
    exact hE _ _ (f_tell k w c) dS_block_60 rfl (if_neg h1).symm
  · skip
    refine G.iload_n 2 F dS_block_43 rfl rfl ?_
    refine G.iconst 2 F dS_block_44 (by decide) ?_
    refine G.icmp_eq 50 F dS_block_45 rfl (fun h2 => ?_) (fun h2 => ?_)
    · skip
      refine G.aload_n 0 F dS_block_50 rfl rfl ?_
      refine G.gX 1 F (by decide) flS_15 rfl dS_block_51 ?_
      refine G.iload_n 1 F dS_block_54 rfl rfl ?_
      refine G.ldBn k F rfl hk dS_block_55 ?_
      refine G.iload_n 2 F dS_block_56 rfl rfl ?_
      refine G.calli F (k_tell l D K base X k hk w c hI) ckS_127 (cW_b hk) rfl rfl ⟨rfl, rfl⟩ ⟨by decide, by decide⟩ ⟨Nat.zero_le _, Nat.zero_le _⟩ rfl rfl (Nat.le_of_ble_eq_true rfl) dS_block_57 ?_
      exact hE _ _ (f_tell k w c) dS_block_60 rfl ((if_pos h1).trans (if_pos h2)).symm
    · skip
      refine G.iconst (-1) F dS_block_48 (by decide) ?_
      exact hE _ _ (-1) dS_block_49 rfl ((if_pos h1).trans (if_neg h2)).symm

def f_known0 (t : Nat) (c : CS) : Int32 := c 10 t
set_option maxRecDepth 100000 in
set_option maxHeartbeats 4000000 in
theorem k_known0 (l : Launch) (D : va_G) (K : Nat → ClassId) (base : Nat) (X : Nat → Nat) (t : Nat) (ht : t < 4) (c : CS) (hI : Inv c) : CtI l D K base yS_known cS_known 4 .int (rmD 1) [.ref (X 0), .int (nI t), .int 0] (cW X K c) (f_known0 t c) (cW X K c) := by
  refine CtI.enter (by decide) (Nat.le_of_ble_eq_true rfl) ?_
  intro κ A Q F hE
  show G κ l (rmD 1) A Q D 4 0 0 (cW X K c) 0 [(0, .ref (X 0)), (1, .int (nI t)), (2, .int 0)] []
  refine G.aload_n 0 F dS_known_0 rfl rfl ?_
  refine G.iload_n 1 F dS_known_1 rfl rfl ?_
  refine G.callr F (k_workerOf l D K base X t ht c hI) ckS_29 cW_x rfl rfl ⟨rfl, rfl⟩ ⟨by decide, by decide⟩ ⟨Nat.zero_le _, Nat.zero_le _⟩ rfl rfl (Nat.le_of_ble_eq_true rfl) dS_known_2 ?_
  refine G.astore_nN F dS_known_5 rfl (by decide) rfl ?_
  refine G.iload_n 3 F dS_known_6 rfl rfl ?_
  refine G.tabIn 36 (off := 29) F dS_known_7 (by decide) (by decide) rfl rfl ?_
  refine G.aload_n 0 F dS_known_36 rfl rfl ?_
  refine G.gT 4 10 F rfl ht (by decide) flS_74 dS_known_37 ?_
  exact hE _ _ (c 10 t) dS_known_40 rfl rfl.symm

def f_known1 (t : Nat) (c : CS) : Int32 := c 12 t
set_option maxRecDepth 100000 in
set_option maxHeartbeats 4000000 in
theorem k_known1 (l : Launch) (D : va_G) (K : Nat → ClassId) (base : Nat) (X : Nat → Nat) (t : Nat) (ht : t < 4) (c : CS) (hI : Inv c) : CtI l D K base yS_known cS_known 4 .int (rmD 1) [.ref (X 0), .int (nI t), .int 1] (cW X K c) (f_known1 t c) (cW X K c) := by
  refine CtI.enter (by decide) (Nat.le_of_ble_eq_true rfl) ?_
  intro κ A Q F hE
  show G κ l (rmD 1) A Q D 4 0 0 (cW X K c) 0 [(0, .ref (X 0)), (1, .int (nI t)), (2, .int 1)] []
  refine G.aload_n 0 F dS_known_0 rfl rfl ?_
  refine G.iload_n 1 F dS_known_1 rfl rfl ?_
  refine G.callr F (k_workerOf l D K base X t ht c hI) ckS_29 cW_x rfl rfl ⟨rfl, rfl⟩ ⟨by decide, by decide⟩ ⟨Nat.zero_le _, Nat.zero_le _⟩ rfl rfl (Nat.le_of_ble_eq_true rfl) dS_known_2 ?_
  refine G.astore_nN F dS_known_5 rfl (by decide) rfl ?_
  refine G.iload_n 3 F dS_known_6 rfl rfl ?_
  refine G.tabIn 41 (off := 34) F dS_known_7 (by decide) (by decide) rfl rfl ?_
  refine G.aload_n 0 F dS_known_41 rfl rfl ?_
  refine G.gT 6 12 F rfl ht (by decide) flS_77 dS_known_42 ?_
  exact hE _ _ (c 12 t) dS_known_45 rfl rfl.symm

def f_known2 (t : Nat) (c : CS) : Int32 := c 14 t
set_option maxRecDepth 100000 in
set_option maxHeartbeats 4000000 in
theorem k_known2 (l : Launch) (D : va_G) (K : Nat → ClassId) (base : Nat) (X : Nat → Nat) (t : Nat) (ht : t < 4) (c : CS) (hI : Inv c) : CtI l D K base yS_known cS_known 4 .int (rmD 1) [.ref (X 0), .int (nI t), .int 2] (cW X K c) (f_known2 t c) (cW X K c) := by
  refine CtI.enter (by decide) (Nat.le_of_ble_eq_true rfl) ?_
  intro κ A Q F hE
  show G κ l (rmD 1) A Q D 4 0 0 (cW X K c) 0 [(0, .ref (X 0)), (1, .int (nI t)), (2, .int 2)] []
  refine G.aload_n 0 F dS_known_0 rfl rfl ?_
  refine G.iload_n 1 F dS_known_1 rfl rfl ?_
  refine G.callr F (k_workerOf l D K base X t ht c hI) ckS_29 cW_x rfl rfl ⟨rfl, rfl⟩ ⟨by decide, by decide⟩ ⟨Nat.zero_le _, Nat.zero_le _⟩ rfl rfl (Nat.le_of_ble_eq_true rfl) dS_known_2 ?_
  refine G.astore_nN F dS_known_5 rfl (by decide) rfl ?_
  refine G.iload_n 3 F dS_known_6 rfl rfl ?_
  refine G.tabIn 46 (off := 39) F dS_known_7 (by decide) (by decide) rfl rfl ?_
  refine G.aload_n 0 F dS_known_46 rfl rfl ?_
  refine G.gT 8 14 F rfl ht (by decide) flS_80 dS_known_47 ?_
  exact hE _ _ (c 14 t) dS_known_50 rfl rfl.symm

def f_known3 (t : Nat) (c : CS) : Int32 := c 16 t
set_option maxRecDepth 100000 in
set_option maxHeartbeats 4000000 in
theorem k_known3 (l : Launch) (D : va_G) (K : Nat → ClassId) (base : Nat) (X : Nat → Nat) (t : Nat) (ht : t < 4) (c : CS) (hI : Inv c) : CtI l D K base yS_known cS_known 4 .int (rmD 1) [.ref (X 0), .int (nI t), .int 3] (cW X K c) (f_known3 t c) (cW X K c) := by
  refine CtI.enter (by decide) (Nat.le_of_ble_eq_true rfl) ?_
  intro κ A Q F hE
  show G κ l (rmD 1) A Q D 4 0 0 (cW X K c) 0 [(0, .ref (X 0)), (1, .int (nI t)), (2, .int 3)] []
  refine G.aload_n 0 F dS_known_0 rfl rfl ?_
  refine G.iload_n 1 F dS_known_1 rfl rfl ?_
  refine G.callr F (k_workerOf l D K base X t ht c hI) ckS_29 cW_x rfl rfl ⟨rfl, rfl⟩ ⟨by decide, by decide⟩ ⟨Nat.zero_le _, Nat.zero_le _⟩ rfl rfl (Nat.le_of_ble_eq_true rfl) dS_known_2 ?_
  refine G.astore_nN F dS_known_5 rfl (by decide) rfl ?_
  refine G.iload_n 3 F dS_known_6 rfl rfl ?_
  refine G.tabIn 51 (off := 44) F dS_known_7 (by decide) (by decide) rfl rfl ?_
  refine G.aload_n 0 F dS_known_51 rfl rfl ?_
  refine G.gT 10 16 F rfl ht (by decide) flS_83 dS_known_52 ?_
  exact hE _ _ (c 16 t) dS_known_55 rfl rfl.symm

def f_says0 (t : Nat) (c : CS) : Int32 := c 19 t
set_option maxRecDepth 100000 in
set_option maxHeartbeats 4000000 in
theorem k_says0 (l : Launch) (D : va_G) (K : Nat → ClassId) (base : Nat) (X : Nat → Nat) (t : Nat) (ht : t < 4) (c : CS) (hI : Inv c) : CtI l D K base yS_says cS_says 4 .int (rmD 1) [.ref (X 0), .int (nI t), .int 0] (cW X K c) (f_says0 t c) (cW X K c) := by
  refine CtI.enter (by decide) (Nat.le_of_ble_eq_true rfl) ?_
  intro κ A Q F hE
  show G κ l (rmD 1) A Q D 4 0 0 (cW X K c) 0 [(0, .ref (X 0)), (1, .int (nI t)), (2, .int 0)] []
  refine G.aload_n 0 F dS_says_0 rfl rfl ?_
  refine G.iload_n 1 F dS_says_1 rfl rfl ?_
  refine G.callr F (k_workerOf l D K base X t ht c hI) ckS_29 cW_x rfl rfl ⟨rfl, rfl⟩ ⟨by decide, by decide⟩ ⟨Nat.zero_le _, Nat.zero_le _⟩ rfl rfl (Nat.le_of_ble_eq_true rfl) dS_says_2 ?_
  refine G.astore_nN F dS_says_5 rfl (by decide) rfl ?_
  refine G.iload_n 3 F dS_says_6 rfl rfl ?_
  refine G.tabIn 32 (off := 25) F dS_says_7 (by decide) (by decide) rfl rfl ?_
  refine G.aload_n 0 F dS_says_32 rfl rfl ?_
  refine G.gT 13 19 F rfl ht (by decide) flS_91 dS_says_33 ?_
  exact hE _ _ (c 19 t) dS_says_36 rfl rfl.symm

def f_says1 (t : Nat) (c : CS) : Int32 := c 20 t
set_option maxRecDepth 100000 in
set_option maxHeartbeats 4000000 in
theorem k_says1 (l : Launch) (D : va_G) (K : Nat → ClassId) (base : Nat) (X : Nat → Nat) (t : Nat) (ht : t < 4) (c : CS) (hI : Inv c) : CtI l D K base yS_says cS_says 4 .int (rmD 1) [.ref (X 0), .int (nI t), .int 1] (cW X K c) (f_says1 t c) (cW X K c) := by
  refine CtI.enter (by decide) (Nat.le_of_ble_eq_true rfl) ?_
  intro κ A Q F hE
  show G κ l (rmD 1) A Q D 4 0 0 (cW X K c) 0 [(0, .ref (X 0)), (1, .int (nI t)), (2, .int 1)] []
  refine G.aload_n 0 F dS_says_0 rfl rfl ?_
  refine G.iload_n 1 F dS_says_1 rfl rfl ?_
  refine G.callr F (k_workerOf l D K base X t ht c hI) ckS_29 cW_x rfl rfl ⟨rfl, rfl⟩ ⟨by decide, by decide⟩ ⟨Nat.zero_le _, Nat.zero_le _⟩ rfl rfl (Nat.le_of_ble_eq_true rfl) dS_says_2 ?_
  refine G.astore_nN F dS_says_5 rfl (by decide) rfl ?_
  refine G.iload_n 3 F dS_says_6 rfl rfl ?_
  refine G.tabIn 37 (off := 30) F dS_says_7 (by decide) (by decide) rfl rfl ?_
  refine G.aload_n 0 F dS_says_37 rfl rfl ?_
  refine G.gT 14 20 F rfl ht (by decide) flS_94 dS_says_38 ?_
  exact hE _ _ (c 20 t) dS_says_41 rfl rfl.symm

def f_says2 (t : Nat) (c : CS) : Int32 := c 21 t
set_option maxRecDepth 100000 in
set_option maxHeartbeats 4000000 in
theorem k_says2 (l : Launch) (D : va_G) (K : Nat → ClassId) (base : Nat) (X : Nat → Nat) (t : Nat) (ht : t < 4) (c : CS) (hI : Inv c) : CtI l D K base yS_says cS_says 4 .int (rmD 1) [.ref (X 0), .int (nI t), .int 2] (cW X K c) (f_says2 t c) (cW X K c) := by
  refine CtI.enter (by decide) (Nat.le_of_ble_eq_true rfl) ?_
  intro κ A Q F hE
  show G κ l (rmD 1) A Q D 4 0 0 (cW X K c) 0 [(0, .ref (X 0)), (1, .int (nI t)), (2, .int 2)] []
  refine G.aload_n 0 F dS_says_0 rfl rfl ?_
  refine G.iload_n 1 F dS_says_1 rfl rfl ?_
  refine G.callr F (k_workerOf l D K base X t ht c hI) ckS_29 cW_x rfl rfl ⟨rfl, rfl⟩ ⟨by decide, by decide⟩ ⟨Nat.zero_le _, Nat.zero_le _⟩ rfl rfl (Nat.le_of_ble_eq_true rfl) dS_says_2 ?_
  refine G.astore_nN F dS_says_5 rfl (by decide) rfl ?_
  refine G.iload_n 3 F dS_says_6 rfl rfl ?_
  refine G.tabIn 42 (off := 35) F dS_says_7 (by decide) (by decide) rfl rfl ?_
  refine G.aload_n 0 F dS_says_42 rfl rfl ?_
  refine G.gT 15 21 F rfl ht (by decide) flS_97 dS_says_43 ?_
  exact hE _ _ (c 21 t) dS_says_46 rfl rfl.symm

def f_retireHere (t : Nat) (c : CS) : CS := (if c 22 0 = 2 then (f_setFree ((c 12 t).toNatClampNeg) c) else (if c 22 0 = 0 then (f_retireWith ((c 12 t).toNatClampNeg) (c 22 1) c) else (if f_countRetiredBy t (f_retireWith ((c 12 t).toNatClampNeg) (c 6 t) c) < 4 then (f_retireWith ((c 12 t).toNatClampNeg) (c 6 t) c) else (f_freeUnnamed t (f_retireWith ((c 12 t).toNatClampNeg) (c 6 t) c)).2)))
theorem i_retireHere (t : Nat) (ht : t < 4) (c : CS) (hI : Inv c) : Inv (f_retireHere t c) := by
  unfold f_retireHere
  exact (ite_c (fun h1 => (i_setFree ((c 12 t).toNatClampNeg) (ix_lt (hI 12 _ rfl)) c hI)) (fun h1 => (ite_c (fun h2 => (i_retireWith ((c 12 t).toNatClampNeg) (ix_lt (hI 12 _ rfl)) (c 22 1) c hI)) (fun h2 => (ite_c (fun h3 => (i_retireWith ((c 12 t).toNatClampNeg) (ix_lt (hI 12 _ rfl)) (c 6 t) c hI)) (fun h3 => (i_freeUnnamed t ht (f_retireWith ((c 12 t).toNatClampNeg) (c 6 t) c) (i_retireWith ((c 12 t).toNatClampNeg) (ix_lt (hI 12 _ rfl)) (c 6 t) c hI))))))))
set_option maxRecDepth 100000 in
set_option maxHeartbeats 4000000 in
theorem k_retireHere (l : Launch) (D : va_G) (K : Nat → ClassId) (base : Nat) (X : Nat → Nat) (t : Nat) (ht : t < 4) (c : CS) (hI : Inv c) : CtV l D K base yS_retireHere cS_retireHere 3 (rmD 2) [.ref (X 0), .ref (X (24 + t))] (cW X K c) (cW X K (f_retireHere t c)) := by
  refine CtV.enter (by decide) (Nat.le_of_ble_eq_true rfl) ?_
  intro κ A Q F hE
  show G κ l (rmD 2) A Q D 3 0 0 (cW X K c) 0 [(0, .ref (X 0)), (1, .ref (X (24 + t)))] []
  refine G.aload_n 0 F dS_retireHere_0 rfl rfl ?_
  refine G.gX 1 F (by decide) flS_15 rfl dS_retireHere_1 ?_
  refine G.aload_n 1 F dS_retireHere_4 rfl rfl ?_
  refine G.gT 6 12 F rfl ht (by decide) flS_77 dS_retireHere_5 ?_
  refine G.ldB F (hI 12 _ rfl) dS_retireHere_8 ?_
  refine G.astore_nN F dS_retireHere_9 rfl (by decide) rfl ?_
  refine G.aload_n 1 F dS_retireHere_10 rfl rfl ?_
  refine G.gX 0 F (by decide) flS_9 rfl dS_retireHere_11 ?_
  refine G.iconst 2 F dS_retireHere_14 (by decide) ?_
  refine G.icmp_ne 25 F dS_retireHere_15 rfl (fun h1 => ?_) (fun h1 => ?_)
  · skip
    refine G.aload_n 1 F dS_retireHere_25 rfl rfl ?_
    refine G.gX 0 F (by decide) flS_9 rfl dS_retireHere_26 ?_
    refine G.if_ne 43 F dS_retireHere_29 rfl (fun h2 => ?_) (fun h2 => ?_)
    · skip
      refine G.aload_n 0 F dS_retireHere_43 rfl rfl ?_
      refine G.aload_n 2 F dS_retireHere_44 rfl rfl ?_
      refine G.gT 0 6 F rfl ht (by decide) flS_244 dS_retireHere_45 ?_
      refine G.callv F (k_retireWith l D K base X ((c 12 t).toNatClampNeg) (ix_lt (hI 12 _ rfl)) (c 6 t) c hI) ckS_241 (cW_b (ix_lt (hI 12 _ rfl))) rfl rfl ⟨rfl, rfl⟩ ⟨by decide, by decide⟩ ⟨Nat.zero_le _, Nat.zero_le _⟩ rfl rfl (Nat.le_of_ble_eq_true rfl) dS_retireHere_48 ?_
      refine G.aload_n 1 F dS_retireHere_51 rfl rfl ?_
      refine G.aload_n 2 F dS_retireHere_52 rfl rfl ?_
      refine G.calli F (k_countRetiredBy l D K base X t ht (f_retireWith ((c 12 t).toNatClampNeg) (c 6 t) c) (i_retireWith ((c 12 t).toNatClampNeg) (ix_lt (hI 12 _ rfl)) (c 6 t) c hI)) ckS_247 cW_x rfl rfl ⟨rfl, rfl⟩ ⟨by decide, by decide⟩ ⟨Nat.zero_le _, Nat.zero_le _⟩ rfl rfl (Nat.le_of_ble_eq_true rfl) dS_retireHere_53 ?_
      refine G.iconst 4 F dS_retireHere_56 (by decide) ?_
      refine G.icmp_lt 66 F dS_retireHere_57 rfl (fun h3 => ?_) (fun h3 => ?_)
      · skip
        exact G.st (congrArg (cW X K) ((if_neg h1).trans ((if_neg h2).trans (if_pos h3)))) (hE _ _ dS_retireHere_66)
      · skip
        refine G.aload_n 1 F dS_retireHere_60 rfl rfl ?_
        refine G.aload_n 2 F dS_retireHere_61 rfl rfl ?_
        refine G.calli F (k_freeUnnamed l D K base X t ht (f_retireWith ((c 12 t).toNatClampNeg) (c 6 t) c) (i_retireWith ((c 12 t).toNatClampNeg) (ix_lt (hI 12 _ rfl)) (c 6 t) c hI)) ckS_119 cW_x rfl rfl ⟨rfl, rfl⟩ ⟨by decide, by decide⟩ ⟨Nat.zero_le _, Nat.zero_le _⟩ rfl rfl (Nat.le_of_ble_eq_true rfl) dS_retireHere_62 ?_
        refine G.pop F dS_retireHere_65 rfl ?_
        exact G.st (congrArg (cW X K) ((if_neg h1).trans ((if_neg h2).trans (if_neg h3)))) (hE _ _ dS_retireHere_66)
    · skip
      refine G.aload_n 0 F dS_retireHere_32 rfl rfl ?_
      refine G.aload_n 1 F dS_retireHere_33 rfl rfl ?_
      refine G.gX 3 F (by decide) flS_111 rfl dS_retireHere_34 ?_
      refine G.callv F (k_retireWith l D K base X ((c 12 t).toNatClampNeg) (ix_lt (hI 12 _ rfl)) (c 22 1) c hI) ckS_241 (cW_b (ix_lt (hI 12 _ rfl))) rfl rfl ⟨rfl, rfl⟩ ⟨by decide, by decide⟩ ⟨Nat.zero_le _, Nat.zero_le _⟩ rfl rfl (Nat.le_of_ble_eq_true rfl) dS_retireHere_37 ?_
      refine G.goto 66 F dS_retireHere_40 rfl ?_
      exact G.st (congrArg (cW X K) ((if_neg h1).trans (if_pos h2))) (hE _ _ dS_retireHere_66)
  · skip
    refine G.aload_n 0 F dS_retireHere_18 rfl rfl ?_
    refine G.callv F (k_setFree l D K base X ((c 12 t).toNatClampNeg) (ix_lt (hI 12 _ rfl)) c hI) ckS_238 (cW_b (ix_lt (hI 12 _ rfl))) rfl rfl ⟨rfl, rfl⟩ ⟨by decide, by decide⟩ ⟨Nat.zero_le _, Nat.zero_le _⟩ rfl rfl (Nat.le_of_ble_eq_true rfl) dS_retireHere_19 ?_
    refine G.goto 66 F dS_retireHere_22 rfl ?_
    exact G.st (congrArg (cW X K) (if_pos h1)) (hE _ _ dS_retireHere_66)

def f_hangNewBlock (t : Nat) (c : CS) : CS := (if f_leadsTo (((f_lookAtBack t c) 10 t).toNatClampNeg) ((f_lookAtBack t c) 12 t) (f_lookAtBack t c) = 0 then (up2 (f_lookAtBack t c) 7 t 2) else (f_conclude t 1 (f_lead (((f_lookAtBack t c) 10 t).toNatClampNeg) ((f_lookAtBack t c) 16 t) (f_lookAtBack t c))))
theorem i_hangNewBlock (t : Nat) (ht : t < 4) (c : CS) (hI : Inv c) : Inv (f_hangNewBlock t c) := by
  unfold f_hangNewBlock
  exact (ite_c (fun h1 => (Inv.upo (i_lookAtBack t ht c hI) rfl)) (fun h1 => (i_conclude t ht 1 (f_lead (((f_lookAtBack t c) 10 t).toNatClampNeg) ((f_lookAtBack t c) 16 t) (f_lookAtBack t c)) (i_lead (((f_lookAtBack t c) 10 t).toNatClampNeg) (ix_lt ((i_lookAtBack t ht c hI) 10 _ rfl)) ((f_lookAtBack t c) 16 t) ((i_lookAtBack t ht c hI) 16 _ rfl) (f_lookAtBack t c) (i_lookAtBack t ht c hI)))))
set_option maxRecDepth 100000 in
set_option maxHeartbeats 4000000 in
theorem k_hangNewBlock (l : Launch) (D : va_G) (K : Nat → ClassId) (base : Nat) (X : Nat → Nat) (t : Nat) (ht : t < 4) (c : CS) (hI : Inv c) : CtV l D K base yS_hangNewBlock cS_hangNewBlock 3 (rmD 2) [.ref (X 0), .ref (X (24 + t))] (cW X K c) (cW X K (f_hangNewBlock t c)) := by
  refine CtV.enter (by decide) (Nat.le_of_ble_eq_true rfl) ?_
  intro κ A Q F hE
  show G κ l (rmD 2) A Q D 3 0 0 (cW X K c) 0 [(0, .ref (X 0)), (1, .ref (X (24 + t)))] []
  refine G.aload_n 0 F dS_hangNewBlock_0 rfl rfl ?_
  refine G.aload_n 1 F dS_hangNewBlock_1 rfl rfl ?_
  refine G.callv F (k_lookAtBack l D K base X t ht c hI) ckS_183 cW_x rfl rfl ⟨rfl, rfl⟩ ⟨by decide, by decide⟩ ⟨Nat.zero_le _, Nat.zero_le _⟩ rfl rfl (Nat.le_of_ble_eq_true rfl) dS_hangNewBlock_2 ?_
  refine G.aload_n 0 F dS_hangNewBlock_5 rfl rfl ?_
  refine G.gX 1 F (by decide) flS_15 rfl dS_hangNewBlock_6 ?_
  refine G.aload_n 1 F dS_hangNewBlock_9 rfl rfl ?_
  refine G.gT 4 10 F rfl ht (by decide) flS_74 dS_hangNewBlock_10 ?_
  refine G.ldB F ((i_lookAtBack t ht c hI) 10 _ rfl) dS_hangNewBlock_13 ?_
  refine G.astore_nN F dS_hangNewBlock_14 rfl (by decide) rfl ?_
  refine G.aload_n 0 F dS_hangNewBlock_15 rfl rfl ?_
  refine G.aload_n 2 F dS_hangNewBlock_16 rfl rfl ?_
  refine G.gT 6 12 F rfl ht (by decide) flS_77 dS_hangNewBlock_17 ?_
  refine G.calli F (k_leadsTo l D K base X (((f_lookAtBack t c) 10 t).toNatClampNeg) (ix_lt ((i_lookAtBack t ht c hI) 10 _ rfl)) ((f_lookAtBack t c) 12 t) (f_lookAtBack t c) (i_lookAtBack t ht c hI)) ckS_186 (cW_b (ix_lt ((i_lookAtBack t ht c hI) 10 _ rfl))) rfl rfl ⟨rfl, rfl⟩ ⟨by decide, by decide⟩ ⟨Nat.zero_le _, Nat.zero_le _⟩ rfl rfl (Nat.le_of_ble_eq_true rfl) dS_hangNewBlock_20 ?_
  refine G.if_eq 43 F dS_hangNewBlock_23 rfl (fun h1 => ?_) (fun h1 => ?_)
  · skip
    refine G.aload_n 2 F dS_hangNewBlock_43 rfl rfl ?_
    refine G.iconst 2 F dS_hangNewBlock_44 (by decide) ?_
    refine G.pT 1 7 F rfl ht (by decide) (by decide) flS_42 rfl rfl dS_hangNewBlock_45 ?_
    exact G.st (congrArg (cW X K) (if_pos h1)) (hE _ _ dS_hangNewBlock_48)
  · skip
    refine G.aload_n 0 F dS_hangNewBlock_26 rfl rfl ?_
    refine G.aload_n 2 F dS_hangNewBlock_27 rfl rfl ?_
    refine G.gT 10 16 F rfl ht (by decide) flS_83 dS_hangNewBlock_28 ?_
    refine G.callv F (k_lead l D K base X (((f_lookAtBack t c) 10 t).toNatClampNeg) (ix_lt ((i_lookAtBack t ht c hI) 10 _ rfl)) ((f_lookAtBack t c) 16 t) ((i_lookAtBack t ht c hI) 16 _ rfl) (f_lookAtBack t c) (i_lookAtBack t ht c hI)) ckS_219 (cW_b (ix_lt ((i_lookAtBack t ht c hI) 10 _ rfl))) rfl rfl ⟨rfl, rfl⟩ ⟨by decide, by decide⟩ ⟨Nat.zero_le _, Nat.zero_le _⟩ rfl rfl (Nat.le_of_ble_eq_true rfl) dS_hangNewBlock_31 ?_
    refine G.aload_n 1 F dS_hangNewBlock_34 rfl rfl ?_
    refine G.aload_n 2 F dS_hangNewBlock_35 rfl rfl ?_
    refine G.iconst 1 F dS_hangNewBlock_36 (by decide) ?_
    refine G.callv F (k_conclude l D K base X t ht 1 (f_lead (((f_lookAtBack t c) 10 t).toNatClampNeg) ((f_lookAtBack t c) 16 t) (f_lookAtBack t c)) (i_lead (((f_lookAtBack t c) 10 t).toNatClampNeg) (ix_lt ((i_lookAtBack t ht c hI) 10 _ rfl)) ((f_lookAtBack t c) 16 t) ((i_lookAtBack t ht c hI) 16 _ rfl) (f_lookAtBack t c) (i_lookAtBack t ht c hI))) ckS_209 cW_x rfl rfl ⟨rfl, rfl⟩ ⟨by decide, by decide⟩ ⟨Nat.zero_le _, Nat.zero_le _⟩ rfl rfl (Nat.le_of_ble_eq_true rfl) dS_hangNewBlock_37 ?_
    refine G.goto 48 F dS_hangNewBlock_40 rfl ?_
    exact G.st (congrArg (cW X K) (if_neg h1)) (hE _ _ dS_hangNewBlock_48)

def f_markForRemoval (t : Nat) (c : CS) : CS := (if c 15 t = 0 then (f_conclude t 0 c) else (if f_leadsTo (((f_lookAtHere t c) 12 t).toNatClampNeg) ((f_lookAtHere t c) 14 t) (f_lookAtHere t c) = 0 then (up2 (f_lookAtHere t c) 7 t 2) else (up2 (up2 (f_lookAtHere t c) 3 (((f_lookAtHere t c) 12 t).toNatClampNeg) 1) 7 t 10)))
theorem i_markForRemoval (t : Nat) (ht : t < 4) (c : CS) (hI : Inv c) : Inv (f_markForRemoval t c) := by
  unfold f_markForRemoval
  exact (ite_c (fun h1 => (i_conclude t ht 0 c hI)) (fun h1 => (ite_c (fun h2 => (Inv.upo (i_lookAtHere t ht c hI) rfl)) (fun h2 => (Inv.upo (Inv.upo (i_lookAtHere t ht c hI) rfl) rfl)))))
set_option maxRecDepth 100000 in
set_option maxHeartbeats 4000000 in
theorem k_markForRemoval (l : Launch) (D : va_G) (K : Nat → ClassId) (base : Nat) (X : Nat → Nat) (t : Nat) (ht : t < 4) (c : CS) (hI : Inv c) : CtV l D K base yS_markForRemoval cS_markForRemoval 3 (rmD 2) [.ref (X 0), .ref (X (24 + t))] (cW X K c) (cW X K (f_markForRemoval t c)) := by
  refine CtV.enter (by decide) (Nat.le_of_ble_eq_true rfl) ?_
  intro κ A Q F hE
  show G κ l (rmD 2) A Q D 3 0 0 (cW X K c) 0 [(0, .ref (X 0)), (1, .ref (X (24 + t)))] []
  refine G.aload_n 1 F dS_markForRemoval_0 rfl rfl ?_
  refine G.gT 9 15 F rfl ht (by decide) flS_190 dS_markForRemoval_1 ?_
  refine G.if_ne 14 F dS_markForRemoval_4 rfl (fun h1 => ?_) (fun h1 => ?_)
  · skip
    refine G.aload_n 0 F dS_markForRemoval_14 rfl rfl ?_
    refine G.aload_n 1 F dS_markForRemoval_15 rfl rfl ?_
    refine G.callv F (k_lookAtHere l D K base X t ht c hI) ckS_193 cW_x rfl rfl ⟨rfl, rfl⟩ ⟨by decide, by decide⟩ ⟨Nat.zero_le _, Nat.zero_le _⟩ rfl rfl (Nat.le_of_ble_eq_true rfl) dS_markForRemoval_16 ?_
    refine G.aload_n 0 F dS_markForRemoval_19 rfl rfl ?_
    refine G.gX 1 F (by decide) flS_15 rfl dS_markForRemoval_20 ?_
    refine G.aload_n 1 F dS_markForRemoval_23 rfl rfl ?_
    refine G.gT 6 12 F rfl ht (by decide) flS_77 dS_markForRemoval_24 ?_
    refine G.ldB F ((i_lookAtHere t ht c hI) 12 _ rfl) dS_markForRemoval_27 ?_
    refine G.astore_nN F dS_markForRemoval_28 rfl (by decide) rfl ?_
    refine G.aload_n 0 F dS_markForRemoval_29 rfl rfl ?_
    refine G.aload_n 2 F dS_markForRemoval_30 rfl rfl ?_
    refine G.gT 8 14 F rfl ht (by decide) flS_80 dS_markForRemoval_31 ?_
    refine G.calli F (k_leadsTo l D K base X (((f_lookAtHere t c) 12 t).toNatClampNeg) (ix_lt ((i_lookAtHere t ht c hI) 12 _ rfl)) ((f_lookAtHere t c) 14 t) (f_lookAtHere t c) (i_lookAtHere t ht c hI)) ckS_186 (cW_b (ix_lt ((i_lookAtHere t ht c hI) 12 _ rfl))) rfl rfl ⟨rfl, rfl⟩ ⟨by decide, by decide⟩ ⟨Nat.zero_le _, Nat.zero_le _⟩ rfl rfl (Nat.le_of_ble_eq_true rfl) dS_markForRemoval_34 ?_
    refine G.if_eq 54 F dS_markForRemoval_37 rfl (fun h2 => ?_) (fun h2 => ?_)
    · skip
      refine G.aload_n 2 F dS_markForRemoval_54 rfl rfl ?_
      refine G.iconst 2 F dS_markForRemoval_55 (by decide) ?_
      refine G.pT 1 7 F rfl ht (by decide) (by decide) flS_42 rfl rfl dS_markForRemoval_56 ?_
      exact G.st (congrArg (cW X K) ((if_neg h1).trans (if_pos h2))) (hE _ _ dS_markForRemoval_59)
    · skip
      refine G.aload_n 0 F dS_markForRemoval_40 rfl rfl ?_
      refine G.iconst 1 F dS_markForRemoval_41 (by decide) ?_
      refine G.pB 3 F (ix_lt ((i_lookAtHere t ht c hI) 12 _ rfl)) (by decide) flS_134 rfl rfl dS_markForRemoval_42 ?_
      refine G.aload_n 2 F dS_markForRemoval_45 rfl rfl ?_
      refine G.bipush 10 F dS_markForRemoval_46 (by decide) ?_
      refine G.pT 1 7 F rfl ht (by decide) (by decide) flS_42 rfl rfl dS_markForRemoval_48 ?_
      refine G.goto 59 F dS_markForRemoval_51 rfl ?_
      exact G.st (congrArg (cW X K) ((if_neg h1).trans (if_neg h2))) (hE _ _ dS_markForRemoval_59)
  · skip
    refine G.aload_n 0 F dS_markForRemoval_7 rfl rfl ?_
    refine G.aload_n 1 F dS_markForRemoval_8 rfl rfl ?_
    refine G.iconst 0 F dS_markForRemoval_9 (by decide) ?_
    refine G.callv F (k_conclude l D K base X t ht 0 c hI) ckS_209 cW_x rfl rfl ⟨rfl, rfl⟩ ⟨by decide, by decide⟩ ⟨Nat.zero_le _, Nat.zero_le _⟩ rfl rfl (Nat.le_of_ble_eq_true rfl) dS_markForRemoval_10 ?_
    exact G.st (congrArg (cW X K) (if_pos h1)) (hE _ _ dS_markForRemoval_13)

def f_prepareInsert (t : Nat) (c : CS) : CS := (if c 15 t = 0 then (if c 16 t = 0 then (if (f_takeFreeBlock c).1 = 0 then (f_conclude t 2 (up2 (f_takeFreeBlock c).2 16 t ((f_takeFreeBlock c).1))) else (up2 (f_lead (((f_takeFreeBlock c).1).toNatClampNeg) ((f_takeFreeBlock c).2 12 t) (up2 (up2 (f_takeFreeBlock c).2 16 t ((f_takeFreeBlock c).1)) 1 (((f_takeFreeBlock c).1).toNatClampNeg) ((f_takeFreeBlock c).2 9 t))) 7 t 8)) else (if c 16 t = 0 then (f_conclude t 2 c) else (up2 (f_lead ((c 16 t).toNatClampNeg) (c 12 t) (up2 c 1 ((c 16 t).toNatClampNeg) (c 9 t))) 7 t 8))) else (f_conclude t 0 (f_giveNewBlockBack t c)))
theorem i_prepareInsert (t : Nat) (ht : t < 4) (c : CS) (hI : Inv c) : Inv (f_prepareInsert t c) := by
  unfold f_prepareInsert
  exact (ite_c (fun h1 => (ite_c (fun h2 => (ite_c (fun h4 => (i_conclude t ht 2 (up2 (f_takeFreeBlock c).2 16 t ((f_takeFreeBlock c).1)) (Inv.upi (i_takeFreeBlock  c hI) (r_takeFreeBlock c)))) (fun h4 => (Inv.upo (i_lead (((f_takeFreeBlock c).1).toNatClampNeg) (ix_lt (r_takeFreeBlock c)) ((f_takeFreeBlock c).2 12 t) ((i_takeFreeBlock  c hI) 12 _ rfl) (up2 (up2 (f_takeFreeBlock c).2 16 t ((f_takeFreeBlock c).1)) 1 (((f_takeFreeBlock c).1).toNatClampNeg) ((f_takeFreeBlock c).2 9 t)) (Inv.upo (Inv.upi (i_takeFreeBlock  c hI) (r_takeFreeBlock c)) rfl)) rfl)))) (fun h2 => (ite_c (fun h3 => (i_conclude t ht 2 c hI)) (fun h3 => (Inv.upo (i_lead ((c 16 t).toNatClampNeg) (ix_lt (hI 16 _ rfl)) (c 12 t) (hI 12 _ rfl) (up2 c 1 ((c 16 t).toNatClampNeg) (c 9 t)) (Inv.upo hI rfl)) rfl)))))) (fun h1 => (i_conclude t ht 0 (f_giveNewBlockBack t c) (i_giveNewBlockBack t ht c hI))))
set_option maxRecDepth 100000 in
set_option maxHeartbeats 4000000 in
theorem k_prepareInsert (l : Launch) (D : va_G) (K : Nat → ClassId) (base : Nat) (X : Nat → Nat) (t : Nat) (ht : t < 4) (c : CS) (hI : Inv c) : CtV l D K base yS_prepareInsert cS_prepareInsert 3 (rmD 2) [.ref (X 0), .ref (X (24 + t))] (cW X K c) (cW X K (f_prepareInsert t c)) := by
  refine CtV.enter (by decide) (Nat.le_of_ble_eq_true rfl) ?_
  intro κ A Q F hE
  show G κ l (rmD 2) A Q D 3 0 0 (cW X K c) 0 [(0, .ref (X 0)), (1, .ref (X (24 + t)))] []
  refine G.aload_n 1 F dS_prepareInsert_0 rfl rfl ?_
  refine G.gT 9 15 F rfl ht (by decide) flS_190 dS_prepareInsert_1 ?_
  refine G.if_eq 19 F dS_prepareInsert_4 rfl (fun h1 => ?_) (fun h1 => ?_)
  · skip
    refine G.aload_n 1 F dS_prepareInsert_19 rfl rfl ?_
    refine G.gT 10 16 F rfl ht (by decide) flS_83 dS_prepareInsert_20 ?_
    refine G.if_ne 34 F dS_prepareInsert_23 rfl (fun h2 => ?_) (fun h2 => ?_)
    · skip
      refine G.aload_n 1 F dS_prepareInsert_34 rfl rfl ?_
      refine G.gT 10 16 F rfl ht (by decide) flS_83 dS_prepareInsert_35 ?_
      refine G.if_ne 48 F dS_prepareInsert_38 rfl (fun h3 => ?_) (fun h3 => ?_)
      · skip
        refine G.aload_n 0 F dS_prepareInsert_48 rfl rfl ?_
        refine G.gX 1 F (by decide) flS_15 rfl dS_prepareInsert_49 ?_
        refine G.aload_n 1 F dS_prepareInsert_52 rfl rfl ?_
        refine G.gT 10 16 F rfl ht (by decide) flS_83 dS_prepareInsert_53 ?_
        refine G.ldB F (hI 16 _ rfl) dS_prepareInsert_56 ?_
        refine G.astore_nN F dS_prepareInsert_57 rfl (by decide) rfl ?_
        refine G.aload_n 0 F dS_prepareInsert_58 rfl rfl ?_
        refine G.aload_n 2 F dS_prepareInsert_59 rfl rfl ?_
        refine G.gT 3 9 F rfl ht (by decide) flS_56 dS_prepareInsert_60 ?_
        refine G.pB 1 F (ix_lt (hI 16 _ rfl)) (by decide) flS_138 rfl rfl dS_prepareInsert_63 ?_
        refine G.aload_n 0 F dS_prepareInsert_66 rfl rfl ?_
        refine G.aload_n 2 F dS_prepareInsert_67 rfl rfl ?_
        refine G.gT 6 12 F rfl ht (by decide) flS_77 dS_prepareInsert_68 ?_
        refine G.tope (y := c 12 t) (up2_f _ _ _ _ (by decide)) ?_
        refine G.callv F (k_lead l D K base X ((c 16 t).toNatClampNeg) (ix_lt (hI 16 _ rfl)) (c 12 t) (hI 12 _ rfl) (up2 c 1 ((c 16 t).toNatClampNeg) (c 9 t)) (Inv.upo hI rfl)) ckS_219 (cW_b (ix_lt (hI 16 _ rfl))) rfl rfl ⟨rfl, rfl⟩ ⟨by decide, by decide⟩ ⟨Nat.zero_le _, Nat.zero_le _⟩ rfl rfl (Nat.le_of_ble_eq_true rfl) dS_prepareInsert_71 ?_
        refine G.aload_n 2 F dS_prepareInsert_74 rfl rfl ?_
        refine G.bipush 8 F dS_prepareInsert_75 (by decide) ?_
        refine G.pT 1 7 F rfl ht (by decide) (by decide) flS_42 rfl rfl dS_prepareInsert_77 ?_
        exact G.st (congrArg (cW X K) ((if_pos h1).trans ((if_neg h2).trans (if_neg h3)))) (hE _ _ dS_prepareInsert_80)
      · skip
        refine G.aload_n 0 F dS_prepareInsert_41 rfl rfl ?_
        refine G.aload_n 1 F dS_prepareInsert_42 rfl rfl ?_
        refine G.iconst 2 F dS_prepareInsert_43 (by decide) ?_
        refine G.callv F (k_conclude l D K base X t ht 2 c hI) ckS_209 cW_x rfl rfl ⟨rfl, rfl⟩ ⟨by decide, by decide⟩ ⟨Nat.zero_le _, Nat.zero_le _⟩ rfl rfl (Nat.le_of_ble_eq_true rfl) dS_prepareInsert_44 ?_
        exact G.st (congrArg (cW X K) ((if_pos h1).trans ((if_neg h2).trans (if_pos h3)))) (hE _ _ dS_prepareInsert_47)
    · skip
      refine G.aload_n 1 F dS_prepareInsert_26 rfl rfl ?_
      refine G.aload_n 0 F dS_prepareInsert_27 rfl rfl ?_
      refine G.calli F (k_takeFreeBlock l D K base X  c hI) ckS_215 cW_x rfl rfl ⟨rfl, rfl⟩ ⟨by decide, by decide⟩ ⟨Nat.zero_le _, Nat.zero_le _⟩ rfl rfl (Nat.le_of_ble_eq_true rfl) dS_prepareInsert_28 ?_
      refine G.pT 10 16 F rfl ht (by decide) (by decide) flS_83 rfl rfl dS_prepareInsert_31 ?_
      refine G.aload_n 1 F dS_prepareInsert_34 rfl rfl ?_
      refine G.gT 10 16 F rfl ht (by decide) flS_83 dS_prepareInsert_35 ?_
      refine G.tope (y := (f_takeFreeBlock c).1) (up2_eq _ _ _ _) ?_
      refine G.if_ne 48 F dS_prepareInsert_38 rfl (fun h4 => ?_) (fun h4 => ?_)
      · skip
        refine G.aload_n 0 F dS_prepareInsert_48 rfl rfl ?_
        refine G.gX 1 F (by decide) flS_15 rfl dS_prepareInsert_49 ?_
        refine G.aload_n 1 F dS_prepareInsert_52 rfl rfl ?_
        refine G.gT 10 16 F rfl ht (by decide) flS_83 dS_prepareInsert_53 ?_
        refine G.tope (y := (f_takeFreeBlock c).1) (up2_eq _ _ _ _) ?_
        refine G.ldB F (r_takeFreeBlock c) dS_prepareInsert_56 ?_
        refine G.astore_nN F dS_prepareInsert_57 rfl (by decide) rfl ?_
        refine G.aload_n 0 F dS_prepareInsert_58 rfl rfl ?_
        refine G.aload_n 2 F dS_prepareInsert_59 rfl rfl ?_
        refine G.gT 3 9 F rfl ht (by decide) flS_56 dS_prepareInsert_60 ?_
        refine G.tope (y := (f_takeFreeBlock c).2 9 t) (up2_f _ _ _ _ (by decide)) ?_
        refine G.pB 1 F (ix_lt (r_takeFreeBlock c)) (by decide) flS_138 rfl rfl dS_prepareInsert_63 ?_
        refine G.aload_n 0 F dS_prepareInsert_66 rfl rfl ?_
        refine G.aload_n 2 F dS_prepareInsert_67 rfl rfl ?_
        refine G.gT 6 12 F rfl ht (by decide) flS_77 dS_prepareInsert_68 ?_
        refine G.tope (y := (f_takeFreeBlock c).2 12 t) ((up2_f _ _ _ _ (by decide)).trans (up2_f _ _ _ _ (by decide))) ?_
        refine G.callv F (k_lead l D K base X (((f_takeFreeBlock c).1).toNatClampNeg) (ix_lt (r_takeFreeBlock c)) ((f_takeFreeBlock c).2 12 t) ((i_takeFreeBlock  c hI) 12 _ rfl) (up2 (up2 (f_takeFreeBlock c).2 16 t ((f_takeFreeBlock c).1)) 1 (((f_takeFreeBlock c).1).toNatClampNeg) ((f_takeFreeBlock c).2 9 t)) (Inv.upo (Inv.upi (i_takeFreeBlock  c hI) (r_takeFreeBlock c)) rfl)) ckS_219 (cW_b (ix_lt (r_takeFreeBlock c))) rfl rfl ⟨rfl, rfl⟩ ⟨by decide, by decide⟩ ⟨Nat.zero_le _, Nat.zero_le _⟩ rfl rfl (Nat.le_of_ble_eq_true rfl) dS_prepareInsert_71 ?_
        refine G.aload_n 2 F dS_prepareInsert_74 rfl rfl ?_
        refine G.bipush 8 F dS_prepareInsert_75 (by decide) ?_
        refine G.pT 1 7 F rfl ht (by decide) (by decide) flS_42 rfl rfl dS_prepareInsert_77 ?_
        exact G.st (congrArg (cW X K) ((if_pos h1).trans ((if_pos h2).trans (if_neg h4)))) (hE _ _ dS_prepareInsert_80)
      · skip
        refine G.aload_n 0 F dS_prepareInsert_41 rfl rfl ?_
        refine G.aload_n 1 F dS_prepareInsert_42 rfl rfl ?_
        refine G.iconst 2 F dS_prepareInsert_43 (by decide) ?_
        refine G.callv F (k_conclude l D K base X t ht 2 (up2 (f_takeFreeBlock c).2 16 t ((f_takeFreeBlock c).1)) (Inv.upi (i_takeFreeBlock  c hI) (r_takeFreeBlock c))) ckS_209 cW_x rfl rfl ⟨rfl, rfl⟩ ⟨by decide, by decide⟩ ⟨Nat.zero_le _, Nat.zero_le _⟩ rfl rfl (Nat.le_of_ble_eq_true rfl) dS_prepareInsert_44 ?_
        exact G.st (congrArg (cW X K) ((if_pos h1).trans ((if_pos h2).trans (if_pos h4)))) (hE _ _ dS_prepareInsert_47)
  · skip
    refine G.aload_n 0 F dS_prepareInsert_7 rfl rfl ?_
    refine G.aload_n 1 F dS_prepareInsert_8 rfl rfl ?_
    refine G.callv F (k_giveNewBlockBack l D K base X t ht c hI) ckS_212 cW_x rfl rfl ⟨rfl, rfl⟩ ⟨by decide, by decide⟩ ⟨Nat.zero_le _, Nat.zero_le _⟩ rfl rfl (Nat.le_of_ble_eq_true rfl) dS_prepareInsert_9 ?_
    refine G.aload_n 0 F dS_prepareInsert_12 rfl rfl ?_
    refine G.aload_n 1 F dS_prepareInsert_13 rfl rfl ?_
    refine G.iconst 0 F dS_prepareInsert_14 (by decide) ?_
    refine G.callv F (k_conclude l D K base X t ht 0 (f_giveNewBlockBack t c) (i_giveNewBlockBack t ht c hI)) ckS_209 cW_x rfl rfl ⟨rfl, rfl⟩ ⟨by decide, by decide⟩ ⟨Nat.zero_le _, Nat.zero_le _⟩ rfl rfl (Nat.le_of_ble_eq_true rfl) dS_prepareInsert_15 ?_
    exact G.st (congrArg (cW X K) (if_neg h1)) (hE _ _ dS_prepareInsert_18)
end
section
def f_readHere (t : Nat) (c : CS) : CS := (if (f_lookAtHere t c) 3 (((f_lookAtHere t c) 12 t).toNatClampNeg) = 0 then (if (f_lookAtHere t c) 1 (((f_lookAtHere t c) 12 t).toNatClampNeg) < (f_lookAtHere t c) 9 t then (f_moveHereTo t ((f_lookAtHere t c) 2 (((f_lookAtHere t c) 12 t).toNatClampNeg)) (up2 (up2 (up2 (f_lookAtHere t c) 14 t ((f_lookAtHere t c) 2 (((f_lookAtHere t c) 12 t).toNatClampNeg))) 10 t ((f_lookAtHere t c) 12 t)) 11 t ((f_lookAtHere t c) 13 t))) else (if (f_lookAtHere t c) 1 (((f_lookAtHere t c) 12 t).toNatClampNeg) = (f_lookAtHere t c) 9 t then (up2 (up2 (up2 (f_lookAtHere t c) 14 t ((f_lookAtHere t c) 2 (((f_lookAtHere t c) 12 t).toNatClampNeg))) 15 t 1) 7 t 7) else (up2 (up2 (up2 (f_lookAtHere t c) 14 t ((f_lookAtHere t c) 2 (((f_lookAtHere t c) 12 t).toNatClampNeg))) 15 t 0) 7 t 7))) else (up2 (up2 (f_lookAtHere t c) 14 t ((f_lookAtHere t c) 2 (((f_lookAtHere t c) 12 t).toNatClampNeg))) 7 t 6))
theorem i_readHere (t : Nat) (ht : t < 4) (c : CS) (hI : Inv c) : Inv (f_readHere t c) := by
  unfold f_readHere
  exact (ite_c (fun h1 => (ite_c (fun h2 => (i_moveHereTo t ht ((f_lookAtHere t c) 2 (((f_lookAtHere t c) 12 t).toNatClampNeg)) ((i_lookAtHere t ht c hI) 2 _ rfl) (up2 (up2 (up2 (f_lookAtHere t c) 14 t ((f_lookAtHere t c) 2 (((f_lookAtHere t c) 12 t).toNatClampNeg))) 10 t ((f_lookAtHere t c) 12 t)) 11 t ((f_lookAtHere t c) 13 t)) (Inv.upo (Inv.upi (Inv.upi (i_lookAtHere t ht c hI) ((i_lookAtHere t ht c hI) 2 _ rfl)) ((i_lookAtHere t ht c hI) 12 _ rfl)) rfl))) (fun h2 => (ite_c (fun h3 => (Inv.upo (Inv.upo (Inv.upi (i_lookAtHere t ht c hI) ((i_lookAtHere t ht c hI) 2 _ rfl)) rfl) rfl)) (fun h3 => (Inv.upo (Inv.upo (Inv.upi (i_lookAtHere t ht c hI) ((i_lookAtHere t ht c hI) 2 _ rfl)) rfl) rfl)))))) (fun h1 => (Inv.upo (Inv.upi (i_lookAtHere t ht c hI) ((i_lookAtHere t ht c hI) 2 _ rfl)) rfl)))
set_option maxRecDepth 100000 in
set_option maxHeartbeats 4000000 in
theorem k_readHere (l : Launch) (D : va_G) (K : Nat → ClassId) (base : Nat) (X : Nat → Nat) (t : Nat) (ht : t < 4) (c : CS) (hI : Inv c) : CtV l D K base yS_readHere cS_readHere 3 (rmD 2) [.ref (X 0), .ref (X (24 + t))] (cW X K c) (cW X K (f_readHere t c)) := by
  refine CtV.enter (by decide) (Nat.le_of_ble_eq_true rfl) ?_
  intro κ A Q F hE
  show G κ l (rmD 2) A Q D 3 0 0 (cW X K c) 0 [(0, .ref (X 0)), (1, .ref (X (24 + t)))] []
  refine G.aload_n 0 F dS_readHere_0 rfl rfl ?_
  refine G.aload_n 1 F dS_readHere_1 rfl rfl ?_
  refine G.callv F (k_lookAtHere l D K base X t ht c hI) ckS_193 cW_x rfl rfl ⟨rfl, rfl⟩ ⟨by decide, by decide⟩ ⟨Nat.zero_le _, Nat.zero_le _⟩ rfl rfl (Nat.le_of_ble_eq_true rfl) dS_readHere_2 ?_
  refine G.aload_n 0 F dS_readHere_5 rfl rfl ?_
  refine G.gX 1 F (by decide) flS_15 rfl dS_readHere_6 ?_
  refine G.aload_n 1 F dS_readHere_9 rfl rfl ?_
  refine G.gT 6 12 F rfl ht (by decide) flS_77 dS_readHere_10 ?_
  refine G.ldB F ((i_lookAtHere t ht c hI) 12 _ rfl) dS_readHere_13 ?_
  refine G.astore_nN F dS_readHere_14 rfl (by decide) rfl ?_
  refine G.aload_n 2 F dS_readHere_15 rfl rfl ?_
  refine G.aload_n 0 F dS_readHere_16 rfl rfl ?_
  refine G.gB 2 F (ix_lt ((i_lookAtHere t ht c hI) 12 _ rfl)) (by decide) flS_131 dS_readHere_17 ?_
  refine G.pT 8 14 F rfl ht (by decide) (by decide) flS_80 rfl rfl dS_readHere_20 ?_
  refine G.aload_n 0 F dS_readHere_23 rfl rfl ?_
  refine G.gB 3 F (ix_lt ((i_lookAtHere t ht c hI) 12 _ rfl)) (by decide) flS_134 dS_readHere_24 ?_
  refine G.tope (y := (f_lookAtHere t c) 3 (((f_lookAtHere t c) 12 t).toNatClampNeg)) (up2_f _ _ _ _ (by decide)) ?_
  refine G.if_eq 39 F dS_readHere_27 rfl (fun h1 => ?_) (fun h1 => ?_)
  · skip
    refine G.aload_n 0 F dS_readHere_39 rfl rfl ?_
    refine G.gB 1 F (ix_lt ((i_lookAtHere t ht c hI) 12 _ rfl)) (by decide) flS_138 dS_readHere_40 ?_
    refine G.tope (y := (f_lookAtHere t c) 1 (((f_lookAtHere t c) 12 t).toNatClampNeg)) (up2_f _ _ _ _ (by decide)) ?_
    refine G.aload_n 2 F dS_readHere_43 rfl rfl ?_
    refine G.gT 3 9 F rfl ht (by decide) flS_56 dS_readHere_44 ?_
    refine G.tope (y := (f_lookAtHere t c) 9 t) (up2_f _ _ _ _ (by decide)) ?_
    refine G.icmp_lt 79 F dS_readHere_47 rfl (fun h2 => ?_) (fun h2 => ?_)
    · skip
      refine G.aload_n 2 F dS_readHere_79 rfl rfl ?_
      refine G.aload_n 2 F dS_readHere_80 rfl rfl ?_
      refine G.gT 6 12 F rfl ht (by decide) flS_77 dS_readHere_81 ?_
      refine G.tope (y := (f_lookAtHere t c) 12 t) (up2_f _ _ _ _ (by decide)) ?_
      refine G.pT 4 10 F rfl ht (by decide) (by decide) flS_74 rfl rfl dS_readHere_84 ?_
      refine G.aload_n 2 F dS_readHere_87 rfl rfl ?_
      refine G.aload_n 2 F dS_readHere_88 rfl rfl ?_
      refine G.gT 7 13 F rfl ht (by decide) flS_196 dS_readHere_89 ?_
      refine G.tope (y := (f_lookAtHere t c) 13 t) ((up2_f _ _ _ _ (by decide)).trans (up2_f _ _ _ _ (by decide))) ?_
      refine G.pT 5 11 F rfl ht (by decide) (by decide) flS_176 rfl rfl dS_readHere_92 ?_
      refine G.aload_n 1 F dS_readHere_95 rfl rfl ?_
      refine G.aload_n 2 F dS_readHere_96 rfl rfl ?_
      refine G.aload_n 2 F dS_readHere_97 rfl rfl ?_
      refine G.gT 8 14 F rfl ht (by decide) flS_80 dS_readHere_98 ?_
      refine G.tope (y := (f_lookAtHere t c) 2 (((f_lookAtHere t c) 12 t).toNatClampNeg)) ((up2_f _ _ _ _ (by decide)).trans ((up2_f _ _ _ _ (by decide)).trans (up2_eq _ _ _ _))) ?_
      refine G.callv F (k_moveHereTo l D K base X t ht ((f_lookAtHere t c) 2 (((f_lookAtHere t c) 12 t).toNatClampNeg)) ((i_lookAtHere t ht c hI) 2 _ rfl) (up2 (up2 (up2 (f_lookAtHere t c) 14 t ((f_lookAtHere t c) 2 (((f_lookAtHere t c) 12 t).toNatClampNeg))) 10 t ((f_lookAtHere t c) 12 t)) 11 t ((f_lookAtHere t c) 13 t)) (Inv.upo (Inv.upi (Inv.upi (i_lookAtHere t ht c hI) ((i_lookAtHere t ht c hI) 2 _ rfl)) ((i_lookAtHere t ht c hI) 12 _ rfl)) rfl)) ckS_179 cW_x rfl rfl ⟨rfl, rfl⟩ ⟨by decide, by decide⟩ ⟨Nat.zero_le _, Nat.zero_le _⟩ rfl rfl (Nat.le_of_ble_eq_true rfl) dS_readHere_101 ?_
      exact G.st (congrArg (cW X K) ((if_pos h1).trans (if_pos h2))) (hE _ _ dS_readHere_104)
    · skip
      refine G.aload_n 2 F dS_readHere_50 rfl rfl ?_
      refine G.aload_n 0 F dS_readHere_51 rfl rfl ?_
      refine G.gB 1 F (ix_lt ((i_lookAtHere t ht c hI) 12 _ rfl)) (by decide) flS_138 dS_readHere_52 ?_
      refine G.tope (y := (f_lookAtHere t c) 1 (((f_lookAtHere t c) 12 t).toNatClampNeg)) (up2_f _ _ _ _ (by decide)) ?_
      refine G.aload_n 2 F dS_readHere_55 rfl rfl ?_
      refine G.gT 3 9 F rfl ht (by decide) flS_56 dS_readHere_56 ?_
      refine G.tope (y := (f_lookAtHere t c) 9 t) (up2_f _ _ _ _ (by decide)) ?_
      refine G.icmp_ne 66 F dS_readHere_59 rfl (fun h3 => ?_) (fun h3 => ?_)
      · skip
        refine G.iconst 0 F dS_readHere_66 (by decide) ?_
        refine G.pT 9 15 F rfl ht (by decide) (by decide) flS_190 rfl rfl dS_readHere_67 ?_
        refine G.aload_n 2 F dS_readHere_70 rfl rfl ?_
        refine G.bipush 7 F dS_readHere_71 (by decide) ?_
        refine G.pT 1 7 F rfl ht (by decide) (by decide) flS_42 rfl rfl dS_readHere_73 ?_
        refine G.goto 104 F dS_readHere_76 rfl ?_
        exact G.st (congrArg (cW X K) ((if_pos h1).trans ((if_neg h2).trans (if_neg h3)))) (hE _ _ dS_readHere_104)
      · skip
        refine G.iconst 1 F dS_readHere_62 (by decide) ?_
        refine G.goto 67 F dS_readHere_63 rfl ?_
        refine G.pT 9 15 F rfl ht (by decide) (by decide) flS_190 rfl rfl dS_readHere_67 ?_
        refine G.aload_n 2 F dS_readHere_70 rfl rfl ?_
        refine G.bipush 7 F dS_readHere_71 (by decide) ?_
        refine G.pT 1 7 F rfl ht (by decide) (by decide) flS_42 rfl rfl dS_readHere_73 ?_
        refine G.goto 104 F dS_readHere_76 rfl ?_
        exact G.st (congrArg (cW X K) ((if_pos h1).trans ((if_neg h2).trans (if_pos h3)))) (hE _ _ dS_readHere_104)
  · skip
    refine G.aload_n 2 F dS_readHere_30 rfl rfl ?_
    refine G.bipush 6 F dS_readHere_31 (by decide) ?_
    refine G.pT 1 7 F rfl ht (by decide) (by decide) flS_42 rfl rfl dS_readHere_33 ?_
    refine G.goto 104 F dS_readHere_36 rfl ?_
    exact G.st (congrArg (cW X K) (if_neg h1)) (hE _ _ dS_readHere_104)

def f_checkBack (t : Nat) (c : CS) : CS := (if f_leadsTo (((f_lookAtBack t c) 10 t).toNatClampNeg) ((f_lookAtBack t c) 12 t) (f_lookAtBack t c) = 0 then (up2 (f_lookAtBack t c) 7 t 2) else (if (f_lookAtBack t c) 12 t = 0 then (up2 (up2 (f_lookAtBack t c) 15 t 0) 7 t 7) else (up2 (f_lookAtBack t c) 7 t 5)))
theorem i_checkBack (t : Nat) (ht : t < 4) (c : CS) (hI : Inv c) : Inv (f_checkBack t c) := by
  unfold f_checkBack
  exact (ite_c (fun h1 => (Inv.upo (i_lookAtBack t ht c hI) rfl)) (fun h1 => (ite_c (fun h2 => (Inv.upo (Inv.upo (i_lookAtBack t ht c hI) rfl) rfl)) (fun h2 => (Inv.upo (i_lookAtBack t ht c hI) rfl)))))
set_option maxRecDepth 100000 in
set_option maxHeartbeats 4000000 in
theorem k_checkBack (l : Launch) (D : va_G) (K : Nat → ClassId) (base : Nat) (X : Nat → Nat) (t : Nat) (ht : t < 4) (c : CS) (hI : Inv c) : CtV l D K base yS_checkBack cS_checkBack 2 (rmD 2) [.ref (X 0), .ref (X (24 + t))] (cW X K c) (cW X K (f_checkBack t c)) := by
  refine CtV.enter (by decide) (Nat.le_of_ble_eq_true rfl) ?_
  intro κ A Q F hE
  show G κ l (rmD 2) A Q D 2 0 0 (cW X K c) 0 [(0, .ref (X 0)), (1, .ref (X (24 + t)))] []
  refine G.aload_n 0 F dS_checkBack_0 rfl rfl ?_
  refine G.aload_n 1 F dS_checkBack_1 rfl rfl ?_
  refine G.callv F (k_lookAtBack l D K base X t ht c hI) ckS_183 cW_x rfl rfl ⟨rfl, rfl⟩ ⟨by decide, by decide⟩ ⟨Nat.zero_le _, Nat.zero_le _⟩ rfl rfl (Nat.le_of_ble_eq_true rfl) dS_checkBack_2 ?_
  refine G.aload_n 0 F dS_checkBack_5 rfl rfl ?_
  refine G.gX 1 F (by decide) flS_15 rfl dS_checkBack_6 ?_
  refine G.aload_n 1 F dS_checkBack_9 rfl rfl ?_
  refine G.gT 4 10 F rfl ht (by decide) flS_74 dS_checkBack_10 ?_
  refine G.ldB F ((i_lookAtBack t ht c hI) 10 _ rfl) dS_checkBack_13 ?_
  refine G.aload_n 1 F dS_checkBack_14 rfl rfl ?_
  refine G.gT 6 12 F rfl ht (by decide) flS_77 dS_checkBack_15 ?_
  refine G.calli F (k_leadsTo l D K base X (((f_lookAtBack t c) 10 t).toNatClampNeg) (ix_lt ((i_lookAtBack t ht c hI) 10 _ rfl)) ((f_lookAtBack t c) 12 t) (f_lookAtBack t c) (i_lookAtBack t ht c hI)) ckS_186 (cW_b (ix_lt ((i_lookAtBack t ht c hI) 10 _ rfl))) rfl rfl ⟨rfl, rfl⟩ ⟨by decide, by decide⟩ ⟨Nat.zero_le _, Nat.zero_le _⟩ rfl rfl (Nat.le_of_ble_eq_true rfl) dS_checkBack_18 ?_
  refine G.if_ne 32 F dS_checkBack_21 rfl (fun h1 => ?_) (fun h1 => ?_)
  · skip
    refine G.aload_n 1 F dS_checkBack_32 rfl rfl ?_
    refine G.gT 6 12 F rfl ht (by decide) flS_77 dS_checkBack_33 ?_
    refine G.if_ne 53 F dS_checkBack_36 rfl (fun h2 => ?_) (fun h2 => ?_)
    · skip
      refine G.aload_n 1 F dS_checkBack_53 rfl rfl ?_
      refine G.iconst 5 F dS_checkBack_54 (by decide) ?_
      refine G.pT 1 7 F rfl ht (by decide) (by decide) flS_42 rfl rfl dS_checkBack_55 ?_
      exact G.st (congrArg (cW X K) ((if_neg h1).trans (if_neg h2))) (hE _ _ dS_checkBack_58)
    · skip
      refine G.aload_n 1 F dS_checkBack_39 rfl rfl ?_
      refine G.iconst 0 F dS_checkBack_40 (by decide) ?_
      refine G.pT 9 15 F rfl ht (by decide) (by decide) flS_190 rfl rfl dS_checkBack_41 ?_
      refine G.aload_n 1 F dS_checkBack_44 rfl rfl ?_
      refine G.bipush 7 F dS_checkBack_45 (by decide) ?_
      refine G.pT 1 7 F rfl ht (by decide) (by decide) flS_42 rfl rfl dS_checkBack_47 ?_
      refine G.goto 58 F dS_checkBack_50 rfl ?_
      exact G.st (congrArg (cW X K) ((if_neg h1).trans (if_pos h2))) (hE _ _ dS_checkBack_58)
  · skip
    refine G.aload_n 1 F dS_checkBack_24 rfl rfl ?_
    refine G.iconst 2 F dS_checkBack_25 (by decide) ?_
    refine G.pT 1 7 F rfl ht (by decide) (by decide) flS_42 rfl rfl dS_checkBack_26 ?_
    refine G.goto 58 F dS_checkBack_29 rfl ?_
    exact G.st (congrArg (cW X K) (if_pos h1)) (hE _ _ dS_checkBack_58)

def f_advance (c : CS) : Int32 × CS := (if f_allAnnounceCurrentEpoch c = 0 then (0, c) else (1, (f_freeOldEpochs (up2 c 22 1 ((c 22 1) + 1)))))
theorem i_advance  (c : CS) (hI : Inv c) (hb : c 22 0 = 0) : Inv (f_advance  c).2 := by
  unfold f_advance
  exact (ite_c2 (fun h1 => hI) (fun h1 => (i_freeOldEpochs  (up2 c 22 1 ((c 22 1) + 1)) (Inv.upo hI rfl))))
set_option maxRecDepth 100000 in
set_option maxHeartbeats 4000000 in
theorem k_advance (l : Launch) (D : va_G) (K : Nat → ClassId) (base : Nat) (X : Nat → Nat)  (c : CS) (hI : Inv c) (hb : c 22 0 = 0) : CtI l D K base yS_advance cS_advance 1 .boolean (rmD 2) [.ref (X 0)] (cW X K c) (f_advance c).1 (cW X K (f_advance c).2) := by
  refine CtI.enter (by decide) (Nat.le_of_ble_eq_true rfl) ?_
  intro κ A Q F hE
  show G κ l (rmD 2) A Q D 1 0 0 (cW X K c) 0 [(0, .ref (X 0))] []
  refine G.aload_n 0 F dS_advance_0 rfl rfl ?_
  refine G.gX 0 F (by decide) flS_9 rfl dS_advance_1 ?_
  refine G.if_eq 17 F dS_advance_4 rfl (fun _ => ?_) (fun h9 => absurd hb h9)
  refine G.aload_n 0 F dS_advance_17 rfl rfl ?_
  refine G.calli F (k_allAnnounceCurrentEpoch l D K base X  c hI) ckS_107 cW_x rfl rfl ⟨rfl, rfl⟩ ⟨by decide, by decide⟩ ⟨Nat.zero_le _, Nat.zero_le _⟩ rfl rfl (Nat.le_of_ble_eq_true rfl) dS_advance_18 ?_
  refine G.if_ne 26 F dS_advance_21 rfl (fun h1 => ?_) (fun h1 => ?_)
  · skip
    refine G.aload_n 0 F dS_advance_26 rfl rfl ?_
    refine G.dup F dS_advance_27 rfl ?_
    refine G.gX 3 F (by decide) flS_111 rfl dS_advance_28 ?_
    refine G.iconst 1 F dS_advance_31 (by decide) ?_
    refine G.iadd F dS_advance_32 ?_
    refine G.pX3 F flS_111 dS_advance_33 ?_
    refine G.aload_n 0 F dS_advance_36 rfl rfl ?_
    refine G.callv F (k_freeOldEpochs l D K base X  (up2 c 22 1 ((c 22 1) + 1)) (Inv.upo hI rfl)) ckS_114 cW_x rfl rfl ⟨rfl, rfl⟩ ⟨by decide, by decide⟩ ⟨Nat.zero_le _, Nat.zero_le _⟩ rfl rfl (Nat.le_of_ble_eq_true rfl) dS_advance_37 ?_
    refine G.iconst 1 F dS_advance_40 (by decide) ?_
    have hr9 : f_advance c = (1, (f_freeOldEpochs (up2 c 22 1 ((c 22 1) + 1)))) := (if_neg h1)
    exact G.st (congrArg (fun z : Int32 × CS => cW X K z.2) hr9) (hE _ _ 1 dS_advance_41 rfl (congrArg Prod.fst hr9).symm)
  · skip
    refine G.iconst 0 F dS_advance_24 (by decide) ?_
    have hr9 : f_advance c = (0, c) := (if_pos h1)
    exact G.st (congrArg (fun z : Int32 × CS => cW X K z.2) hr9) (hE _ _ 0 dS_advance_25 rfl (congrArg Prod.fst hr9).symm)

def f_scan (t : Nat) (c : CS) : Int32 × CS := ((f_freeUnnamed t c).1, (f_freeUnnamed t c).2)
theorem i_scan (t : Nat) (ht : t < 4) (c : CS) (hI : Inv c) (hb : c 22 0 = 1) : Inv (f_scan t c).2 := by
  unfold f_scan
  exact (i_freeUnnamed t ht c hI)
set_option maxRecDepth 100000 in
set_option maxHeartbeats 4000000 in
theorem k_scan (l : Launch) (D : va_G) (K : Nat → ClassId) (base : Nat) (X : Nat → Nat) (t : Nat) (ht : t < 4) (c : CS) (hI : Inv c) (hb : c 22 0 = 1) : CtI l D K base yS_scan cS_scan 3 .int (rmD 2) [.ref (X 0), .int (nI t)] (cW X K c) (f_scan t c).1 (cW X K (f_scan t c).2) := by
  refine CtI.enter (by decide) (Nat.le_of_ble_eq_true rfl) ?_
  intro κ A Q F hE
  show G κ l (rmD 2) A Q D 3 0 0 (cW X K c) 0 [(0, .ref (X 0)), (1, .int (nI t))] []
  refine G.aload_n 0 F dS_scan_0 rfl rfl ?_
  refine G.iload_n 1 F dS_scan_1 rfl rfl ?_
  refine G.callr F (k_workerOf l D K base X t ht c hI) ckS_29 cW_x rfl rfl ⟨rfl, rfl⟩ ⟨by decide, by decide⟩ ⟨Nat.zero_le _, Nat.zero_le _⟩ rfl rfl (Nat.le_of_ble_eq_true rfl) dS_scan_2 ?_
  refine G.astore_nN F dS_scan_5 rfl (by decide) rfl ?_
  refine G.aload_n 1 F dS_scan_6 rfl rfl ?_
  refine G.gX 0 F (by decide) flS_9 rfl dS_scan_7 ?_
  refine G.iconst 1 F dS_scan_10 (by decide) ?_
  refine G.icmp_eq 24 F dS_scan_11 rfl (fun _ => ?_) (fun h9 => absurd hb h9)
  refine G.aload_n 1 F dS_scan_24 rfl rfl ?_
  refine G.aload_n 0 F dS_scan_25 rfl rfl ?_
  refine G.calli F (k_freeUnnamed l D K base X t ht c hI) ckS_119 cW_x rfl rfl ⟨rfl, rfl⟩ ⟨by decide, by decide⟩ ⟨Nat.zero_le _, Nat.zero_le _⟩ rfl rfl (Nat.le_of_ble_eq_true rfl) dS_scan_26 ?_
  have hr9 : f_scan t c = ((f_freeUnnamed t c).1, (f_freeUnnamed t c).2) := rfl
  exact G.st (congrArg (fun z : Int32 × CS => cW X K z.2) hr9) (hE _ _ ((f_freeUnnamed t c).1) dS_scan_29 rfl (congrArg Prod.fst hr9).symm)

def f_takeOutHere (t : Nat) (c : CS) : Int32 × CS := (if f_leadsTo (((f_lookAtBack t c) 10 t).toNatClampNeg) ((f_lookAtBack t c) 12 t) (f_lookAtBack t c) = 0 then (0, (f_lookAtBack t c)) else (1, (f_retireHere t (f_lead (((f_lookAtBack t c) 10 t).toNatClampNeg) ((f_lookAtBack t c) 14 t) (f_lookAtBack t c)))))
theorem i_takeOutHere (t : Nat) (ht : t < 4) (c : CS) (hI : Inv c) : Inv (f_takeOutHere t c).2 := by
  unfold f_takeOutHere
  exact (ite_c2 (fun h1 => (i_lookAtBack t ht c hI)) (fun h1 => (i_retireHere t ht (f_lead (((f_lookAtBack t c) 10 t).toNatClampNeg) ((f_lookAtBack t c) 14 t) (f_lookAtBack t c)) (i_lead (((f_lookAtBack t c) 10 t).toNatClampNeg) (ix_lt ((i_lookAtBack t ht c hI) 10 _ rfl)) ((f_lookAtBack t c) 14 t) ((i_lookAtBack t ht c hI) 14 _ rfl) (f_lookAtBack t c) (i_lookAtBack t ht c hI)))))
set_option maxRecDepth 100000 in
set_option maxHeartbeats 4000000 in
theorem k_takeOutHere (l : Launch) (D : va_G) (K : Nat → ClassId) (base : Nat) (X : Nat → Nat) (t : Nat) (ht : t < 4) (c : CS) (hI : Inv c) : CtI l D K base yS_takeOutHere cS_takeOutHere 3 .boolean (rmD 3) [.ref (X 0), .ref (X (24 + t))] (cW X K c) (f_takeOutHere t c).1 (cW X K (f_takeOutHere t c).2) := by
  refine CtI.enter (by decide) (Nat.le_of_ble_eq_true rfl) ?_
  intro κ A Q F hE
  show G κ l (rmD 3) A Q D 3 0 0 (cW X K c) 0 [(0, .ref (X 0)), (1, .ref (X (24 + t)))] []
  refine G.aload_n 0 F dS_takeOutHere_0 rfl rfl ?_
  refine G.aload_n 1 F dS_takeOutHere_1 rfl rfl ?_
  refine G.callv F (k_lookAtBack l D K base X t ht c hI) ckS_183 cW_x rfl rfl ⟨rfl, rfl⟩ ⟨by decide, by decide⟩ ⟨Nat.zero_le _, Nat.zero_le _⟩ rfl rfl (Nat.le_of_ble_eq_true rfl) dS_takeOutHere_2 ?_
  refine G.aload_n 0 F dS_takeOutHere_5 rfl rfl ?_
  refine G.gX 1 F (by decide) flS_15 rfl dS_takeOutHere_6 ?_
  refine G.aload_n 1 F dS_takeOutHere_9 rfl rfl ?_
  refine G.gT 4 10 F rfl ht (by decide) flS_74 dS_takeOutHere_10 ?_
  refine G.ldB F ((i_lookAtBack t ht c hI) 10 _ rfl) dS_takeOutHere_13 ?_
  refine G.astore_nN F dS_takeOutHere_14 rfl (by decide) rfl ?_
  refine G.aload_n 0 F dS_takeOutHere_15 rfl rfl ?_
  refine G.aload_n 2 F dS_takeOutHere_16 rfl rfl ?_
  refine G.gT 6 12 F rfl ht (by decide) flS_77 dS_takeOutHere_17 ?_
  refine G.calli F (k_leadsTo l D K base X (((f_lookAtBack t c) 10 t).toNatClampNeg) (ix_lt ((i_lookAtBack t ht c hI) 10 _ rfl)) ((f_lookAtBack t c) 12 t) (f_lookAtBack t c) (i_lookAtBack t ht c hI)) ckS_186 (cW_b (ix_lt ((i_lookAtBack t ht c hI) 10 _ rfl))) rfl rfl ⟨rfl, rfl⟩ ⟨by decide, by decide⟩ ⟨Nat.zero_le _, Nat.zero_le _⟩ rfl rfl (Nat.le_of_ble_eq_true rfl) dS_takeOutHere_20 ?_
  refine G.if_ne 28 F dS_takeOutHere_23 rfl (fun h1 => ?_) (fun h1 => ?_)
  · skip
    refine G.aload_n 0 F dS_takeOutHere_28 rfl rfl ?_
    refine G.aload_n 2 F dS_takeOutHere_29 rfl rfl ?_
    refine G.gT 8 14 F rfl ht (by decide) flS_80 dS_takeOutHere_30 ?_
    refine G.callv F (k_lead l D K base X (((f_lookAtBack t c) 10 t).toNatClampNeg) (ix_lt ((i_lookAtBack t ht c hI) 10 _ rfl)) ((f_lookAtBack t c) 14 t) ((i_lookAtBack t ht c hI) 14 _ rfl) (f_lookAtBack t c) (i_lookAtBack t ht c hI)) ckS_219 (cW_b (ix_lt ((i_lookAtBack t ht c hI) 10 _ rfl))) rfl rfl ⟨rfl, rfl⟩ ⟨by decide, by decide⟩ ⟨Nat.zero_le _, Nat.zero_le _⟩ rfl rfl (Nat.le_of_ble_eq_true rfl) dS_takeOutHere_33 ?_
    refine G.aload_n 1 F dS_takeOutHere_36 rfl rfl ?_
    refine G.aload_n 2 F dS_takeOutHere_37 rfl rfl ?_
    refine G.callv F (k_retireHere l D K base X t ht (f_lead (((f_lookAtBack t c) 10 t).toNatClampNeg) ((f_lookAtBack t c) 14 t) (f_lookAtBack t c)) (i_lead (((f_lookAtBack t c) 10 t).toNatClampNeg) (ix_lt ((i_lookAtBack t ht c hI) 10 _ rfl)) ((f_lookAtBack t c) 14 t) ((i_lookAtBack t ht c hI) 14 _ rfl) (f_lookAtBack t c) (i_lookAtBack t ht c hI))) ckS_228 cW_x rfl rfl ⟨rfl, rfl⟩ ⟨by decide, by decide⟩ ⟨Nat.zero_le _, Nat.zero_le _⟩ rfl rfl (Nat.le_of_ble_eq_true rfl) dS_takeOutHere_38 ?_
    refine G.iconst 1 F dS_takeOutHere_41 (by decide) ?_
    have hr9 : f_takeOutHere t c = (1, (f_retireHere t (f_lead (((f_lookAtBack t c) 10 t).toNatClampNeg) ((f_lookAtBack t c) 14 t) (f_lookAtBack t c)))) := (if_neg h1)
    exact G.st (congrArg (fun z : Int32 × CS => cW X K z.2) hr9) (hE _ _ 1 dS_takeOutHere_42 rfl (congrArg Prod.fst hr9).symm)
  · skip
    refine G.iconst 0 F dS_takeOutHere_26 (by decide) ?_
    have hr9 : f_takeOutHere t c = (0, (f_lookAtBack t c)) := (if_pos h1)
    exact G.st (congrArg (fun z : Int32 × CS => cW X K z.2) hr9) (hE _ _ 0 dS_takeOutHere_27 rfl (congrArg Prod.fst hr9).symm)

def f_doOperation (t : Nat) (c : CS) : CS := (if c 8 t = 1 then (f_prepareInsert t c) else (if c 8 t = 2 then (f_markForRemoval t c) else (if c 15 t = 0 then (f_conclude t 0 c) else (f_conclude t 1 c))))
theorem i_doOperation (t : Nat) (ht : t < 4) (c : CS) (hI : Inv c) : Inv (f_doOperation t c) := by
  unfold f_doOperation
  exact (ite_c (fun h1 => (i_prepareInsert t ht c hI)) (fun h1 => (ite_c (fun h2 => (i_markForRemoval t ht c hI)) (fun h2 => (ite_c (fun h3 => (i_conclude t ht 0 c hI)) (fun h3 => (i_conclude t ht 1 c hI)))))))
set_option maxRecDepth 100000 in
set_option maxHeartbeats 4000000 in
theorem k_doOperation (l : Launch) (D : va_G) (K : Nat → ClassId) (base : Nat) (X : Nat → Nat) (t : Nat) (ht : t < 4) (c : CS) (hI : Inv c) : CtV l D K base yS_doOperation cS_doOperation 2 (rmD 3) [.ref (X 0), .ref (X (24 + t))] (cW X K c) (cW X K (f_doOperation t c)) := by
  refine CtV.enter (by decide) (Nat.le_of_ble_eq_true rfl) ?_
  intro κ A Q F hE
  show G κ l (rmD 3) A Q D 2 0 0 (cW X K c) 0 [(0, .ref (X 0)), (1, .ref (X (24 + t)))] []
  refine G.aload_n 1 F dS_doOperation_0 rfl rfl ?_
  refine G.gT 2 8 F rfl ht (by decide) flS_53 dS_doOperation_1 ?_
  by_cases h1 : c 8 t = 1
  · skip
    refine G.look 32 (off := 28) F dS_doOperation_4 rfl (by rw [h1]; rfl) rfl ?_
    refine G.aload_n 0 F dS_doOperation_32 rfl rfl ?_
    refine G.aload_n 1 F dS_doOperation_33 rfl rfl ?_
    refine G.callv F (k_prepareInsert l D K base X t ht c hI) ckS_203 cW_x rfl rfl ⟨rfl, rfl⟩ ⟨by decide, by decide⟩ ⟨Nat.zero_le _, Nat.zero_le _⟩ rfl rfl (Nat.le_of_ble_eq_true rfl) dS_doOperation_34 ?_
    refine G.goto 65 F dS_doOperation_37 rfl ?_
    exact G.st (congrArg (cW X K) (if_pos h1)) (hE _ _ dS_doOperation_65)
  by_cases h2 : c 8 t = 2
  · skip
    refine G.look 40 (off := 36) F dS_doOperation_4 rfl (by rw [h2]; rfl) rfl ?_
    refine G.aload_n 0 F dS_doOperation_40 rfl rfl ?_
    refine G.aload_n 1 F dS_doOperation_41 rfl rfl ?_
    refine G.callv F (k_markForRemoval l D K base X t ht c hI) ckS_206 cW_x rfl rfl ⟨rfl, rfl⟩ ⟨by decide, by decide⟩ ⟨Nat.zero_le _, Nat.zero_le _⟩ rfl rfl (Nat.le_of_ble_eq_true rfl) dS_doOperation_42 ?_
    refine G.goto 65 F dS_doOperation_45 rfl ?_
    exact G.st (congrArg (cW X K) ((if_neg h1).trans (if_pos h2))) (hE _ _ dS_doOperation_65)
  refine G.look 48 (off := 44) F dS_doOperation_4 rfl (by show Op.lookupswitch.offset [(1, 28), (2, 36)] 44 _ = _; rw [lv_osw h1 (show (1 : Int32).toInt = 1 from rfl), lv_osw h2 (show (2 : Int32).toInt = 2 from rfl)]; rfl) rfl ?_
  refine G.aload_n 0 F dS_doOperation_48 rfl rfl ?_
  refine G.aload_n 1 F dS_doOperation_49 rfl rfl ?_
  refine G.aload_n 1 F dS_doOperation_50 rfl rfl ?_
  refine G.gT 9 15 F rfl ht (by decide) flS_190 dS_doOperation_51 ?_
  refine G.if_eq 61 F dS_doOperation_54 rfl (fun h3 => ?_) (fun h3 => ?_)
  · skip
    refine G.iconst 0 F dS_doOperation_61 (by decide) ?_
    refine G.callv F (k_conclude l D K base X t ht 0 c hI) ckS_209 cW_x rfl rfl ⟨rfl, rfl⟩ ⟨by decide, by decide⟩ ⟨Nat.zero_le _, Nat.zero_le _⟩ rfl rfl (Nat.le_of_ble_eq_true rfl) dS_doOperation_62 ?_
    exact G.st (congrArg (cW X K) ((if_neg h1).trans ((if_neg h2).trans (if_pos h3)))) (hE _ _ dS_doOperation_65)
  · skip
    refine G.iconst 1 F dS_doOperation_57 (by decide) ?_
    refine G.goto 62 F dS_doOperation_58 rfl ?_
    refine G.callv F (k_conclude l D K base X t ht 1 c hI) ckS_209 cW_x rfl rfl ⟨rfl, rfl⟩ ⟨by decide, by decide⟩ ⟨Nat.zero_le _, Nat.zero_le _⟩ rfl rfl (Nat.le_of_ble_eq_true rfl) dS_doOperation_62 ?_
    exact G.st (congrArg (cW X K) ((if_neg h1).trans ((if_neg h2).trans (if_neg h3)))) (hE _ _ dS_doOperation_65)

def f_unhangHere (t : Nat) (c : CS) : CS := (f_conclude t 1 ((f_takeOutHere t c).2))
theorem i_unhangHere (t : Nat) (ht : t < 4) (c : CS) (hI : Inv c) : Inv (f_unhangHere t c) := by
  unfold f_unhangHere
  exact (i_conclude t ht 1 ((f_takeOutHere t c).2) (i_takeOutHere t ht c hI))
set_option maxRecDepth 100000 in
set_option maxHeartbeats 4000000 in
theorem k_unhangHere (l : Launch) (D : va_G) (K : Nat → ClassId) (base : Nat) (X : Nat → Nat) (t : Nat) (ht : t < 4) (c : CS) (hI : Inv c) : CtV l D K base yS_unhangHere cS_unhangHere 2 (rmD 4) [.ref (X 0), .ref (X (24 + t))] (cW X K c) (cW X K (f_unhangHere t c)) := by
  refine CtV.enter (by decide) (Nat.le_of_ble_eq_true rfl) ?_
  intro κ A Q F hE
  show G κ l (rmD 4) A Q D 2 0 0 (cW X K c) 0 [(0, .ref (X 0)), (1, .ref (X (24 + t)))] []
  refine G.aload_n 0 F dS_unhangHere_0 rfl rfl ?_
  refine G.aload_n 1 F dS_unhangHere_1 rfl rfl ?_
  refine G.calli F (k_takeOutHere l D K base X t ht c hI) ckS_199 cW_x rfl rfl ⟨rfl, rfl⟩ ⟨by decide, by decide⟩ ⟨Nat.zero_le _, Nat.zero_le _⟩ rfl rfl (Nat.le_of_ble_eq_true rfl) dS_unhangHere_2 ?_
  refine G.pop F dS_unhangHere_5 rfl ?_
  refine G.aload_n 0 F dS_unhangHere_6 rfl rfl ?_
  refine G.aload_n 1 F dS_unhangHere_7 rfl rfl ?_
  refine G.iconst 1 F dS_unhangHere_8 (by decide) ?_
  refine G.callv F (k_conclude l D K base X t ht 1 ((f_takeOutHere t c).2) (i_takeOutHere t ht c hI)) ckS_209 cW_x rfl rfl ⟨rfl, rfl⟩ ⟨by decide, by decide⟩ ⟨Nat.zero_le _, Nat.zero_le _⟩ rfl rfl (Nat.le_of_ble_eq_true rfl) dS_unhangHere_9 ?_
  exact G.st (congrArg (cW X K) rfl) (hE _ _ dS_unhangHere_12)

def f_cutHere (t : Nat) (c : CS) : CS := (if (f_takeOutHere t c).1 = 0 then (up2 (f_takeOutHere t c).2 7 t 2) else (f_moveHereTo t ((f_takeOutHere t c).2 14 t) ((f_takeOutHere t c).2)))
theorem i_cutHere (t : Nat) (ht : t < 4) (c : CS) (hI : Inv c) : Inv (f_cutHere t c) := by
  unfold f_cutHere
  exact (ite_c (fun h1 => (Inv.upo (i_takeOutHere t ht c hI) rfl)) (fun h1 => (i_moveHereTo t ht ((f_takeOutHere t c).2 14 t) ((i_takeOutHere t ht c hI) 14 _ rfl) ((f_takeOutHere t c).2) (i_takeOutHere t ht c hI))))
set_option maxRecDepth 100000 in
set_option maxHeartbeats 4000000 in
theorem k_cutHere (l : Launch) (D : va_G) (K : Nat → ClassId) (base : Nat) (X : Nat → Nat) (t : Nat) (ht : t < 4) (c : CS) (hI : Inv c) : CtV l D K base yS_cutHere cS_cutHere 2 (rmD 4) [.ref (X 0), .ref (X (24 + t))] (cW X K c) (cW X K (f_cutHere t c)) := by
  refine CtV.enter (by decide) (Nat.le_of_ble_eq_true rfl) ?_
  intro κ A Q F hE
  show G κ l (rmD 4) A Q D 2 0 0 (cW X K c) 0 [(0, .ref (X 0)), (1, .ref (X (24 + t)))] []
  refine G.aload_n 0 F dS_cutHere_0 rfl rfl ?_
  refine G.aload_n 1 F dS_cutHere_1 rfl rfl ?_
  refine G.calli F (k_takeOutHere l D K base X t ht c hI) ckS_199 cW_x rfl rfl ⟨rfl, rfl⟩ ⟨by decide, by decide⟩ ⟨Nat.zero_le _, Nat.zero_le _⟩ rfl rfl (Nat.le_of_ble_eq_true rfl) dS_cutHere_2 ?_
  refine G.if_eq 20 F dS_cutHere_5 rfl (fun h1 => ?_) (fun h1 => ?_)
  · skip
    refine G.aload_n 1 F dS_cutHere_20 rfl rfl ?_
    refine G.iconst 2 F dS_cutHere_21 (by decide) ?_
    refine G.pT 1 7 F rfl ht (by decide) (by decide) flS_42 rfl rfl dS_cutHere_22 ?_
    exact G.st (congrArg (cW X K) (if_pos h1)) (hE _ _ dS_cutHere_25)
  · skip
    refine G.aload_n 0 F dS_cutHere_8 rfl rfl ?_
    refine G.aload_n 1 F dS_cutHere_9 rfl rfl ?_
    refine G.aload_n 1 F dS_cutHere_10 rfl rfl ?_
    refine G.gT 8 14 F rfl ht (by decide) flS_80 dS_cutHere_11 ?_
    refine G.callv F (k_moveHereTo l D K base X t ht ((f_takeOutHere t c).2 14 t) ((i_takeOutHere t ht c hI) 14 _ rfl) ((f_takeOutHere t c).2) (i_takeOutHere t ht c hI)) ckS_179 cW_x rfl rfl ⟨rfl, rfl⟩ ⟨by decide, by decide⟩ ⟨Nat.zero_le _, Nat.zero_le _⟩ rfl rfl (Nat.le_of_ble_eq_true rfl) dS_cutHere_14 ?_
    refine G.goto 25 F dS_cutHere_17 rfl ?_
    exact G.st (congrArg (cW X K) (if_neg h1)) (hE _ _ dS_cutHere_25)

def f_perform (t : Nat) (c : CS) : CS := (if c 7 t = 1 then (f_startWork t c) else (if c 7 t = 2 then (f_goToHead t c) else (if c 7 t = 3 then (f_nameHere t c) else (if c 7 t = 4 then (f_checkBack t c) else (if c 7 t = 5 then (f_readHere t c) else (if c 7 t = 6 then (f_cutHere t c) else (if c 7 t = 7 then (f_doOperation t c) else (if c 7 t = 8 then (f_hangNewBlock t c) else (if c 7 t = 9 then (f_endWork t c) else (if c 7 t = 10 then (f_unhangHere t c) else c))))))))))
theorem i_perform (t : Nat) (ht : t < 4) (c : CS) (hI : Inv c) : Inv (f_perform t c) := by
  unfold f_perform
  exact (ite_c (fun h1 => (i_startWork t ht c hI)) (fun h1 => (ite_c (fun h2 => (i_goToHead t ht c hI)) (fun h2 => (ite_c (fun h3 => (i_nameHere t ht c hI)) (fun h3 => (ite_c (fun h4 => (i_checkBack t ht c hI)) (fun h4 => (ite_c (fun h5 => (i_readHere t ht c hI)) (fun h5 => (ite_c (fun h6 => (i_cutHere t ht c hI)) (fun h6 => (ite_c (fun h7 => (i_doOperation t ht c hI)) (fun h7 => (ite_c (fun h8 => (i_hangNewBlock t ht c hI)) (fun h8 => (ite_c (fun h9 => (i_endWork t ht c hI)) (fun h9 => (ite_c (fun h10 => (i_unhangHere t ht c hI)) (fun h10 => hI))))))))))))))))))))
set_option maxRecDepth 100000 in
set_option maxHeartbeats 4000000 in
theorem k_perform (l : Launch) (D : va_G) (K : Nat → ClassId) (base : Nat) (X : Nat → Nat) (t : Nat) (ht : t < 4) (c : CS) (hI : Inv c) : CtV l D K base yS_perform cS_perform 2 (rmD 5) [.ref (X 0), .ref (X (24 + t))] (cW X K c) (cW X K (f_perform t c)) := by
  refine CtV.enter (by decide) (Nat.le_of_ble_eq_true rfl) ?_
  intro κ A Q F hE
  show G κ l (rmD 5) A Q D 2 0 0 (cW X K c) 0 [(0, .ref (X 0)), (1, .ref (X (24 + t)))] []
  refine G.aload_n 1 F dS_perform_0 rfl rfl ?_
  refine G.gT 1 7 F rfl ht (by decide) flS_42 dS_perform_1 ?_
  by_cases h1 : c 7 t = 1
  · skip
    refine G.tabIn 60 (off := 56) F dS_perform_4 (sw_lo h1 (by decide)) (sw_hi h1 (by decide)) (sw_at h1 rfl) rfl ?_
    refine G.aload_n 0 F dS_perform_60 rfl rfl ?_
    refine G.aload_n 1 F dS_perform_61 rfl rfl ?_
    refine G.callv F (k_startWork l D K base X t ht c hI) ckS_146 cW_x rfl rfl ⟨rfl, rfl⟩ ⟨by decide, by decide⟩ ⟨Nat.zero_le _, Nat.zero_le _⟩ rfl rfl (Nat.le_of_ble_eq_true rfl) dS_perform_62 ?_
    refine G.goto 140 F dS_perform_65 rfl ?_
    exact G.st (congrArg (cW X K) (if_pos h1)) (hE _ _ dS_perform_140)
  by_cases h2 : c 7 t = 2
  · skip
    refine G.tabIn 68 (off := 64) F dS_perform_4 (sw_lo h2 (by decide)) (sw_hi h2 (by decide)) (sw_at h2 rfl) rfl ?_
    refine G.aload_n 0 F dS_perform_68 rfl rfl ?_
    refine G.aload_n 1 F dS_perform_69 rfl rfl ?_
    refine G.callv F (k_goToHead l D K base X t ht c hI) ckS_149 cW_x rfl rfl ⟨rfl, rfl⟩ ⟨by decide, by decide⟩ ⟨Nat.zero_le _, Nat.zero_le _⟩ rfl rfl (Nat.le_of_ble_eq_true rfl) dS_perform_70 ?_
    refine G.goto 140 F dS_perform_73 rfl ?_
    exact G.st (congrArg (cW X K) ((if_neg h1).trans (if_pos h2))) (hE _ _ dS_perform_140)
  by_cases h3 : c 7 t = 3
  · skip
    refine G.tabIn 76 (off := 72) F dS_perform_4 (sw_lo h3 (by decide)) (sw_hi h3 (by decide)) (sw_at h3 rfl) rfl ?_
    refine G.aload_n 0 F dS_perform_76 rfl rfl ?_
    refine G.aload_n 1 F dS_perform_77 rfl rfl ?_
    refine G.callv F (k_nameHere l D K base X t ht c hI) ckS_152 cW_x rfl rfl ⟨rfl, rfl⟩ ⟨by decide, by decide⟩ ⟨Nat.zero_le _, Nat.zero_le _⟩ rfl rfl (Nat.le_of_ble_eq_true rfl) dS_perform_78 ?_
    refine G.goto 140 F dS_perform_81 rfl ?_
    exact G.st (congrArg (cW X K) ((if_neg h1).trans ((if_neg h2).trans (if_pos h3)))) (hE _ _ dS_perform_140)
  by_cases h4 : c 7 t = 4
  · skip
    refine G.tabIn 84 (off := 80) F dS_perform_4 (sw_lo h4 (by decide)) (sw_hi h4 (by decide)) (sw_at h4 rfl) rfl ?_
    refine G.aload_n 0 F dS_perform_84 rfl rfl ?_
    refine G.aload_n 1 F dS_perform_85 rfl rfl ?_
    refine G.callv F (k_checkBack l D K base X t ht c hI) ckS_155 cW_x rfl rfl ⟨rfl, rfl⟩ ⟨by decide, by decide⟩ ⟨Nat.zero_le _, Nat.zero_le _⟩ rfl rfl (Nat.le_of_ble_eq_true rfl) dS_perform_86 ?_
    refine G.goto 140 F dS_perform_89 rfl ?_
    exact G.st (congrArg (cW X K) ((if_neg h1).trans ((if_neg h2).trans ((if_neg h3).trans (if_pos h4))))) (hE _ _ dS_perform_140)
  by_cases h5 : c 7 t = 5
  · skip
    refine G.tabIn 92 (off := 88) F dS_perform_4 (sw_lo h5 (by decide)) (sw_hi h5 (by decide)) (sw_at h5 rfl) rfl ?_
    refine G.aload_n 0 F dS_perform_92 rfl rfl ?_
    refine G.aload_n 1 F dS_perform_93 rfl rfl ?_
    refine G.callv F (k_readHere l D K base X t ht c hI) ckS_158 cW_x rfl rfl ⟨rfl, rfl⟩ ⟨by decide, by decide⟩ ⟨Nat.zero_le _, Nat.zero_le _⟩ rfl rfl (Nat.le_of_ble_eq_true rfl) dS_perform_94 ?_
    refine G.goto 140 F dS_perform_97 rfl ?_
    exact G.st (congrArg (cW X K) ((if_neg h1).trans ((if_neg h2).trans ((if_neg h3).trans ((if_neg h4).trans (if_pos h5)))))) (hE _ _ dS_perform_140)
  by_cases h6 : c 7 t = 6
  · skip
    refine G.tabIn 100 (off := 96) F dS_perform_4 (sw_lo h6 (by decide)) (sw_hi h6 (by decide)) (sw_at h6 rfl) rfl ?_
    refine G.aload_n 0 F dS_perform_100 rfl rfl ?_
    refine G.aload_n 1 F dS_perform_101 rfl rfl ?_
    refine G.callv F (k_cutHere l D K base X t ht c hI) ckS_161 cW_x rfl rfl ⟨rfl, rfl⟩ ⟨by decide, by decide⟩ ⟨Nat.zero_le _, Nat.zero_le _⟩ rfl rfl (Nat.le_of_ble_eq_true rfl) dS_perform_102 ?_
    refine G.goto 140 F dS_perform_105 rfl ?_
    exact G.st (congrArg (cW X K) ((if_neg h1).trans ((if_neg h2).trans ((if_neg h3).trans ((if_neg h4).trans ((if_neg h5).trans (if_pos h6))))))) (hE _ _ dS_perform_140)
  by_cases h7 : c 7 t = 7
  · skip
    refine G.tabIn 108 (off := 104) F dS_perform_4 (sw_lo h7 (by decide)) (sw_hi h7 (by decide)) (sw_at h7 rfl) rfl ?_
    refine G.aload_n 0 F dS_perform_108 rfl rfl ?_
    refine G.aload_n 1 F dS_perform_109 rfl rfl ?_
    refine G.callv F (k_doOperation l D K base X t ht c hI) ckS_164 cW_x rfl rfl ⟨rfl, rfl⟩ ⟨by decide, by decide⟩ ⟨Nat.zero_le _, Nat.zero_le _⟩ rfl rfl (Nat.le_of_ble_eq_true rfl) dS_perform_110 ?_
    refine G.goto 140 F dS_perform_113 rfl ?_
    exact G.st (congrArg (cW X K) ((if_neg h1).trans ((if_neg h2).trans ((if_neg h3).trans ((if_neg h4).trans ((if_neg h5).trans ((if_neg h6).trans (if_pos h7)))))))) (hE _ _ dS_perform_140)
  by_cases h8 : c 7 t = 8
  · skip
    refine G.tabIn 116 (off := 112) F dS_perform_4 (sw_lo h8 (by decide)) (sw_hi h8 (by decide)) (sw_at h8 rfl) rfl ?_
    refine G.aload_n 0 F dS_perform_116 rfl rfl ?_
    refine G.aload_n 1 F dS_perform_117 rfl rfl ?_
    refine G.callv F (k_hangNewBlock l D K base X t ht c hI) ckS_167 cW_x rfl rfl ⟨rfl, rfl⟩ ⟨by decide, by decide⟩ ⟨Nat.zero_le _, Nat.zero_le _⟩ rfl rfl (Nat.le_of_ble_eq_true rfl) dS_perform_118 ?_
    refine G.goto 140 F dS_perform_121 rfl ?_
    exact G.st (congrArg (cW X K) ((if_neg h1).trans ((if_neg h2).trans ((if_neg h3).trans ((if_neg h4).trans ((if_neg h5).trans ((if_neg h6).trans ((if_neg h7).trans (if_pos h8))))))))) (hE _ _ dS_perform_140)
  by_cases h9 : c 7 t = 9
  · skip
    refine G.tabIn 124 (off := 120) F dS_perform_4 (sw_lo h9 (by decide)) (sw_hi h9 (by decide)) (sw_at h9 rfl) rfl ?_
    refine G.aload_n 0 F dS_perform_124 rfl rfl ?_
    refine G.aload_n 1 F dS_perform_125 rfl rfl ?_
    refine G.callv F (k_endWork l D K base X t ht c hI) ckS_170 cW_x rfl rfl ⟨rfl, rfl⟩ ⟨by decide, by decide⟩ ⟨Nat.zero_le _, Nat.zero_le _⟩ rfl rfl (Nat.le_of_ble_eq_true rfl) dS_perform_126 ?_
    refine G.goto 140 F dS_perform_129 rfl ?_
    exact G.st (congrArg (cW X K) ((if_neg h1).trans ((if_neg h2).trans ((if_neg h3).trans ((if_neg h4).trans ((if_neg h5).trans ((if_neg h6).trans ((if_neg h7).trans ((if_neg h8).trans (if_pos h9)))))))))) (hE _ _ dS_perform_140)
  by_cases h10 : c 7 t = 10
  · skip
    refine G.tabIn 132 (off := 128) F dS_perform_4 (sw_lo h10 (by decide)) (sw_hi h10 (by decide)) (sw_at h10 rfl) rfl ?_
    refine G.aload_n 0 F dS_perform_132 rfl rfl ?_
    refine G.aload_n 1 F dS_perform_133 rfl rfl ?_
    refine G.callv F (k_unhangHere l D K base X t ht c hI) ckS_173 cW_x rfl rfl ⟨rfl, rfl⟩ ⟨by decide, by decide⟩ ⟨Nat.zero_le _, Nat.zero_le _⟩ rfl rfl (Nat.le_of_ble_eq_true rfl) dS_perform_134 ?_
    refine G.goto 140 F dS_perform_137 rfl ?_
    exact G.st (congrArg (cW X K) ((if_neg h1).trans ((if_neg h2).trans ((if_neg h3).trans ((if_neg h4).trans ((if_neg h5).trans ((if_neg h6).trans ((if_neg h7).trans ((if_neg h8).trans ((if_neg h9).trans (if_pos h10))))))))))) (hE _ _ dS_perform_140)
  refine G.tabOut 140 F dS_perform_4 (by have e0 := lv_neT h1 (show (1 : Int32).toInt = 1 from rfl); have e1 := lv_neT h2 (show (2 : Int32).toInt = 2 from rfl); have e2 := lv_neT h3 (show (3 : Int32).toInt = 3 from rfl); have e3 := lv_neT h4 (show (4 : Int32).toInt = 4 from rfl); have e4 := lv_neT h5 (show (5 : Int32).toInt = 5 from rfl); have e5 := lv_neT h6 (show (6 : Int32).toInt = 6 from rfl); have e6 := lv_neT h7 (show (7 : Int32).toInt = 7 from rfl); have e7 := lv_neT h8 (show (8 : Int32).toInt = 8 from rfl); have e8 := lv_neT h9 (show (9 : Int32).toInt = 9 from rfl); have e9 := lv_neT h10 (show (10 : Int32).toInt = 10 from rfl); omega) rfl ?_
  exact G.st (congrArg (cW X K) ((if_neg h1).trans ((if_neg h2).trans ((if_neg h3).trans ((if_neg h4).trans ((if_neg h5).trans ((if_neg h6).trans ((if_neg h7).trans ((if_neg h8).trans ((if_neg h9).trans (if_neg h10))))))))))) (hE _ _ dS_perform_140)

def f_step (t : Nat) (c : CS) : Int32 × CS := ((f_perform t c) 7 t, (f_perform t c))
theorem i_step (t : Nat) (ht : t < 4) (c : CS) (hI : Inv c) (hb : ¬ c 7 t = 0) : Inv (f_step t c).2 := by
  unfold f_step
  exact (i_perform t ht c hI)
set_option maxRecDepth 100000 in
set_option maxHeartbeats 4000000 in
theorem k_step (l : Launch) (D : va_G) (K : Nat → ClassId) (base : Nat) (X : Nat → Nat) (t : Nat) (ht : t < 4) (c : CS) (hI : Inv c) (hb : ¬ c 7 t = 0) : CtI l D K base yS_step cS_step 3 .int (rmD 6) [.ref (X 0), .int (nI t)] (cW X K c) (f_step t c).1 (cW X K (f_step t c).2) := by
  refine CtI.enter (by decide) (Nat.le_of_ble_eq_true rfl) ?_
  intro κ A Q F hE
  show G κ l (rmD 6) A Q D 3 0 0 (cW X K c) 0 [(0, .ref (X 0)), (1, .int (nI t))] []
  refine G.aload_n 0 F dS_step_0 rfl rfl ?_
  refine G.iload_n 1 F dS_step_1 rfl rfl ?_
  refine G.callr F (k_busyWorkerOf l D K base X t ht c hI hb) ckS_59 cW_x rfl rfl ⟨rfl, rfl⟩ ⟨by decide, by decide⟩ ⟨Nat.zero_le _, Nat.zero_le _⟩ rfl rfl (Nat.le_of_ble_eq_true rfl) dS_step_2 ?_
  refine G.astore_nN F dS_step_5 rfl (by decide) rfl ?_
  refine G.aload_n 1 F dS_step_6 rfl rfl ?_
  refine G.aload_n 0 F dS_step_7 rfl rfl ?_
  refine G.callv F (k_perform l D K base X t ht c hI) ckS_62 cW_x rfl rfl ⟨rfl, rfl⟩ ⟨by decide, by decide⟩ ⟨Nat.zero_le _, Nat.zero_le _⟩ rfl rfl (Nat.le_of_ble_eq_true rfl) dS_step_8 ?_
  refine G.aload_n 0 F dS_step_11 rfl rfl ?_
  refine G.gT 1 7 F rfl ht (by decide) flS_42 dS_step_12 ?_
  have hr9 : f_step t c = ((f_perform t c) 7 t, (f_perform t c)) := rfl
  exact G.st (congrArg (fun z : Int32 × CS => cW X K z.2) hr9) (hE _ _ ((f_perform t c) 7 t) dS_step_15 rfl (congrArg Prod.fst hr9).symm)

def fl_finish_8 (t : Nat) : Nat → Nat → CS → Int32 × CS
  | 0, _, c9 => (nI 300, c9)
  | n + 1, k, c9 => (if c9 7 t = 0 then (nI k, c9) else (fl_finish_8 t n (k + 1) (f_perform t c9)))
def f_finish (t : Nat) (c : CS) : Int32 × CS := (fl_finish_8 t 300 0 c)
theorem i_fl_finish_8 (t : Nat) (ht : t < 4) : ∀ (n k : Nat) (c9 : CS), k + n = 300 → Inv c9 → Inv (fl_finish_8 t n k c9).2 := by
  intro n
  induction n with
  | zero =>
    intro k c9 hkn hI9
    exact hI9
  | succ n ih =>
    intro k c9 hkn hI9
    have hk : k < 300 := by omega
    unfold fl_finish_8
    exact (ite_c2 (fun h1 => hI9) (fun h1 => (ih (k + 1) _ (by omega) (i_perform t ht c9 hI9))))
theorem i_finish (t : Nat) (ht : t < 4) (c : CS) (hI : Inv c) (hb : ¬ c 7 t = 0) : Inv (f_finish t c).2 := by
  unfold f_finish
  exact (i_fl_finish_8 t ht 300 0 _ (by decide) hI)
set_option maxRecDepth 100000 in
set_option maxHeartbeats 4000000 in
theorem k_finish (l : Launch) (D : va_G) (K : Nat → ClassId) (base : Nat) (X : Nat → Nat) (t : Nat) (ht : t < 4) (c : CS) (hI : Inv c) (hb : ¬ c 7 t = 0) : CtI l D K base yS_finish cS_finish 4 .int (rmD 6) [.ref (X 0), .int (nI t)] (cW X K c) (f_finish t c).1 (cW X K (f_finish t c).2) := by
  refine CtI.enter (by decide) (Nat.le_of_ble_eq_true rfl) ?_
  intro κ A Q F hE
  show G κ l (rmD 6) A Q D 4 0 0 (cW X K c) 0 [(0, .ref (X 0)), (1, .int (nI t))] []
  have hloop8 : ∀ (n k : Nat) (c9 : CS), k + n = 300 → Inv c9 → f_finish t c = fl_finish_8 t n k c9 → G κ l (rmD 6) A Q D 4 0 0 (cW X K c9) 8 [(3, .int (nI k)), (2, .ref (X (24 + t))), (0, .ref (X 0)), (1, .int (nI t))] [] := by
    intro n
    induction n with
    | zero =>
      intro k c9 hkn hI9 hρ
      obtain rfl : k = 300 := by omega
      refine G.iload_n 0 F dS_finish_8 rfl rfl ?_
      refine G.sipush 300 F dS_finish_9 (by decide) ?_
      refine G.icmp_ge 33 F dS_finish_12 rfl (fun _ => ?_) (fun h9 => absurd (by decide) h9)
      refine G.iload_n 0 F dS_finish_33 rfl rfl ?_
      have hr9 : f_finish t c = (nI 300, c9) := hρ
      exact G.st (congrArg (fun z : Int32 × CS => cW X K z.2) hr9) (hE _ _ (nI 300) dS_finish_34 rfl (congrArg Prod.fst hr9).symm)
    | succ n ih =>
      intro k c9 hkn hI9 hρ
      have hk : k < 300 := by omega
      refine G.iload_n 0 F dS_finish_8 rfl rfl ?_
      refine G.sipush 300 F dS_finish_9 (by decide) ?_
      refine G.icmp_ge 33 F dS_finish_12 rfl (fun h9 => absurd h9 (nI_ge (b := 300) (Nat.lt_of_lt_of_le hk (by decide)) (by decide))) (fun _ => ?_)
      refine G.aload_n 1 F dS_finish_15 rfl rfl ?_
      refine G.gT 1 7 F rfl ht (by decide) flS_42 dS_finish_16 ?_
      refine G.if_eq 33 F dS_finish_19 rfl (fun h1 => ?_) (fun h1 => ?_)
      · skip
        refine G.iload_n 0 F dS_finish_33 rfl rfl ?_
        have hr9 : f_finish t c = (nI k, c9) := hρ.trans (if_pos h1)
        exact G.st (congrArg (fun z : Int32 × CS => cW X K z.2) hr9) (hE _ _ (nI k) dS_finish_34 rfl (congrArg Prod.fst hr9).symm)
      · skip
        refine G.aload_n 2 F dS_finish_22 rfl rfl ?_
        refine G.aload_n 1 F dS_finish_23 rfl rfl ?_
        refine G.callv F (k_perform l D K base X t ht c9 hI9) ckS_62 cW_x rfl rfl ⟨rfl, rfl⟩ ⟨by decide, by decide⟩ ⟨Nat.zero_le _, Nat.zero_le _⟩ rfl rfl (Nat.le_of_ble_eq_true rfl) dS_finish_24 ?_
        refine G.iinc 0 (nI (k + 1)) F dS_finish_27 rfl (nI_succ k).symm (by decide) rfl ?_
        refine G.goto 8 F dS_finish_30 rfl ?_
        exact ih (k + 1) _ (by omega) (i_perform t ht c9 hI9) (hρ.trans (if_neg h1))
  refine G.aload_n 0 F dS_finish_0 rfl rfl ?_
  refine G.iload_n 1 F dS_finish_1 rfl rfl ?_
  refine G.callr F (k_busyWorkerOf l D K base X t ht c hI hb) ckS_59 cW_x rfl rfl ⟨rfl, rfl⟩ ⟨by decide, by decide⟩ ⟨Nat.zero_le _, Nat.zero_le _⟩ rfl rfl (Nat.le_of_ble_eq_true rfl) dS_finish_2 ?_
  refine G.astore_nN F dS_finish_5 rfl (by decide) rfl ?_
  refine G.iconst 0 F dS_finish_6 (by decide) ?_
  refine G.istore_nN F dS_finish_7 rfl (by decide) rfl ?_
  exact hloop8 300 0 _ (by decide) hI rfl
end
section
def f_m_thrown (m : CS) : Int32 := m 20 0
set_option maxRecDepth 100000 in
set_option maxHeartbeats 4000000 in
theorem k_m_thrown (l : Launch) (D : va_G) (K : Nat → ClassId) (base : Nat) (Y : Nat → Nat)  (m : CS) (hI : InvM m) : CtI l D K base yM_thrown cM_thrown 1 .int (rmD 0) [.ref (Y 0)] (mW Y K m) (f_m_thrown m) (mW Y K m) := by
  refine CtI.enter (by decide) (Nat.le_of_ble_eq_true rfl) ?_
  intro κ A Q F hE
  show G κ l (rmD 0) A Q D 1 0 0 (mW Y K m) 0 [(0, .ref (Y 0))] []
  refine G.aload_n 0 F dM_thrown_0 rfl rfl ?_
  refine G.gM 0 F (by decide) flM_75 rfl dM_thrown_1 ?_
  exact hE _ _ (m 20 0) dM_thrown_4 rfl rfl.symm

def f_m_isThread (v : Int32) (m : CS) : Int32 := (if v < 0 then 0 else (if 3 < v then 0 else 1))
set_option maxRecDepth 100000 in
set_option maxHeartbeats 4000000 in
theorem k_m_isThread (l : Launch) (D : va_G) (K : Nat → ClassId) (base : Nat) (Y : Nat → Nat) (v : Int32) (m : CS) (hI : InvM m) : CtI l D K base yM_isThread cM_isThread 1 .boolean (rmD 0) [.int v] (mW Y K m) (f_m_isThread v m) (mW Y K m) := by
  refine CtI.enter (by decide) (Nat.le_of_ble_eq_true rfl) ?_
  intro κ A Q F hE
  show G κ l (rmD 0) A Q D 1 0 0 (mW Y K m) 0 [(0, .int v)] []
  refine G.iload_n 0 F dM_isThread_0 rfl rfl ?_
  refine G.if_lt 13 F dM_isThread_1 rfl (fun h1 => ?_) (fun h1 => ?_)
  · skip
    refine G.iconst 0 F dM_isThread_13 (by decide) ?_
    exact hE _ _ 0 dM_isThread_14 rfl (if_pos h1).symm
  · skip
    refine G.iload_n 0 F dM_isThread_4 rfl rfl ?_
    refine G.iconst 3 F dM_isThread_5 (by decide) ?_
    refine G.icmp_gt 13 F dM_isThread_6 rfl (fun h2 => ?_) (fun h2 => ?_)
    · skip
      refine G.iconst 0 F dM_isThread_13 (by decide) ?_
      exact hE _ _ 0 dM_isThread_14 rfl ((if_neg h1).trans (if_pos h2)).symm
    · skip
      refine G.iconst 1 F dM_isThread_9 (by decide) ?_
      refine G.goto 14 F dM_isThread_10 rfl ?_
      exact hE _ _ 1 dM_isThread_14 rfl ((if_neg h1).trans (if_neg h2)).symm
theorem isT {t : Nat} (ht : t < 4) (m : CS) : ¬ f_m_isThread (nI t) m = 0 := by
  rcases (show t = 0 ∨ t = 1 ∨ t = 2 ∨ t = 3 by omega) with rfl | rfl | rfl | rfl <;> (unfold f_m_isThread; decide)

def fl_m_isNamed_4 (b : Int32) : Nat → Nat → Int32 → CS → Int32
  | 0, _, z, m => z
  | n + 1, k, z, m => (if z = 0 then (if m 19 k = b then (fl_m_isNamed_4 b n (k + 1) 1 m) else (fl_m_isNamed_4 b n (k + 1) 0 m)) else (fl_m_isNamed_4 b n (k + 1) 1 m))
def f_m_isNamed (b : Int32) (m : CS) : Int32 := (fl_m_isNamed_4 b 8 0 0 m)
set_option maxRecDepth 100000 in
set_option maxHeartbeats 4000000 in
theorem k_m_isNamed (l : Launch) (D : va_G) (K : Nat → ClassId) (base : Nat) (Y : Nat → Nat) (b : Int32) (m : CS) (hI : InvM m) : CtI l D K base yM_isNamed cM_isNamed 4 .boolean (rmD 0) [.ref (Y 0), .int b] (mW Y K m) (f_m_isNamed b m) (mW Y K m) := by
  refine CtI.enter (by decide) (Nat.le_of_ble_eq_true rfl) ?_
  intro κ A Q F hE
  show G κ l (rmD 0) A Q D 4 0 0 (mW Y K m) 0 [(0, .ref (Y 0)), (1, .int b)] []
  have hloop4 : ∀ (n k : Nat) (z : Int32), k + n = 8 → bz z → f_m_isNamed b m = fl_m_isNamed_4 b n k z m → G κ l (rmD 0) A Q D 4 0 0 (mW Y K m) 4 [(3, .int (nI k)), (2, .int z), (0, .ref (Y 0)), (1, .int b)] [] := by
    intro n
    induction n with
    | zero =>
      intro k z hkn hr_z hρ
      obtain rfl : k = 8 := by omega
      refine G.iload_n 0 F dM_isNamed_4 rfl rfl ?_
      refine G.bipush 8 F dM_isNamed_5 (by decide) ?_
      refine G.icmp_ge 36 F dM_isNamed_7 rfl (fun _ => ?_) (fun h9 => absurd (by decide) h9)
      refine G.iload_n 1 F dM_isNamed_36 rfl rfl ?_
      exact hE _ _ z dM_isNamed_37 (bz_nar hr_z) hρ.symm
    | succ n ih =>
      intro k z hkn hr_z hρ
      have hk : k < 8 := by omega
      refine G.iload_n 0 F dM_isNamed_4 rfl rfl ?_
      refine G.bipush 8 F dM_isNamed_5 (by decide) ?_
      refine G.icmp_ge 36 F dM_isNamed_7 rfl (fun h9 => absurd h9 (nI_ge (b := 8) (Nat.lt_of_lt_of_le hk (by decide)) (by decide))) (fun _ => ?_)
      refine G.iload_n 1 F dM_isNamed_10 rfl rfl ?_
      refine G.if_ne 24 F dM_isNamed_11 rfl (fun h1 => ?_) (fun h1 => ?_)
      · skip
        refine G.iconst 1 F dM_isNamed_24 (by decide) ?_
        refine G.goto 29 F dM_isNamed_25 rfl ?_
        refine G.istore_n 1 F dM_isNamed_29 rfl rfl (by decide) rfl ?_
        refine G.iinc 0 (nI (k + 1)) F dM_isNamed_30 rfl (nI_succ k).symm (by decide) rfl ?_
        refine G.goto 4 F dM_isNamed_33 rfl ?_
        exact ih (k + 1) 1 (by omega) bz1 (hρ.trans (if_neg h1))
      · skip
        refine G.aload_n 2 F dM_isNamed_14 rfl rfl ?_
        refine G.gM 23 F (by decide) flM_68 rfl dM_isNamed_15 ?_
        refine G.iload_n 0 F dM_isNamed_18 rfl rfl ?_
        refine G.ldMn 19 F (by decide) rfl (k := k) rfl hk dM_isNamed_19 ?_
        refine G.iload_n 3 F dM_isNamed_20 rfl rfl ?_
        refine G.icmp_ne 28 F dM_isNamed_21 rfl (fun h2 => ?_) (fun h2 => ?_)
        · skip
          refine G.iconst 0 F dM_isNamed_28 (by decide) ?_
          refine G.istore_n 1 F dM_isNamed_29 rfl rfl (by decide) rfl ?_
          refine G.iinc 0 (nI (k + 1)) F dM_isNamed_30 rfl (nI_succ k).symm (by decide) rfl ?_
          refine G.goto 4 F dM_isNamed_33 rfl ?_
          exact ih (k + 1) 0 (by omega) bz0 (hρ.trans ((if_pos h1).trans (if_neg h2)))
        · skip
          refine G.iconst 1 F dM_isNamed_24 (by decide) ?_
          refine G.goto 29 F dM_isNamed_25 rfl ?_
          refine G.istore_n 1 F dM_isNamed_29 rfl rfl (by decide) rfl ?_
          refine G.iinc 0 (nI (k + 1)) F dM_isNamed_30 rfl (nI_succ k).symm (by decide) rfl ?_
          refine G.goto 4 F dM_isNamed_33 rfl ?_
          exact ih (k + 1) 1 (by omega) bz1 (hρ.trans ((if_pos h1).trans (if_pos h2)))
  refine G.iconst 0 F dM_isNamed_0 (by decide) ?_
  refine G.istore_nN F dM_isNamed_1 rfl (by decide) rfl ?_
  refine G.iconst 0 F dM_isNamed_2 (by decide) ?_
  refine G.istore_nN F dM_isNamed_3 rfl (by decide) rfl ?_
  exact hloop4 8 0 0 (by decide) bz0 rfl

def f_m_look (b : Int32) (v : Int32) (m : CS) : CS := (if b ≤ 0 then (up2 m 20 3 (m 20 3)) else (if m 0 b.toNatClampNeg = 0 then (up2 m 20 3 ((m 20 3) + 1)) else (if m 4 b.toNatClampNeg = v then (up2 m 20 3 (m 20 3)) else (up2 m 20 3 ((m 20 3) + 1)))))
theorem i_m_look (b : Int32) (hb : vp_in b 21) (v : Int32) (m : CS) (hI : InvM m) : InvM (f_m_look b v m) := by
  unfold f_m_look
  exact (ite_m (fun h1 => (InvM.upo hI rfl)) (fun h1 => (ite_m (fun h2 => (InvM.upo hI rfl)) (fun h2 => (ite_m (fun h3 => (InvM.upo hI rfl)) (fun h3 => (InvM.upo hI rfl)))))))
set_option maxRecDepth 100000 in
set_option maxHeartbeats 4000000 in
theorem k_m_look (l : Launch) (D : va_G) (K : Nat → ClassId) (base : Nat) (Y : Nat → Nat) (b : Int32) (hb : vp_in b 21) (v : Int32) (m : CS) (hI : InvM m) : CtV l D K base yM_look cM_look 3 (rmD 0) [.ref (Y 0), .int b, .int v] (mW Y K m) (mW Y K (f_m_look b v m)) := by
  refine CtV.enter (by decide) (Nat.le_of_ble_eq_true rfl) ?_
  intro κ A Q F hE
  show G κ l (rmD 0) A Q D 3 0 0 (mW Y K m) 0 [(0, .ref (Y 0)), (1, .int b), (2, .int v)] []
  refine G.aload_n 0 F dM_look_0 rfl rfl ?_
  refine G.iload_n 1 F dM_look_1 rfl rfl ?_
  refine G.if_le 33 F dM_look_2 rfl (fun h1 => ?_) (fun h1 => ?_)
  · skip
    refine G.aload_n 0 F dM_look_33 rfl rfl ?_
    refine G.gM 3 F (by decide) flM_92 rfl dM_look_34 ?_
    refine G.pM 3 F (by decide) flM_92 dM_look_37 ?_
    exact G.st (congrArg (mW Y K) (if_pos h1)) (hE _ _ dM_look_40)
  · skip
    refine G.aload_n 0 F dM_look_5 rfl rfl ?_
    refine G.gM 4 F (by decide) flM_7 rfl dM_look_6 ?_
    refine G.iload_n 1 F dM_look_9 rfl rfl ?_
    refine G.ldM 0 F (by decide) rfl hb dM_look_10 ?_
    refine G.if_eq 24 F dM_look_11 rfl (fun h2 => ?_) (fun h2 => ?_)
    · skip
      refine G.aload_n 0 F dM_look_24 rfl rfl ?_
      refine G.gM 3 F (by decide) flM_92 rfl dM_look_25 ?_
      refine G.iconst 1 F dM_look_28 (by decide) ?_
      refine G.iadd F dM_look_29 ?_
      refine G.goto 37 F dM_look_30 rfl ?_
      refine G.pM 3 F (by decide) flM_92 dM_look_37 ?_
      exact G.st (congrArg (mW Y K) ((if_neg h1).trans (if_pos h2))) (hE _ _ dM_look_40)
    · skip
      refine G.aload_n 0 F dM_look_14 rfl rfl ?_
      refine G.gM 8 F (by decide) flM_23 rfl dM_look_15 ?_
      refine G.iload_n 1 F dM_look_18 rfl rfl ?_
      refine G.ldM 4 F (by decide) rfl hb dM_look_19 ?_
      refine G.iload_n 2 F dM_look_20 rfl rfl ?_
      refine G.icmp_eq 33 F dM_look_21 rfl (fun h3 => ?_) (fun h3 => ?_)
      · skip
        refine G.aload_n 0 F dM_look_33 rfl rfl ?_
        refine G.gM 3 F (by decide) flM_92 rfl dM_look_34 ?_
        refine G.pM 3 F (by decide) flM_92 dM_look_37 ?_
        exact G.st (congrArg (mW Y K) ((if_neg h1).trans ((if_neg h2).trans (if_pos h3)))) (hE _ _ dM_look_40)
      · skip
        refine G.aload_n 0 F dM_look_24 rfl rfl ?_
        refine G.gM 3 F (by decide) flM_92 rfl dM_look_25 ?_
        refine G.iconst 1 F dM_look_28 (by decide) ?_
        refine G.iadd F dM_look_29 ?_
        refine G.goto 37 F dM_look_30 rfl ?_
        refine G.pM 3 F (by decide) flM_92 dM_look_37 ?_
        exact G.st (congrArg (mW Y K) ((if_neg h1).trans ((if_neg h2).trans (if_neg h3)))) (hE _ _ dM_look_40)

def f_m_linked (t : Nat) (m : CS) : Int32 := (if m 2 ((m 9 t).toNatClampNeg) = m 11 t then (if m 3 ((m 9 t).toNatClampNeg) = 0 then 1 else 0) else 0)
set_option maxRecDepth 100000 in
set_option maxHeartbeats 4000000 in
theorem k_m_linked (l : Launch) (D : va_G) (K : Nat → ClassId) (base : Nat) (Y : Nat → Nat) (t : Nat) (ht : t < 4) (m : CS) (hI : InvM m) : CtI l D K base yM_linked cM_linked 2 .boolean (rmD 0) [.ref (Y 0), .int (nI t)] (mW Y K m) (f_m_linked t m) (mW Y K m) := by
  refine CtI.enter (by decide) (Nat.le_of_ble_eq_true rfl) ?_
  intro κ A Q F hE
  show G κ l (rmD 0) A Q D 2 0 0 (mW Y K m) 0 [(0, .ref (Y 0)), (1, .int (nI t))] []
  refine G.aload_n 0 F dM_linked_0 rfl rfl ?_
  refine G.gM 6 F (by decide) flM_16 rfl dM_linked_1 ?_
  refine G.aload_n 0 F dM_linked_4 rfl rfl ?_
  refine G.gM 13 F (by decide) flM_38 rfl dM_linked_5 ?_
  refine G.iload_n 1 F dM_linked_8 rfl rfl ?_
  refine G.ldMn 9 F (by decide) rfl (k := t) rfl ht dM_linked_9 ?_
  refine G.ldM 2 F (by decide) rfl (hI 9 _ rfl) dM_linked_10 ?_
  refine G.aload_n 0 F dM_linked_11 rfl rfl ?_
  refine G.gM 15 F (by decide) flM_44 rfl dM_linked_12 ?_
  refine G.iload_n 1 F dM_linked_15 rfl rfl ?_
  refine G.ldMn 11 F (by decide) rfl (k := t) rfl ht dM_linked_16 ?_
  refine G.icmp_ne 38 F dM_linked_17 rfl (fun h1 => ?_) (fun h1 => ?_)
  · skip
    refine G.iconst 0 F dM_linked_38 (by decide) ?_
    exact hE _ _ 0 dM_linked_39 rfl (if_neg h1).symm
  · skip
    refine G.aload_n 0 F dM_linked_20 rfl rfl ?_
    refine G.gM 7 F (by decide) flM_19 rfl dM_linked_21 ?_
    refine G.aload_n 0 F dM_linked_24 rfl rfl ?_
    refine G.gM 13 F (by decide) flM_38 rfl dM_linked_25 ?_
    refine G.iload_n 1 F dM_linked_28 rfl rfl ?_
    refine G.ldMn 9 F (by decide) rfl (k := t) rfl ht dM_linked_29 ?_
    refine G.ldMz 3 F (by decide) rfl (hI 9 _ rfl) dM_linked_30 ?_
    refine G.if_ne 38 F dM_linked_31 rfl (fun h2 => ?_) (fun h2 => ?_)
    · skip
      refine G.iconst 0 F dM_linked_38 (by decide) ?_
      exact hE _ _ 0 dM_linked_39 rfl ((if_pos h1).trans (if_neg h2)).symm
    · skip
      refine G.iconst 1 F dM_linked_34 (by decide) ?_
      refine G.goto 39 F dM_linked_35 rfl ?_
      exact hE _ _ 1 dM_linked_39 rfl ((if_pos h1).trans (if_pos h2)).symm

def f_m_link (b : Int32) (o : Int32) (m : CS) : CS := (up2 (up2 m 2 b.toNatClampNeg o) 3 b.toNatClampNeg 0)
theorem i_m_link (b : Int32) (hb : vp_in b 21) (o : Int32) (ho : vp_in o 21) (m : CS) (hI : InvM m) : InvM (f_m_link b o m) := by
  unfold f_m_link
  exact (InvM.upo (InvM.upi hI ho) rfl)
set_option maxRecDepth 100000 in
set_option maxHeartbeats 4000000 in
theorem k_m_link (l : Launch) (D : va_G) (K : Nat → ClassId) (base : Nat) (Y : Nat → Nat) (b : Int32) (hb : vp_in b 21) (o : Int32) (ho : vp_in o 21) (m : CS) (hI : InvM m) : CtV l D K base yM_link cM_link 4 (rmD 0) [.ref (Y 0), .int b, .int o, .int 0] (mW Y K m) (mW Y K (f_m_link b o m)) := by
  refine CtV.enter (by decide) (Nat.le_of_ble_eq_true rfl) ?_
  intro κ A Q F hE
  show G κ l (rmD 0) A Q D 4 0 0 (mW Y K m) 0 [(0, .ref (Y 0)), (1, .int b), (2, .int o), (3, .int 0)] []
  refine G.aload_n 0 F dM_link_0 rfl rfl ?_
  refine G.gM 6 F (by decide) flM_16 rfl dM_link_1 ?_
  refine G.iload_n 1 F dM_link_4 rfl rfl ?_
  refine G.iload_n 2 F dM_link_5 rfl rfl ?_
  refine G.stM 2 F (by decide) rfl hb dM_link_6 ?_
  refine G.aload_n 0 F dM_link_7 rfl rfl ?_
  refine G.gM 7 F (by decide) flM_19 rfl dM_link_8 ?_
  refine G.iload_n 1 F dM_link_11 rfl rfl ?_
  refine G.iload_n 3 F dM_link_12 rfl rfl ?_
  refine G.stMz 3 F (by decide) rfl rfl hb dM_link_13 ?_
  exact G.st (congrArg (mW Y K) rfl) (hE _ _ dM_link_14)

def f_m_come (t : Nat) (b : Int32) (m : CS) : Int32 × CS := (if m 20 1 = 1 then (if b = 0 then (4, (up2 (up2 m 11 t b) 12 t (m 4 b.toNatClampNeg))) else (3, (up2 (up2 m 11 t b) 12 t (m 4 b.toNatClampNeg)))) else (4, (up2 (up2 m 11 t b) 12 t (m 4 b.toNatClampNeg))))
theorem i_m_come (t : Nat) (ht : t < 4) (b : Int32) (hb : vp_in b 21) (m : CS) (hI : InvM m) : InvM (f_m_come t b m).2 := by
  unfold f_m_come
  exact (ite_m2 (fun h1 => (ite_m2 (fun h2 => (InvM.upo (InvM.upi hI hb) rfl)) (fun h2 => (InvM.upo (InvM.upi hI hb) rfl)))) (fun h1 => (InvM.upo (InvM.upi hI hb) rfl)))
set_option maxRecDepth 100000 in
set_option maxHeartbeats 4000000 in
theorem k_m_come (l : Launch) (D : va_G) (K : Nat → ClassId) (base : Nat) (Y : Nat → Nat) (t : Nat) (ht : t < 4) (b : Int32) (hb : vp_in b 21) (m : CS) (hI : InvM m) : CtI l D K base yM_come cM_come 3 .int (rmD 0) [.ref (Y 0), .int (nI t), .int b] (mW Y K m) (f_m_come t b m).1 (mW Y K (f_m_come t b m).2) := by
  refine CtI.enter (by decide) (Nat.le_of_ble_eq_true rfl) ?_
  intro κ A Q F hE
  show G κ l (rmD 0) A Q D 3 0 0 (mW Y K m) 0 [(0, .ref (Y 0)), (1, .int (nI t)), (2, .int b)] []
  refine G.aload_n 0 F dM_come_0 rfl rfl ?_
  refine G.gM 15 F (by decide) flM_44 rfl dM_come_1 ?_
  refine G.iload_n 1 F dM_come_4 rfl rfl ?_
  refine G.iload_n 2 F dM_come_5 rfl rfl ?_
  refine G.stMn 11 F (by decide) rfl (k := t) rfl ht dM_come_6 ?_
  refine G.aload_n 0 F dM_come_7 rfl rfl ?_
  refine G.gM 16 F (by decide) flM_47 rfl dM_come_8 ?_
  refine G.iload_n 1 F dM_come_11 rfl rfl ?_
  refine G.aload_n 0 F dM_come_12 rfl rfl ?_
  refine G.gM 8 F (by decide) flM_23 rfl dM_come_13 ?_
  refine G.iload_n 2 F dM_come_16 rfl rfl ?_
  refine G.ldM 4 F (by decide) rfl hb dM_come_17 ?_
  refine G.tope (y := m 4 b.toNatClampNeg) (up2_f _ _ _ _ (by decide)) ?_
  refine G.stMn 12 F (by decide) rfl (k := t) rfl ht dM_come_18 ?_
  refine G.aload_n 0 F dM_come_19 rfl rfl ?_
  refine G.gM 1 F (by decide) flM_71 rfl dM_come_20 ?_
  refine G.tope (y := m 20 1) ((up2_f _ _ _ _ (by decide)).trans (up2_f _ _ _ _ (by decide))) ?_
  refine G.iconst 1 F dM_come_23 (by decide) ?_
  refine G.icmp_ne 35 F dM_come_24 rfl (fun h1 => ?_) (fun h1 => ?_)
  · skip
    refine G.iconst 4 F dM_come_35 (by decide) ?_
    have hr9 : f_m_come t b m = (4, (up2 (up2 m 11 t b) 12 t (m 4 b.toNatClampNeg))) := (if_neg h1)
    exact G.st (congrArg (fun z : Int32 × CS => mW Y K z.2) hr9) (hE _ _ 4 dM_come_36 rfl (congrArg Prod.fst hr9).symm)
  · skip
    refine G.iload_n 2 F dM_come_27 rfl rfl ?_
    refine G.if_eq 35 F dM_come_28 rfl (fun h2 => ?_) (fun h2 => ?_)
    · skip
      refine G.iconst 4 F dM_come_35 (by decide) ?_
      have hr9 : f_m_come t b m = (4, (up2 (up2 m 11 t b) 12 t (m 4 b.toNatClampNeg))) := (if_pos h1).trans (if_pos h2)
      exact G.st (congrArg (fun z : Int32 × CS => mW Y K z.2) hr9) (hE _ _ 4 dM_come_36 rfl (congrArg Prod.fst hr9).symm)
    · skip
      refine G.iconst 3 F dM_come_31 (by decide) ?_
      refine G.goto 36 F dM_come_32 rfl ?_
      have hr9 : f_m_come t b m = (3, (up2 (up2 m 11 t b) 12 t (m 4 b.toNatClampNeg))) := (if_pos h1).trans (if_neg h2)
      exact G.st (congrArg (fun z : Int32 × CS => mW Y K z.2) hr9) (hE _ _ 3 dM_come_36 rfl (congrArg Prod.fst hr9).symm)

def f_m_name (t : Nat) (m : CS) : Int32 × CS := (if m 9 t = 0 then (4, (up2 m 19 (2 * t) (m 11 t))) else (if m 19 (2 * t) = m 9 t then (4, (up2 m 19 ((2 * t) + 1) (m 11 t))) else (4, (up2 m 19 (2 * t) (m 11 t)))))
theorem i_m_name (t : Nat) (ht : t < 4) (m : CS) (hI : InvM m) : InvM (f_m_name t m).2 := by
  unfold f_m_name
  exact (ite_m2 (fun h1 => (InvM.upo hI rfl)) (fun h1 => (ite_m2 (fun h2 => (InvM.upo hI rfl)) (fun h2 => (InvM.upo hI rfl)))))
set_option maxRecDepth 100000 in
set_option maxHeartbeats 4000000 in
theorem k_m_name (l : Launch) (D : va_G) (K : Nat → ClassId) (base : Nat) (Y : Nat → Nat) (t : Nat) (ht : t < 4) (m : CS) (hI : InvM m) : CtI l D K base yM_name cM_name 3 .int (rmD 0) [.ref (Y 0), .int (nI t)] (mW Y K m) (f_m_name t m).1 (mW Y K (f_m_name t m).2) := by
  refine CtI.enter (by decide) (Nat.le_of_ble_eq_true rfl) ?_
  intro κ A Q F hE
  show G κ l (rmD 0) A Q D 3 0 0 (mW Y K m) 0 [(0, .ref (Y 0)), (1, .int (nI t))] []
  refine G.aload_n 0 F dM_name_0 rfl rfl ?_
  refine G.gM 13 F (by decide) flM_38 rfl dM_name_1 ?_
  refine G.iload_n 1 F dM_name_4 rfl rfl ?_
  refine G.ldMn 9 F (by decide) rfl (k := t) rfl ht dM_name_5 ?_
  refine G.if_eq 30 F dM_name_6 rfl (fun h1 => ?_) (fun h1 => ?_)
  · skip
    refine G.iconst 0 F dM_name_30 (by decide) ?_
    refine G.istore_nN F dM_name_31 rfl (by decide) rfl ?_
    refine G.aload_n 1 F dM_name_32 rfl rfl ?_
    refine G.gM 23 F (by decide) flM_68 rfl dM_name_33 ?_
    refine G.iload_n 0 F dM_name_36 rfl rfl ?_
    refine G.if_eq 48 F dM_name_37 rfl (fun _ => ?_) (fun h9 => absurd (by decide) h9)
    refine G.iconst 2 F dM_name_48 (by decide) ?_
    refine G.iload_n 2 F dM_name_49 rfl rfl ?_
    refine G.imul F dM_name_50 ?_
    refine G.tope (y := nI (2 * t)) (pk_mul 2 t) ?_
    refine G.aload_n 1 F dM_name_51 rfl rfl ?_
    refine G.gM 15 F (by decide) flM_44 rfl dM_name_52 ?_
    refine G.iload_n 2 F dM_name_55 rfl rfl ?_
    refine G.ldMn 11 F (by decide) rfl (k := t) rfl ht dM_name_56 ?_
    refine G.stMn 19 F (by decide) rfl (k := (2 * t)) rfl (show 2 * t < 8 by omega) dM_name_57 ?_
    refine G.iconst 4 F dM_name_58 (by decide) ?_
    have hr9 : f_m_name t m = (4, (up2 m 19 (2 * t) (m 11 t))) := (if_pos h1)
    exact G.st (congrArg (fun z : Int32 × CS => mW Y K z.2) hr9) (hE _ _ 4 dM_name_59 rfl (congrArg Prod.fst hr9).symm)
  · skip
    refine G.aload_n 0 F dM_name_9 rfl rfl ?_
    refine G.gM 23 F (by decide) flM_68 rfl dM_name_10 ?_
    refine G.iconst 2 F dM_name_13 (by decide) ?_
    refine G.iload_n 1 F dM_name_14 rfl rfl ?_
    refine G.imul F dM_name_15 ?_
    refine G.tope (y := nI (2 * t)) (pk_mul 2 t) ?_
    refine G.ldMn 19 F (by decide) rfl (k := (2 * t)) rfl (show 2 * t < 8 by omega) dM_name_16 ?_
    refine G.aload_n 0 F dM_name_17 rfl rfl ?_
    refine G.gM 13 F (by decide) flM_38 rfl dM_name_18 ?_
    refine G.iload_n 1 F dM_name_21 rfl rfl ?_
    refine G.ldMn 9 F (by decide) rfl (k := t) rfl ht dM_name_22 ?_
    refine G.icmp_ne 30 F dM_name_23 rfl (fun h2 => ?_) (fun h2 => ?_)
    · skip
      refine G.iconst 0 F dM_name_30 (by decide) ?_
      refine G.istore_nN F dM_name_31 rfl (by decide) rfl ?_
      refine G.aload_n 1 F dM_name_32 rfl rfl ?_
      refine G.gM 23 F (by decide) flM_68 rfl dM_name_33 ?_
      refine G.iload_n 0 F dM_name_36 rfl rfl ?_
      refine G.if_eq 48 F dM_name_37 rfl (fun _ => ?_) (fun h9 => absurd (by decide) h9)
      refine G.iconst 2 F dM_name_48 (by decide) ?_
      refine G.iload_n 2 F dM_name_49 rfl rfl ?_
      refine G.imul F dM_name_50 ?_
      refine G.tope (y := nI (2 * t)) (pk_mul 2 t) ?_
      refine G.aload_n 1 F dM_name_51 rfl rfl ?_
      refine G.gM 15 F (by decide) flM_44 rfl dM_name_52 ?_
      refine G.iload_n 2 F dM_name_55 rfl rfl ?_
      refine G.ldMn 11 F (by decide) rfl (k := t) rfl ht dM_name_56 ?_
      refine G.stMn 19 F (by decide) rfl (k := (2 * t)) rfl (show 2 * t < 8 by omega) dM_name_57 ?_
      refine G.iconst 4 F dM_name_58 (by decide) ?_
      have hr9 : f_m_name t m = (4, (up2 m 19 (2 * t) (m 11 t))) := (if_neg h1).trans (if_neg h2)
      exact G.st (congrArg (fun z : Int32 × CS => mW Y K z.2) hr9) (hE _ _ 4 dM_name_59 rfl (congrArg Prod.fst hr9).symm)
    · skip
      refine G.iconst 1 F dM_name_26 (by decide) ?_
      refine G.goto 31 F dM_name_27 rfl ?_
      refine G.istore_nN F dM_name_31 rfl (by decide) rfl ?_
      refine G.aload_n 1 F dM_name_32 rfl rfl ?_
      refine G.gM 23 F (by decide) flM_68 rfl dM_name_33 ?_
      refine G.iload_n 0 F dM_name_36 rfl rfl ?_
      refine G.if_eq 48 F dM_name_37 rfl (fun h9 => absurd h9 (by decide)) (fun _ => ?_)
      refine G.iconst 2 F dM_name_40 (by decide) ?_
      refine G.iload_n 2 F dM_name_41 rfl rfl ?_
      refine G.imul F dM_name_42 ?_
      refine G.tope (y := nI (2 * t)) (pk_mul 2 t) ?_
      refine G.iconst 1 F dM_name_43 (by decide) ?_
      refine G.iadd F dM_name_44 ?_
      refine G.tope (y := nI ((2 * t) + 1)) (nI_add (2 * t) 1) ?_
      refine G.goto 51 F dM_name_45 rfl ?_
      refine G.aload_n 1 F dM_name_51 rfl rfl ?_
      refine G.gM 15 F (by decide) flM_44 rfl dM_name_52 ?_
      refine G.iload_n 2 F dM_name_55 rfl rfl ?_
      refine G.ldMn 11 F (by decide) rfl (k := t) rfl ht dM_name_56 ?_
      refine G.stMn 19 F (by decide) rfl (k := ((2 * t) + 1)) rfl (show (2 * t) + 1 < 8 by omega) dM_name_57 ?_
      refine G.iconst 4 F dM_name_58 (by decide) ?_
      have hr9 : f_m_name t m = (4, (up2 m 19 ((2 * t) + 1) (m 11 t))) := (if_neg h1).trans (if_pos h2)
      exact G.st (congrArg (fun z : Int32 × CS => mW Y K z.2) hr9) (hE _ _ 4 dM_name_59 rfl (congrArg Prod.fst hr9).symm)

def f_m_end (t : Nat) (m : CS) : Int32 × CS := (0, (up2 (up2 (up2 (up2 m 17 t (m 16 t)) 18 t (-1)) 19 (2 * t) 0) 19 ((2 * t) + 1) 0))
theorem i_m_end (t : Nat) (ht : t < 4) (m : CS) (hI : InvM m) : InvM (f_m_end t m).2 := by
  unfold f_m_end
  exact (InvM.upo (InvM.upo (InvM.upo (InvM.upo hI rfl) rfl) rfl) rfl)
set_option maxRecDepth 100000 in
set_option maxHeartbeats 4000000 in
theorem k_m_end (l : Launch) (D : va_G) (K : Nat → ClassId) (base : Nat) (Y : Nat → Nat) (t : Nat) (ht : t < 4) (m : CS) (hI : InvM m) : CtI l D K base yM_end cM_end 2 .int (rmD 0) [.ref (Y 0), .int (nI t)] (mW Y K m) (f_m_end t m).1 (mW Y K (f_m_end t m).2) := by
  refine CtI.enter (by decide) (Nat.le_of_ble_eq_true rfl) ?_
  intro κ A Q F hE
  show G κ l (rmD 0) A Q D 2 0 0 (mW Y K m) 0 [(0, .ref (Y 0)), (1, .int (nI t))] []
  refine G.aload_n 0 F dM_end_0 rfl rfl ?_
  refine G.gM 21 F (by decide) flM_62 rfl dM_end_1 ?_
  refine G.iload_n 1 F dM_end_4 rfl rfl ?_
  refine G.aload_n 0 F dM_end_5 rfl rfl ?_
  refine G.gM 20 F (by decide) flM_59 rfl dM_end_6 ?_
  refine G.iload_n 1 F dM_end_9 rfl rfl ?_
  refine G.ldMn 16 F (by decide) rfl (k := t) rfl ht dM_end_10 ?_
  refine G.stMn 17 F (by decide) rfl (k := t) rfl ht dM_end_11 ?_
  refine G.aload_n 0 F dM_end_12 rfl rfl ?_
  refine G.gM 22 F (by decide) flM_65 rfl dM_end_13 ?_
  refine G.iload_n 1 F dM_end_16 rfl rfl ?_
  refine G.iconst (-1) F dM_end_17 (by decide) ?_
  refine G.stMn 18 F (by decide) rfl (k := t) rfl ht dM_end_18 ?_
  refine G.aload_n 0 F dM_end_19 rfl rfl ?_
  refine G.gM 23 F (by decide) flM_68 rfl dM_end_20 ?_
  refine G.iconst 2 F dM_end_23 (by decide) ?_
  refine G.iload_n 1 F dM_end_24 rfl rfl ?_
  refine G.imul F dM_end_25 ?_
  refine G.tope (y := nI (2 * t)) (pk_mul 2 t) ?_
  refine G.iconst 0 F dM_end_26 (by decide) ?_
  refine G.stMn 19 F (by decide) rfl (k := (2 * t)) rfl (show 2 * t < 8 by omega) dM_end_27 ?_
  refine G.aload_n 0 F dM_end_28 rfl rfl ?_
  refine G.gM 23 F (by decide) flM_68 rfl dM_end_29 ?_
  refine G.iconst 2 F dM_end_32 (by decide) ?_
  refine G.iload_n 1 F dM_end_33 rfl rfl ?_
  refine G.imul F dM_end_34 ?_
  refine G.tope (y := nI (2 * t)) (pk_mul 2 t) ?_
  refine G.iconst 1 F dM_end_35 (by decide) ?_
  refine G.iadd F dM_end_36 ?_
  refine G.tope (y := nI ((2 * t) + 1)) (nI_add (2 * t) 1) ?_
  refine G.iconst 0 F dM_end_37 (by decide) ?_
  refine G.stMn 19 F (by decide) rfl (k := ((2 * t) + 1)) rfl (show (2 * t) + 1 < 8 by omega) dM_end_38 ?_
  refine G.iconst 0 F dM_end_39 (by decide) ?_
  have hr9 : f_m_end t m = (0, (up2 (up2 (up2 (up2 m 17 t (m 16 t)) 18 t (-1)) 19 (2 * t) 0) 19 ((2 * t) + 1) 0)) := rfl
  exact G.st (congrArg (fun z : Int32 × CS => mW Y K z.2) hr9) (hE _ _ 0 dM_end_40 rfl (congrArg Prod.fst hr9).symm)

def f_m_blockg (k : Nat) (w : Int32) (m : CS) : Int32 × CS := (if w < 0 then (0, (up2 m 20 0 1)) else (if 5 < w then (0, (up2 m 20 0 1)) else (if w = 2 then (m 2 k, (up2 m 20 0 0)) else (if nI k = 0 then ((-1), (up2 m 20 0 0)) else (if w = 0 then (m 0 k, (up2 m 20 0 0)) else (if w = 1 then (m 1 k, (up2 m 20 0 0)) else (if w = 2 then (if m 0 k = 2 then (m 5 k, (up2 m 20 0 0)) else ((-1), (up2 m 20 0 0))) else (if w = 3 then (if m 3 k = 0 then (0, (up2 m 20 0 0)) else (1, (up2 m 20 0 0))) else (if w = 4 then (m 4 k, (up2 m 20 0 0)) else (if m 0 k = 2 then (m 5 k, (up2 m 20 0 0)) else ((-1), (up2 m 20 0 0))))))))))))
theorem i_m_blockg (k : Nat) (hk : k < 21) (w : Int32) (m : CS) (hI : InvM m) : InvM (f_m_blockg k w m).2 := by
  unfold f_m_blockg
  exact (ite_m2 (fun h1 => (InvM.upo hI rfl)) (fun h1 => (ite_m2 (fun h2 => (InvM.upo hI rfl)) (fun h2 => (ite_m2 (fun h3 => (InvM.upo hI rfl)) (fun h3 => (ite_m2 (fun h4 => (InvM.upo hI rfl)) (fun h4 => (ite_m2 (fun h5 => (InvM.upo hI rfl)) (fun h5 => (ite_m2 (fun h6 => (InvM.upo hI rfl)) (fun h6 => (ite_m2 (fun h7 => (ite_m2 (fun h8 => (InvM.upo hI rfl)) (fun h8 => (InvM.upo hI rfl)))) (fun h7 => (ite_m2 (fun h9 => (ite_m2 (fun h10 => (InvM.upo hI rfl)) (fun h10 => (InvM.upo hI rfl)))) (fun h9 => (ite_m2 (fun h11 => (InvM.upo hI rfl)) (fun h11 => (ite_m2 (fun h12 => (InvM.upo hI rfl)) (fun h12 => (InvM.upo hI rfl)))))))))))))))))))))
set_option maxRecDepth 100000 in
set_option maxHeartbeats 4000000 in
theorem k_m_blockg (l : Launch) (D : va_G) (K : Nat → ClassId) (base : Nat) (Y : Nat → Nat) (k : Nat) (hk : k < 21) (w : Int32) (m : CS) (hI : InvM m) : CtI l D K base yM_block cM_block 3 .int (rmD 0) [.ref (Y 0), .int (nI k), .int w] (mW Y K m) (f_m_blockg k w m).1 (mW Y K (f_m_blockg k w m).2) := by
  refine CtI.enter (by decide) (Nat.le_of_ble_eq_true rfl) ?_
  intro κ A Q F hE
  show G κ l (rmD 0) A Q D 3 0 0 (mW Y K m) 0 [(0, .ref (Y 0)), (1, .int (nI k)), (2, .int w)] []
  refine G.aload_n 0 F dM_block_0 rfl rfl ?_
  refine G.iload_n 1 F dM_block_1 rfl rfl ?_
  refine G.if_lt 24 F dM_block_2 rfl (fun h9 => absurd h9 (cm_lt0 hk (by decide))) (fun _ => ?_)
  refine G.iload_n 1 F dM_block_5 rfl rfl ?_
  refine G.bipush 20 F dM_block_6 (by decide) ?_
  refine G.icmp_gt 24 F dM_block_8 rfl (fun h9 => absurd h9 (nI_nlt (a := 20) (Nat.le_of_lt_succ (Nat.lt_of_lt_of_le hk (by decide))) (by decide))) (fun _ => ?_)
  refine G.iload_n 2 F dM_block_11 rfl rfl ?_
  refine G.if_lt 24 F dM_block_12 rfl (fun h1 => ?_) (fun h1 => ?_)
  · skip
    refine G.iconst 1 F dM_block_24 (by decide) ?_
    refine G.pM 0 F (by decide) flM_75 dM_block_25 ?_
    refine G.aload_n 0 F dM_block_28 rfl rfl ?_
    refine G.gM 0 F (by decide) flM_75 rfl dM_block_29 ?_
    refine G.tope (y := 1) (up2_eq _ _ _ _) ?_
    refine G.if_le 37 F dM_block_32 rfl (fun h9 => absurd h9 (by decide)) (fun _ => ?_)
    refine G.iconst 0 F dM_block_35 (by decide) ?_
    have hr9 : f_m_blockg k w m = (0, (up2 m 20 0 1)) := (if_pos h1)
    exact G.st (congrArg (fun z : Int32 × CS => mW Y K z.2) hr9) (hE _ _ 0 dM_block_36 rfl (congrArg Prod.fst hr9).symm)
  · skip
    refine G.iload_n 2 F dM_block_15 rfl rfl ?_
    refine G.iconst 5 F dM_block_16 (by decide) ?_
    refine G.icmp_gt 24 F dM_block_17 rfl (fun h2 => ?_) (fun h2 => ?_)
    · skip
      refine G.iconst 1 F dM_block_24 (by decide) ?_
      refine G.pM 0 F (by decide) flM_75 dM_block_25 ?_
      refine G.aload_n 0 F dM_block_28 rfl rfl ?_
      refine G.gM 0 F (by decide) flM_75 rfl dM_block_29 ?_
      refine G.tope (y := 1) (up2_eq _ _ _ _) ?_
      refine G.if_le 37 F dM_block_32 rfl (fun h9 => absurd h9 (by decide)) (fun _ => ?_)
      refine G.iconst 0 F dM_block_35 (by decide) ?_
      have hr9 : f_m_blockg k w m = (0, (up2 m 20 0 1)) := (if_neg h1).trans (if_pos h2)
      exact G.st (congrArg (fun z : Int32 × CS => mW Y K z.2) hr9) (hE _ _ 0 dM_block_36 rfl (congrArg Prod.fst hr9).symm)
    · skip
      refine G.iconst 0 F dM_block_20 (by decide) ?_
      refine G.goto 25 F dM_block_21 rfl ?_
      refine G.pM 0 F (by decide) flM_75 dM_block_25 ?_
      refine G.aload_n 0 F dM_block_28 rfl rfl ?_
      refine G.gM 0 F (by decide) flM_75 rfl dM_block_29 ?_
      refine G.tope (y := 0) (up2_eq _ _ _ _) ?_
      refine G.if_le 37 F dM_block_32 rfl (fun _ => ?_) (fun h9 => absurd (by decide) h9)
      refine G.iload_n 2 F dM_block_37 rfl rfl ?_
      refine G.iconst 2 F dM_block_38 (by decide) ?_
      refine G.icmp_ne 49 F dM_block_39 rfl (fun h3 => ?_) (fun h3 => ?_)
      · skip
        refine G.iload_n 1 F dM_block_49 rfl rfl ?_
        refine G.if_ne 55 F dM_block_50 rfl (fun h4 => ?_) (fun h4 => ?_)
        · skip
          refine G.iload_n 2 F dM_block_55 rfl rfl ?_
          by_cases h5 : w = 0
          · skip
            refine G.tabIn 92 (off := 36) F dM_block_56 (sw_lo h5 (by decide)) (sw_hi h5 (by decide)) (sw_at h5 rfl) rfl ?_
            refine G.aload_n 0 F dM_block_92 rfl rfl ?_
            refine G.gM 4 F (by decide) flM_7 rfl dM_block_93 ?_
            refine G.iload_n 1 F dM_block_96 rfl rfl ?_
            refine G.ldMn 0 F (by decide) rfl (k := k) rfl hk dM_block_97 ?_
            refine G.tope (y := m 0 k) (up2_f _ _ _ _ (by decide)) ?_
            have hr9 : f_m_blockg k w m = (m 0 k, (up2 m 20 0 0)) := (if_neg h1).trans ((if_neg h2).trans ((if_neg h3).trans ((if_neg h4).trans (if_pos h5))))
            exact G.st (congrArg (fun z : Int32 × CS => mW Y K z.2) hr9) (hE _ _ (m 0 k) dM_block_98 rfl (congrArg Prod.fst hr9).symm)
          by_cases h6 : w = 1
          · skip
            refine G.tabIn 99 (off := 43) F dM_block_56 (sw_lo h6 (by decide)) (sw_hi h6 (by decide)) (sw_at h6 rfl) rfl ?_
            refine G.aload_n 0 F dM_block_99 rfl rfl ?_
            refine G.gM 5 F (by decide) flM_13 rfl dM_block_100 ?_
            refine G.iload_n 1 F dM_block_103 rfl rfl ?_
            refine G.ldMn 1 F (by decide) rfl (k := k) rfl hk dM_block_104 ?_
            refine G.tope (y := m 1 k) (up2_f _ _ _ _ (by decide)) ?_
            have hr9 : f_m_blockg k w m = (m 1 k, (up2 m 20 0 0)) := (if_neg h1).trans ((if_neg h2).trans ((if_neg h3).trans ((if_neg h4).trans ((if_neg h5).trans (if_pos h6)))))
            exact G.st (congrArg (fun z : Int32 × CS => mW Y K z.2) hr9) (hE _ _ (m 1 k) dM_block_105 rfl (congrArg Prod.fst hr9).symm)
          by_cases h7 : w = 2
          · skip
            refine G.tabIn 128 (off := 72) F dM_block_56 (sw_lo h7 (by decide)) (sw_hi h7 (by decide)) (sw_at h7 rfl) rfl ?_
            refine G.aload_n 0 F dM_block_128 rfl rfl ?_
            refine G.gM 4 F (by decide) flM_7 rfl dM_block_129 ?_
            refine G.iload_n 1 F dM_block_132 rfl rfl ?_
            refine G.ldMn 0 F (by decide) rfl (k := k) rfl hk dM_block_133 ?_
            refine G.tope (y := m 0 k) (up2_f _ _ _ _ (by decide)) ?_
            refine G.iconst 2 F dM_block_134 (by decide) ?_
            refine G.icmp_ne 147 F dM_block_135 rfl (fun h8 => ?_) (fun h8 => ?_)
            · skip
              refine G.iconst (-1) F dM_block_147 (by decide) ?_
              have hr9 : f_m_blockg k w m = ((-1), (up2 m 20 0 0)) := (if_neg h1).trans ((if_neg h2).trans ((if_neg h3).trans ((if_neg h4).trans ((if_neg h5).trans ((if_neg h6).trans ((if_pos h7).trans (if_neg h8)))))))
              exact G.st (congrArg (fun z : Int32 × CS => mW Y K z.2) hr9) (hE _ _ (-1) dM_block_148 rfl (congrArg Prod.fst hr9).symm)
            · skip
              refine G.aload_n 0 F dM_block_138 rfl rfl ?_
              refine G.gM 9 F (by decide) flM_26 rfl dM_block_139 ?_
              refine G.iload_n 1 F dM_block_142 rfl rfl ?_
              refine G.ldMn 5 F (by decide) rfl (k := k) rfl hk dM_block_143 ?_
              refine G.tope (y := m 5 k) (up2_f _ _ _ _ (by decide)) ?_
              refine G.goto 148 F dM_block_144 rfl ?_
              have hr9 : f_m_blockg k w m = (m 5 k, (up2 m 20 0 0)) := (if_neg h1).trans ((if_neg h2).trans ((if_neg h3).trans ((if_neg h4).trans ((if_neg h5).trans ((if_neg h6).trans ((if_pos h7).trans (if_pos h8)))))))
              exact G.st (congrArg (fun z : Int32 × CS => mW Y K z.2) hr9) (hE _ _ (m 5 k) dM_block_148 rfl (congrArg Prod.fst hr9).symm)
          by_cases h9 : w = 3
          · skip
            refine G.tabIn 106 (off := 50) F dM_block_56 (sw_lo h9 (by decide)) (sw_hi h9 (by decide)) (sw_at h9 rfl) rfl ?_
            refine G.aload_n 0 F dM_block_106 rfl rfl ?_
            refine G.gM 7 F (by decide) flM_19 rfl dM_block_107 ?_
            refine G.iload_n 1 F dM_block_110 rfl rfl ?_
            refine G.ldMzn 3 F (by decide) rfl (k := k) rfl hk dM_block_111 ?_
            refine G.tope (y := m 3 k) (up2_f _ _ _ _ (by decide)) ?_
            refine G.if_eq 119 F dM_block_112 rfl (fun h10 => ?_) (fun h10 => ?_)
            · skip
              refine G.iconst 0 F dM_block_119 (by decide) ?_
              have hr9 : f_m_blockg k w m = (0, (up2 m 20 0 0)) := (if_neg h1).trans ((if_neg h2).trans ((if_neg h3).trans ((if_neg h4).trans ((if_neg h5).trans ((if_neg h6).trans ((if_neg h7).trans ((if_pos h9).trans (if_pos h10))))))))
              exact G.st (congrArg (fun z : Int32 × CS => mW Y K z.2) hr9) (hE _ _ 0 dM_block_120 rfl (congrArg Prod.fst hr9).symm)
            · skip
              refine G.iconst 1 F dM_block_115 (by decide) ?_
              refine G.goto 120 F dM_block_116 rfl ?_
              have hr9 : f_m_blockg k w m = (1, (up2 m 20 0 0)) := (if_neg h1).trans ((if_neg h2).trans ((if_neg h3).trans ((if_neg h4).trans ((if_neg h5).trans ((if_neg h6).trans ((if_neg h7).trans ((if_pos h9).trans (if_neg h10))))))))
              exact G.st (congrArg (fun z : Int32 × CS => mW Y K z.2) hr9) (hE _ _ 1 dM_block_120 rfl (congrArg Prod.fst hr9).symm)
          by_cases h11 : w = 4
          · skip
            refine G.tabIn 121 (off := 65) F dM_block_56 (sw_lo h11 (by decide)) (sw_hi h11 (by decide)) (sw_at h11 rfl) rfl ?_
            refine G.aload_n 0 F dM_block_121 rfl rfl ?_
            refine G.gM 8 F (by decide) flM_23 rfl dM_block_122 ?_
            refine G.iload_n 1 F dM_block_125 rfl rfl ?_
            refine G.ldMn 4 F (by decide) rfl (k := k) rfl hk dM_block_126 ?_
            refine G.tope (y := m 4 k) (up2_f _ _ _ _ (by decide)) ?_
            have hr9 : f_m_blockg k w m = (m 4 k, (up2 m 20 0 0)) := (if_neg h1).trans ((if_neg h2).trans ((if_neg h3).trans ((if_neg h4).trans ((if_neg h5).trans ((if_neg h6).trans ((if_neg h7).trans ((if_neg h9).trans (if_pos h11))))))))
            exact G.st (congrArg (fun z : Int32 × CS => mW Y K z.2) hr9) (hE _ _ (m 4 k) dM_block_127 rfl (congrArg Prod.fst hr9).symm)
          refine G.tabOut 128 F dM_block_56 (by have e0 := lv_neT h5 (show (0 : Int32).toInt = 0 from rfl); have e1 := lv_neT h6 (show (1 : Int32).toInt = 1 from rfl); have e2 := lv_neT h7 (show (2 : Int32).toInt = 2 from rfl); have e3 := lv_neT h9 (show (3 : Int32).toInt = 3 from rfl); have e4 := lv_neT h11 (show (4 : Int32).toInt = 4 from rfl); omega) rfl ?_
          refine G.aload_n 0 F dM_block_128 rfl rfl ?_
          refine G.gM 4 F (by decide) flM_7 rfl dM_block_129 ?_
          refine G.iload_n 1 F dM_block_132 rfl rfl ?_
          refine G.ldMn 0 F (by decide) rfl (k := k) rfl hk dM_block_133 ?_
          refine G.tope (y := m 0 k) (up2_f _ _ _ _ (by decide)) ?_
          refine G.iconst 2 F dM_block_134 (by decide) ?_
          refine G.icmp_ne 147 F dM_block_135 rfl (fun h12 => ?_) (fun h12 => ?_)
          · skip
            refine G.iconst (-1) F dM_block_147 (by decide) ?_
            have hr9 : f_m_blockg k w m = ((-1), (up2 m 20 0 0)) := (if_neg h1).trans ((if_neg h2).trans ((if_neg h3).trans ((if_neg h4).trans ((if_neg h5).trans ((if_neg h6).trans ((if_neg h7).trans ((if_neg h9).trans ((if_neg h11).trans (if_neg h12)))))))))
            exact G.st (congrArg (fun z : Int32 × CS => mW Y K z.2) hr9) (hE _ _ (-1) dM_block_148 rfl (congrArg Prod.fst hr9).symm)
          · skip
            refine G.aload_n 0 F dM_block_138 rfl rfl ?_
            refine G.gM 9 F (by decide) flM_26 rfl dM_block_139 ?_
            refine G.iload_n 1 F dM_block_142 rfl rfl ?_
            refine G.ldMn 5 F (by decide) rfl (k := k) rfl hk dM_block_143 ?_
            refine G.tope (y := m 5 k) (up2_f _ _ _ _ (by decide)) ?_
            refine G.goto 148 F dM_block_144 rfl ?_
            have hr9 : f_m_blockg k w m = (m 5 k, (up2 m 20 0 0)) := (if_neg h1).trans ((if_neg h2).trans ((if_neg h3).trans ((if_neg h4).trans ((if_neg h5).trans ((if_neg h6).trans ((if_neg h7).trans ((if_neg h9).trans ((if_neg h11).trans (if_pos h12)))))))))
            exact G.st (congrArg (fun z : Int32 × CS => mW Y K z.2) hr9) (hE _ _ (m 5 k) dM_block_148 rfl (congrArg Prod.fst hr9).symm)
        · skip
          refine G.iconst (-1) F dM_block_53 (by decide) ?_
          have hr9 : f_m_blockg k w m = ((-1), (up2 m 20 0 0)) := (if_neg h1).trans ((if_neg h2).trans ((if_neg h3).trans (if_pos h4)))
          exact G.st (congrArg (fun z : Int32 × CS => mW Y K z.2) hr9) (hE _ _ (-1) dM_block_54 rfl (congrArg Prod.fst hr9).symm)
      · skip
        refine G.aload_n 0 F dM_block_42 rfl rfl ?_
        refine G.gM 6 F (by decide) flM_16 rfl dM_block_43 ?_
        refine G.iload_n 1 F dM_block_46 rfl rfl ?_
        refine G.ldMn 2 F (by decide) rfl (k := k) rfl hk dM_block_47 ?_
        refine G.tope (y := m 2 k) (up2_f _ _ _ _ (by decide)) ?_
        have hr9 : f_m_blockg k w m = (m 2 k, (up2 m 20 0 0)) := (if_neg h1).trans ((if_neg h2).trans (if_pos h3))
        exact G.st (congrArg (fun z : Int32 × CS => mW Y K z.2) hr9) (hE _ _ (m 2 k) dM_block_48 rfl (congrArg Prod.fst hr9).symm)

def f_m_blockbl (v : Int32) (w : Int32) (m : CS) : Int32 × CS := (0, (up2 m 20 0 1))
theorem i_m_blockbl (v : Int32) (w : Int32) (m : CS) (hI : InvM m) (hv : v < 0) : InvM (f_m_blockbl v w m).2 := by
  unfold f_m_blockbl
  exact (InvM.upo hI rfl)
set_option maxRecDepth 100000 in
set_option maxHeartbeats 4000000 in
theorem k_m_blockbl (l : Launch) (D : va_G) (K : Nat → ClassId) (base : Nat) (Y : Nat → Nat) (v : Int32) (w : Int32) (m : CS) (hI : InvM m) (hv : v < 0) : CtI l D K base yM_block cM_block 3 .int (rmD 0) [.ref (Y 0), .int v, .int w] (mW Y K m) (f_m_blockbl v w m).1 (mW Y K (f_m_blockbl v w m).2) := by
  refine CtI.enter (by decide) (Nat.le_of_ble_eq_true rfl) ?_
  intro κ A Q F hE
  show G κ l (rmD 0) A Q D 3 0 0 (mW Y K m) 0 [(0, .ref (Y 0)), (1, .int v), (2, .int w)] []
  refine G.aload_n 0 F dM_block_0 rfl rfl ?_
  refine G.iload_n 1 F dM_block_1 rfl rfl ?_
  refine G.if_lt 24 F dM_block_2 rfl (fun _ => ?_) (fun h9 => absurd hv h9)
  refine G.iconst 1 F dM_block_24 (by decide) ?_
  refine G.pM 0 F (by decide) flM_75 dM_block_25 ?_
  refine G.aload_n 0 F dM_block_28 rfl rfl ?_
  refine G.gM 0 F (by decide) flM_75 rfl dM_block_29 ?_
  refine G.tope (y := 1) (up2_eq _ _ _ _) ?_
  refine G.if_le 37 F dM_block_32 rfl (fun h9 => absurd h9 (by decide)) (fun _ => ?_)
  refine G.iconst 0 F dM_block_35 (by decide) ?_
  have hr9 : f_m_blockbl v w m = (0, (up2 m 20 0 1)) := rfl
  exact G.st (congrArg (fun z : Int32 × CS => mW Y K z.2) hr9) (hE _ _ 0 dM_block_36 rfl (congrArg Prod.fst hr9).symm)

def f_m_blockbh (v : Int32) (w : Int32) (m : CS) : Int32 × CS := (0, (up2 m 20 0 1))
theorem i_m_blockbh (v : Int32) (w : Int32) (m : CS) (hI : InvM m) (hv : ¬ v < 0) (hv2 : 20 < v) : InvM (f_m_blockbh v w m).2 := by
  unfold f_m_blockbh
  exact (InvM.upo hI rfl)
set_option maxRecDepth 100000 in
set_option maxHeartbeats 4000000 in
theorem k_m_blockbh (l : Launch) (D : va_G) (K : Nat → ClassId) (base : Nat) (Y : Nat → Nat) (v : Int32) (w : Int32) (m : CS) (hI : InvM m) (hv : ¬ v < 0) (hv2 : 20 < v) : CtI l D K base yM_block cM_block 3 .int (rmD 0) [.ref (Y 0), .int v, .int w] (mW Y K m) (f_m_blockbh v w m).1 (mW Y K (f_m_blockbh v w m).2) := by
  refine CtI.enter (by decide) (Nat.le_of_ble_eq_true rfl) ?_
  intro κ A Q F hE
  show G κ l (rmD 0) A Q D 3 0 0 (mW Y K m) 0 [(0, .ref (Y 0)), (1, .int v), (2, .int w)] []
  refine G.aload_n 0 F dM_block_0 rfl rfl ?_
  refine G.iload_n 1 F dM_block_1 rfl rfl ?_
  refine G.if_lt 24 F dM_block_2 rfl (fun h9 => absurd h9 hv) (fun _ => ?_)
  refine G.iload_n 1 F dM_block_5 rfl rfl ?_
  refine G.bipush 20 F dM_block_6 (by decide) ?_
  refine G.icmp_gt 24 F dM_block_8 rfl (fun _ => ?_) (fun h9 => absurd hv2 h9)
  refine G.iconst 1 F dM_block_24 (by decide) ?_
  refine G.pM 0 F (by decide) flM_75 dM_block_25 ?_
  refine G.aload_n 0 F dM_block_28 rfl rfl ?_
  refine G.gM 0 F (by decide) flM_75 rfl dM_block_29 ?_
  refine G.tope (y := 1) (up2_eq _ _ _ _) ?_
  refine G.if_le 37 F dM_block_32 rfl (fun h9 => absurd h9 (by decide)) (fun _ => ?_)
  refine G.iconst 0 F dM_block_35 (by decide) ?_
  have hr9 : f_m_blockbh v w m = (0, (up2 m 20 0 1)) := rfl
  exact G.st (congrArg (fun z : Int32 × CS => mW Y K z.2) hr9) (hE _ _ 0 dM_block_36 rfl (congrArg Prod.fst hr9).symm)

def fl_m_advance_92  : Nat → Nat → Int32 → CS → Int32 × CS
  | 0, _, z, m9 => (1, m9)
  | n + 1, k, z, m9 => (if m9 0 k = 2 then (if (m9 20 2) - 2 < m9 5 k then (fl_m_advance_92  n (k + 1) z (up2 m9 0 k (m9 0 k))) else (fl_m_advance_92  n (k + 1) z (up2 m9 0 k 0))) else (fl_m_advance_92  n (k + 1) z (up2 m9 0 k (m9 0 k))))
def fl_m_advance_31  : Nat → Nat → Int32 → CS → Int32 × CS
  | 0, _, z, m9 => (if z = 0 then (0, m9) else (fl_m_advance_92  20 1 z (up2 m9 20 2 ((m9 20 2) + 1))))
  | n + 1, k, z, m9 => (if z = 0 then (fl_m_advance_31  n (k + 1) 0 m9) else (if m9 18 k < 0 then (fl_m_advance_31  n (k + 1) 1 m9) else (if m9 18 k = m9 20 2 then (fl_m_advance_31  n (k + 1) 1 m9) else (fl_m_advance_31  n (k + 1) 0 m9))))
def f_m_advance (m : CS) : Int32 × CS := (if m 20 1 = 0 then (fl_m_advance_31 4 0 1 (up2 m 20 0 0)) else (fl_m_advance_31 4 0 0 (up2 m 20 0 1)))
theorem i_fl_m_advance_92  : ∀ (n k : Nat) (z : Int32) (m9 : CS), k + n = 21 → InvM m9 → InvM (fl_m_advance_92  n k z m9).2 := by
  intro n
  induction n with
  | zero =>
    intro k z m9 hkn hI9
    exact hI9
  | succ n ih =>
    intro k z m9 hkn hI9
    have hk : k < 21 := by omega
    unfold fl_m_advance_92
    exact (ite_m2 (fun h3 => (ite_m2 (fun h4 => (ih (k + 1) z _ (by omega) (InvM.upo hI9 rfl))) (fun h4 => (ih (k + 1) z _ (by omega) (InvM.upo hI9 rfl))))) (fun h3 => (ih (k + 1) z _ (by omega) (InvM.upo hI9 rfl))))
theorem i_fl_m_advance_31  : ∀ (n k : Nat) (z : Int32) (m9 : CS), k + n = 4 → InvM m9 → bz z → InvM (fl_m_advance_31  n k z m9).2 := by
  intro n
  induction n with
  | zero =>
    intro k z m9 hkn hI9 hr_z
    exact (ite_m2 (fun h2 => hI9) (fun h2 => (i_fl_m_advance_92  20 1 z _ (by decide) (InvM.upo hI9 rfl))))
  | succ n ih =>
    intro k z m9 hkn hI9 hr_z
    have hk : k < 4 := by omega
    unfold fl_m_advance_31
    exact (ite_m2 (fun h5 => (ih (k + 1) 0 _ (by omega) hI9 bz0)) (fun h5 => (ite_m2 (fun h6 => (ih (k + 1) 1 _ (by omega) hI9 bz1)) (fun h6 => (ite_m2 (fun h7 => (ih (k + 1) 1 _ (by omega) hI9 bz1)) (fun h7 => (ih (k + 1) 0 _ (by omega) hI9 bz0)))))))
theorem i_m_advance  (m : CS) (hI : InvM m) : InvM (f_m_advance  m).2 := by
  unfold f_m_advance
  exact (ite_m2 (fun h1 => (i_fl_m_advance_31  4 0 1 _ (by decide) (InvM.upo hI rfl) bz1)) (fun h1 => (i_fl_m_advance_31  4 0 0 _ (by decide) (InvM.upo hI rfl) bz0)))
set_option maxRecDepth 100000 in
set_option maxHeartbeats 4000000 in
theorem k_m_advance (l : Launch) (D : va_G) (K : Nat → ClassId) (base : Nat) (Y : Nat → Nat)  (m : CS) (hI : InvM m) : CtI l D K base yM_advance cM_advance 3 .boolean (rmD 0) [.ref (Y 0)] (mW Y K m) (f_m_advance m).1 (mW Y K (f_m_advance m).2) := by
  refine CtI.enter (by decide) (Nat.le_of_ble_eq_true rfl) ?_
  intro κ A Q F hE
  show G κ l (rmD 0) A Q D 3 0 0 (mW Y K m) 0 [(0, .ref (Y 0))] []
  have hloop92 : ∀ (n k : Nat) (z : Int32) (m9 : CS), k + n = 21 → InvM m9 → f_m_advance m = fl_m_advance_92  n k z m9 → G κ l (rmD 0) A Q D 3 0 0 (mW Y K m9) 92 [(2, .int (nI k)), (1, .int z), (0, .ref (Y 0))] [] := by
    intro n
    induction n with
    | zero =>
      intro k z m9 hkn hI9 hρ
      obtain rfl : k = 21 := by omega
      refine G.iload_n 0 F dM_advance_92 rfl rfl ?_
      refine G.bipush 20 F dM_advance_93 (by decide) ?_
      refine G.icmp_gt 145 F dM_advance_95 rfl (fun _ => ?_) (fun h9 => absurd (by decide) h9)
      refine G.iconst 1 F dM_advance_145 (by decide) ?_
      have hr9 : f_m_advance m = (1, m9) := hρ
      exact G.st (congrArg (fun z : Int32 × CS => mW Y K z.2) hr9) (hE _ _ 1 dM_advance_146 rfl (congrArg Prod.fst hr9).symm)
    | succ n ih =>
      intro k z m9 hkn hI9 hρ
      have hk : k < 21 := by omega
      refine G.iload_n 0 F dM_advance_92 rfl rfl ?_
      refine G.bipush 20 F dM_advance_93 (by decide) ?_
      refine G.icmp_gt 145 F dM_advance_95 rfl (fun h9 => absurd h9 (nI_nlt (a := 20) (Nat.le_of_lt_succ (Nat.lt_of_lt_of_le hk (by decide))) (by decide))) (fun _ => ?_)
      refine G.aload_n 2 F dM_advance_98 rfl rfl ?_
      refine G.gM 4 F (by decide) flM_7 rfl dM_advance_99 ?_
      refine G.iload_n 0 F dM_advance_102 rfl rfl ?_
      refine G.aload_n 2 F dM_advance_103 rfl rfl ?_
      refine G.gM 4 F (by decide) flM_7 rfl dM_advance_104 ?_
      refine G.iload_n 0 F dM_advance_107 rfl rfl ?_
      refine G.ldMn 0 F (by decide) rfl (k := k) rfl hk dM_advance_108 ?_
      refine G.iconst 2 F dM_advance_109 (by decide) ?_
      refine G.icmp_ne 132 F dM_advance_110 rfl (fun h3 => ?_) (fun h3 => ?_)
      · skip
        refine G.aload_n 2 F dM_advance_132 rfl rfl ?_
        refine G.gM 4 F (by decide) flM_7 rfl dM_advance_133 ?_
        refine G.iload_n 0 F dM_advance_136 rfl rfl ?_
        refine G.ldMn 0 F (by decide) rfl (k := k) rfl hk dM_advance_137 ?_
        refine G.stMn 0 F (by decide) rfl (k := k) rfl hk dM_advance_138 ?_
        refine G.iinc 0 (nI (k + 1)) F dM_advance_139 rfl (nI_succ k).symm (by decide) rfl ?_
        refine G.goto 92 F dM_advance_142 rfl ?_
        exact ih (k + 1) z _ (by omega) (InvM.upo hI9 rfl) (hρ.trans (if_neg h3))
      · skip
        refine G.aload_n 2 F dM_advance_113 rfl rfl ?_
        refine G.gM 9 F (by decide) flM_26 rfl dM_advance_114 ?_
        refine G.iload_n 0 F dM_advance_117 rfl rfl ?_
        refine G.ldMn 5 F (by decide) rfl (k := k) rfl hk dM_advance_118 ?_
        refine G.aload_n 2 F dM_advance_119 rfl rfl ?_
        refine G.gM 2 F (by decide) flM_85 rfl dM_advance_120 ?_
        refine G.iconst 2 F dM_advance_123 (by decide) ?_
        refine G.isub F dM_advance_124 ?_
        refine G.icmp_gt 132 F dM_advance_125 rfl (fun h4 => ?_) (fun h4 => ?_)
        · skip
          refine G.aload_n 2 F dM_advance_132 rfl rfl ?_
          refine G.gM 4 F (by decide) flM_7 rfl dM_advance_133 ?_
          refine G.iload_n 0 F dM_advance_136 rfl rfl ?_
          refine G.ldMn 0 F (by decide) rfl (k := k) rfl hk dM_advance_137 ?_
          refine G.stMn 0 F (by decide) rfl (k := k) rfl hk dM_advance_138 ?_
          refine G.iinc 0 (nI (k + 1)) F dM_advance_139 rfl (nI_succ k).symm (by decide) rfl ?_
          refine G.goto 92 F dM_advance_142 rfl ?_
          exact ih (k + 1) z _ (by omega) (InvM.upo hI9 rfl) (hρ.trans ((if_pos h3).trans (if_pos h4)))
        · skip
          refine G.iconst 0 F dM_advance_128 (by decide) ?_
          refine G.goto 138 F dM_advance_129 rfl ?_
          refine G.stMn 0 F (by decide) rfl (k := k) rfl hk dM_advance_138 ?_
          refine G.iinc 0 (nI (k + 1)) F dM_advance_139 rfl (nI_succ k).symm (by decide) rfl ?_
          refine G.goto 92 F dM_advance_142 rfl ?_
          exact ih (k + 1) z _ (by omega) (InvM.upo hI9 rfl) (hρ.trans ((if_pos h3).trans (if_neg h4)))
  have hloop31 : ∀ (n k : Nat) (z : Int32) (m9 : CS), k + n = 4 → InvM m9 → bz z → f_m_advance m = fl_m_advance_31  n k z m9 → G κ l (rmD 0) A Q D 3 0 0 (mW Y K m9) 31 [(2, .int (nI k)), (1, .int z), (0, .ref (Y 0))] [] := by
    intro n
    induction n with
    | zero =>
      intro k z m9 hkn hI9 hr_z hρ
      obtain rfl : k = 4 := by omega
      refine G.iload_n 0 F dM_advance_31 rfl rfl ?_
      refine G.iconst 4 F dM_advance_32 (by decide) ?_
      refine G.icmp_ge 74 F dM_advance_33 rfl (fun _ => ?_) (fun h9 => absurd (by decide) h9)
      refine G.iload_n 1 F dM_advance_74 rfl rfl ?_
      refine G.if_ne 80 F dM_advance_75 rfl (fun h2 => ?_) (fun h2 => ?_)
      · skip
        refine G.aload_n 2 F dM_advance_80 rfl rfl ?_
        refine G.dup F dM_advance_81 rfl ?_
        refine G.gM 2 F (by decide) flM_85 rfl dM_advance_82 ?_
        refine G.iconst 1 F dM_advance_85 (by decide) ?_
        refine G.iadd F dM_advance_86 ?_
        refine G.pM 2 F (by decide) flM_85 dM_advance_87 ?_
        refine G.iconst 1 F dM_advance_90 (by decide) ?_
        refine G.istore_n 0 F dM_advance_91 rfl rfl (by decide) rfl ?_
        exact hloop92 20 1 z _ (by decide) (InvM.upo hI9 rfl) (hρ.trans (if_neg h2))
      · skip
        refine G.iconst 0 F dM_advance_78 (by decide) ?_
        have hr9 : f_m_advance m = (0, m9) := hρ.trans (if_pos h2)
        exact G.st (congrArg (fun z : Int32 × CS => mW Y K z.2) hr9) (hE _ _ 0 dM_advance_79 rfl (congrArg Prod.fst hr9).symm)
    | succ n ih =>
      intro k z m9 hkn hI9 hr_z hρ
      have hk : k < 4 := by omega
      refine G.iload_n 0 F dM_advance_31 rfl rfl ?_
      refine G.iconst 4 F dM_advance_32 (by decide) ?_
      refine G.icmp_ge 74 F dM_advance_33 rfl (fun h9 => absurd h9 (nI_ge (b := 4) (Nat.lt_of_lt_of_le hk (by decide)) (by decide))) (fun _ => ?_)
      refine G.iload_n 1 F dM_advance_36 rfl rfl ?_
      refine G.if_eq 66 F dM_advance_37 rfl (fun h5 => ?_) (fun h5 => ?_)
      · skip
        refine G.iconst 0 F dM_advance_66 (by decide) ?_
        refine G.istore_n 1 F dM_advance_67 rfl rfl (by decide) rfl ?_
        refine G.iinc 0 (nI (k + 1)) F dM_advance_68 rfl (nI_succ k).symm (by decide) rfl ?_
        refine G.goto 31 F dM_advance_71 rfl ?_
        exact ih (k + 1) 0 _ (by omega) hI9 bz0 (hρ.trans (if_pos h5))
      · skip
        refine G.aload_n 2 F dM_advance_40 rfl rfl ?_
        refine G.gM 22 F (by decide) flM_65 rfl dM_advance_41 ?_
        refine G.iload_n 0 F dM_advance_44 rfl rfl ?_
        refine G.ldMn 18 F (by decide) rfl (k := k) rfl hk dM_advance_45 ?_
        refine G.if_lt 62 F dM_advance_46 rfl (fun h6 => ?_) (fun h6 => ?_)
        · skip
          refine G.iconst 1 F dM_advance_62 (by decide) ?_
          refine G.goto 67 F dM_advance_63 rfl ?_
          refine G.istore_n 1 F dM_advance_67 rfl rfl (by decide) rfl ?_
          refine G.iinc 0 (nI (k + 1)) F dM_advance_68 rfl (nI_succ k).symm (by decide) rfl ?_
          refine G.goto 31 F dM_advance_71 rfl ?_
          exact ih (k + 1) 1 _ (by omega) hI9 bz1 (hρ.trans ((if_neg h5).trans (if_pos h6)))
        · skip
          refine G.aload_n 2 F dM_advance_49 rfl rfl ?_
          refine G.gM 22 F (by decide) flM_65 rfl dM_advance_50 ?_
          refine G.iload_n 0 F dM_advance_53 rfl rfl ?_
          refine G.ldMn 18 F (by decide) rfl (k := k) rfl hk dM_advance_54 ?_
          refine G.aload_n 2 F dM_advance_55 rfl rfl ?_
          refine G.gM 2 F (by decide) flM_85 rfl dM_advance_56 ?_
          refine G.icmp_ne 66 F dM_advance_59 rfl (fun h7 => ?_) (fun h7 => ?_)
          · skip
            refine G.iconst 0 F dM_advance_66 (by decide) ?_
            refine G.istore_n 1 F dM_advance_67 rfl rfl (by decide) rfl ?_
            refine G.iinc 0 (nI (k + 1)) F dM_advance_68 rfl (nI_succ k).symm (by decide) rfl ?_
            refine G.goto 31 F dM_advance_71 rfl ?_
            exact ih (k + 1) 0 _ (by omega) hI9 bz0 (hρ.trans ((if_neg h5).trans ((if_neg h6).trans (if_neg h7))))
          · skip
            refine G.iconst 1 F dM_advance_62 (by decide) ?_
            refine G.goto 67 F dM_advance_63 rfl ?_
            refine G.istore_n 1 F dM_advance_67 rfl rfl (by decide) rfl ?_
            refine G.iinc 0 (nI (k + 1)) F dM_advance_68 rfl (nI_succ k).symm (by decide) rfl ?_
            refine G.goto 31 F dM_advance_71 rfl ?_
            exact ih (k + 1) 1 _ (by omega) hI9 bz1 (hρ.trans ((if_neg h5).trans ((if_neg h6).trans (if_pos h7))))
  refine G.aload_n 0 F dM_advance_0 rfl rfl ?_
  refine G.aload_n 0 F dM_advance_1 rfl rfl ?_
  refine G.gM 1 F (by decide) flM_71 rfl dM_advance_2 ?_
  refine G.if_ne 12 F dM_advance_5 rfl (fun h1 => ?_) (fun h1 => ?_)
  · skip
    refine G.iconst 1 F dM_advance_12 (by decide) ?_
    refine G.pM 0 F (by decide) flM_75 dM_advance_13 ?_
    refine G.aload_n 0 F dM_advance_16 rfl rfl ?_
    refine G.gM 0 F (by decide) flM_75 rfl dM_advance_17 ?_
    refine G.tope (y := 1) (up2_eq _ _ _ _) ?_
    refine G.if_ne 27 F dM_advance_20 rfl (fun _ => ?_) (fun h9 => absurd h9 (by decide))
    refine G.iconst 0 F dM_advance_27 (by decide) ?_
    refine G.istore_nN F dM_advance_28 rfl (by decide) rfl ?_
    refine G.iconst 0 F dM_advance_29 (by decide) ?_
    refine G.istore_nN F dM_advance_30 rfl (by decide) rfl ?_
    exact hloop31 4 0 0 _ (by decide) (InvM.upo hI rfl) bz0 (if_neg h1)
  · skip
    refine G.iconst 0 F dM_advance_8 (by decide) ?_
    refine G.goto 13 F dM_advance_9 rfl ?_
    refine G.pM 0 F (by decide) flM_75 dM_advance_13 ?_
    refine G.aload_n 0 F dM_advance_16 rfl rfl ?_
    refine G.gM 0 F (by decide) flM_75 rfl dM_advance_17 ?_
    refine G.tope (y := 0) (up2_eq _ _ _ _) ?_
    refine G.if_ne 27 F dM_advance_20 rfl (fun h9 => absurd (by decide) h9) (fun _ => ?_)
    refine G.iconst 1 F dM_advance_23 (by decide) ?_
    refine G.goto 28 F dM_advance_24 rfl ?_
    refine G.istore_nN F dM_advance_28 rfl (by decide) rfl ?_
    refine G.iconst 0 F dM_advance_29 (by decide) ?_
    refine G.istore_nN F dM_advance_30 rfl (by decide) rfl ?_
    exact hloop31 4 0 1 _ (by decide) (InvM.upo hI rfl) bz1 (if_pos h1)
end
section
def fl_m_count_13 (lo : Int32) (hi : Int32) : Nat → Nat → Int32 → Int32 → CS → Int32
  | 0, _, b4, n3, m => n3
  | n + 1, k, b4, n3, m => (if b4 = 0 then n3 else (if m 3 b4.toNatClampNeg = 0 then (if m 1 b4.toNatClampNeg < lo then (fl_m_count_13 lo hi n (k + 1) (m 2 b4.toNatClampNeg) n3 m) else (if hi < m 1 b4.toNatClampNeg then (fl_m_count_13 lo hi n (k + 1) (m 2 b4.toNatClampNeg) n3 m) else (fl_m_count_13 lo hi n (k + 1) (m 2 b4.toNatClampNeg) (n3 + 1) m))) else (fl_m_count_13 lo hi n (k + 1) (m 2 b4.toNatClampNeg) n3 m)))
def f_m_count (lo : Int32) (hi : Int32) (m : CS) : Int32 := (fl_m_count_13 lo hi 20 0 (m 2 0) 0 m)
set_option maxRecDepth 100000 in
set_option maxHeartbeats 4000000 in
theorem k_m_count (l : Launch) (D : va_G) (K : Nat → ClassId) (base : Nat) (Y : Nat → Nat) (lo : Int32) (hi : Int32) (m : CS) (hI : InvM m) : CtI l D K base yM_count cM_count 6 .int (rmD 0) [.ref (Y 0), .int lo, .int hi] (mW Y K m) (f_m_count lo hi m) (mW Y K m) := by
  refine CtI.enter (by decide) (Nat.le_of_ble_eq_true rfl) ?_
  intro κ A Q F hE
  show G κ l (rmD 0) A Q D 6 0 0 (mW Y K m) 0 [(0, .ref (Y 0)), (1, .int lo), (2, .int hi)] []
  have hloop13 : ∀ (n k : Nat) (b4 : Int32) (n3 : Int32), k + n = 20 → vp_in b4 21 → f_m_count lo hi m = fl_m_count_13 lo hi n k b4 n3 m → G κ l (rmD 0) A Q D 6 0 0 (mW Y K m) 13 [(5, .int (nI k)), (4, .int b4), (3, .int n3), (0, .ref (Y 0)), (1, .int lo), (2, .int hi)] [] := by
    intro n
    induction n with
    | zero =>
      intro k b4 n3 hkn hr_b4 hρ
      obtain rfl : k = 20 := by omega
      refine G.iload 0 F dM_count_13 rfl ?_
      refine G.bipush 20 F dM_count_15 (by decide) ?_
      refine G.icmp_ge 80 F dM_count_17 rfl (fun _ => ?_) (fun h9 => absurd (by decide) h9)
      refine G.iload_n 2 F dM_count_80 rfl rfl ?_
      exact hE _ _ n3 dM_count_81 rfl hρ.symm
    | succ n ih =>
      intro k b4 n3 hkn hr_b4 hρ
      have hk : k < 20 := by omega
      refine G.iload 0 F dM_count_13 rfl ?_
      refine G.bipush 20 F dM_count_15 (by decide) ?_
      refine G.icmp_ge 80 F dM_count_17 rfl (fun h9 => absurd h9 (nI_ge (b := 20) (Nat.lt_of_lt_of_le hk (by decide)) (by decide))) (fun _ => ?_)
      refine G.iload 1 F dM_count_20 rfl ?_
      refine G.if_eq 80 F dM_count_22 rfl (fun h1 => ?_) (fun h1 => ?_)
      · skip
        refine G.iload_n 2 F dM_count_80 rfl rfl ?_
        exact hE _ _ n3 dM_count_81 rfl (hρ.trans (if_pos h1)).symm
      · skip
        refine G.aload_n 3 F dM_count_25 rfl rfl ?_
        refine G.gM 7 F (by decide) flM_19 rfl dM_count_26 ?_
        refine G.iload 1 F dM_count_29 rfl ?_
        refine G.ldMz 3 F (by decide) rfl hr_b4 dM_count_31 ?_
        refine G.if_ne 63 F dM_count_32 rfl (fun h2 => ?_) (fun h2 => ?_)
        · skip
          refine G.iload_n 2 F dM_count_63 rfl rfl ?_
          refine G.istore_n 2 F dM_count_64 rfl rfl (by decide) rfl ?_
          refine G.aload_n 3 F dM_count_65 rfl rfl ?_
          refine G.gM 6 F (by decide) flM_16 rfl dM_count_66 ?_
          refine G.iload 1 F dM_count_69 rfl ?_
          refine G.ldM 2 F (by decide) rfl hr_b4 dM_count_71 ?_
          refine G.istore 1 F dM_count_72 rfl (by decide) rfl ?_
          refine G.iinc 0 (nI (k + 1)) F dM_count_74 rfl (nI_succ k).symm (by decide) rfl ?_
          refine G.goto 13 F dM_count_77 rfl ?_
          exact ih (k + 1) (m 2 b4.toNatClampNeg) n3 (by omega) (hI 2 _ rfl) (hρ.trans ((if_neg h1).trans (if_neg h2)))
        · skip
          refine G.aload_n 3 F dM_count_35 rfl rfl ?_
          refine G.gM 5 F (by decide) flM_13 rfl dM_count_36 ?_
          refine G.iload 1 F dM_count_39 rfl ?_
          refine G.ldM 1 F (by decide) rfl hr_b4 dM_count_41 ?_
          refine G.iload_n 4 F dM_count_42 rfl rfl ?_
          refine G.icmp_lt 63 F dM_count_43 rfl (fun h3 => ?_) (fun h3 => ?_)
          · skip
            refine G.iload_n 2 F dM_count_63 rfl rfl ?_
            refine G.istore_n 2 F dM_count_64 rfl rfl (by decide) rfl ?_
            refine G.aload_n 3 F dM_count_65 rfl rfl ?_
            refine G.gM 6 F (by decide) flM_16 rfl dM_count_66 ?_
            refine G.iload 1 F dM_count_69 rfl ?_
            refine G.ldM 2 F (by decide) rfl hr_b4 dM_count_71 ?_
            refine G.istore 1 F dM_count_72 rfl (by decide) rfl ?_
            refine G.iinc 0 (nI (k + 1)) F dM_count_74 rfl (nI_succ k).symm (by decide) rfl ?_
            refine G.goto 13 F dM_count_77 rfl ?_
            exact ih (k + 1) (m 2 b4.toNatClampNeg) n3 (by omega) (hI 2 _ rfl) (hρ.trans ((if_neg h1).trans ((if_pos h2).trans (if_pos h3))))
          · skip
            refine G.aload_n 3 F dM_count_46 rfl rfl ?_
            refine G.gM 5 F (by decide) flM_13 rfl dM_count_47 ?_
            refine G.iload 1 F dM_count_50 rfl ?_
            refine G.ldM 1 F (by decide) rfl hr_b4 dM_count_52 ?_
            refine G.iload_n 5 F dM_count_53 rfl rfl ?_
            refine G.icmp_gt 63 F dM_count_54 rfl (fun h4 => ?_) (fun h4 => ?_)
            · skip
              refine G.iload_n 2 F dM_count_63 rfl rfl ?_
              refine G.istore_n 2 F dM_count_64 rfl rfl (by decide) rfl ?_
              refine G.aload_n 3 F dM_count_65 rfl rfl ?_
              refine G.gM 6 F (by decide) flM_16 rfl dM_count_66 ?_
              refine G.iload 1 F dM_count_69 rfl ?_
              refine G.ldM 2 F (by decide) rfl hr_b4 dM_count_71 ?_
              refine G.istore 1 F dM_count_72 rfl (by decide) rfl ?_
              refine G.iinc 0 (nI (k + 1)) F dM_count_74 rfl (nI_succ k).symm (by decide) rfl ?_
              refine G.goto 13 F dM_count_77 rfl ?_
              exact ih (k + 1) (m 2 b4.toNatClampNeg) n3 (by omega) (hI 2 _ rfl) (hρ.trans ((if_neg h1).trans ((if_pos h2).trans ((if_neg h3).trans (if_pos h4)))))
            · skip
              refine G.iload_n 2 F dM_count_57 rfl rfl ?_
              refine G.iconst 1 F dM_count_58 (by decide) ?_
              refine G.iadd F dM_count_59 ?_
              refine G.goto 64 F dM_count_60 rfl ?_
              refine G.istore_n 2 F dM_count_64 rfl rfl (by decide) rfl ?_
              refine G.aload_n 3 F dM_count_65 rfl rfl ?_
              refine G.gM 6 F (by decide) flM_16 rfl dM_count_66 ?_
              refine G.iload 1 F dM_count_69 rfl ?_
              refine G.ldM 2 F (by decide) rfl hr_b4 dM_count_71 ?_
              refine G.istore 1 F dM_count_72 rfl (by decide) rfl ?_
              refine G.iinc 0 (nI (k + 1)) F dM_count_74 rfl (nI_succ k).symm (by decide) rfl ?_
              refine G.goto 13 F dM_count_77 rfl ?_
              exact ih (k + 1) (m 2 b4.toNatClampNeg) (n3 + 1) (by omega) (hI 2 _ rfl) (hρ.trans ((if_neg h1).trans ((if_pos h2).trans ((if_neg h3).trans (if_neg h4)))))
  refine G.iconst 0 F dM_count_0 (by decide) ?_
  refine G.istore_nN F dM_count_1 rfl (by decide) rfl ?_
  refine G.aload_n 1 F dM_count_2 rfl rfl ?_
  refine G.gM 6 F (by decide) flM_16 rfl dM_count_3 ?_
  refine G.iconst 0 F dM_count_6 (by decide) ?_
  refine G.ldMn 2 F (by decide) rfl (k := 0) rfl (by decide) dM_count_7 ?_
  refine G.istoreN F dM_count_8 (by decide) rfl ?_
  refine G.iconst 0 F dM_count_10 (by decide) ?_
  refine G.istoreN F dM_count_11 (by decide) rfl ?_
  exact hloop13 20 0 (m 2 0) 0 (by decide) (hI 2 _ rfl) rfl

def f_m_faults (m : CS) : Int32 × CS := (m 20 3, (up2 m 20 0 0))
theorem i_m_faults  (m : CS) (hI : InvM m) : InvM (f_m_faults  m).2 := by
  unfold f_m_faults
  exact (InvM.upo hI rfl)
set_option maxRecDepth 100000 in
set_option maxHeartbeats 4000000 in
theorem k_m_faults (l : Launch) (D : va_G) (K : Nat → ClassId) (base : Nat) (Y : Nat → Nat)  (m : CS) (hI : InvM m) : CtI l D K base yM_faults cM_faults 1 .int (rmD 0) [.ref (Y 0)] (mW Y K m) (f_m_faults m).1 (mW Y K (f_m_faults m).2) := by
  refine CtI.enter (by decide) (Nat.le_of_ble_eq_true rfl) ?_
  intro κ A Q F hE
  show G κ l (rmD 0) A Q D 1 0 0 (mW Y K m) 0 [(0, .ref (Y 0))] []
  refine G.aload_n 0 F dM_faults_0 rfl rfl ?_
  refine G.iconst 0 F dM_faults_1 (by decide) ?_
  refine G.pM 0 F (by decide) flM_75 dM_faults_2 ?_
  refine G.aload_n 0 F dM_faults_5 rfl rfl ?_
  refine G.gM 3 F (by decide) flM_92 rfl dM_faults_6 ?_
  refine G.tope (y := m 20 3) (up2_i _ _ _ _ (by decide)) ?_
  have hr9 : f_m_faults m = (m 20 3, (up2 m 20 0 0)) := rfl
  exact G.st (congrArg (fun z : Int32 × CS => mW Y K z.2) hr9) (hE _ _ (m 20 3) dM_faults_9 rfl (congrArg Prod.fst hr9).symm)

def f_m_epoch (m : CS) : Int32 × CS := (m 20 2, (up2 m 20 0 0))
theorem i_m_epoch  (m : CS) (hI : InvM m) : InvM (f_m_epoch  m).2 := by
  unfold f_m_epoch
  exact (InvM.upo hI rfl)
set_option maxRecDepth 100000 in
set_option maxHeartbeats 4000000 in
theorem k_m_epoch (l : Launch) (D : va_G) (K : Nat → ClassId) (base : Nat) (Y : Nat → Nat)  (m : CS) (hI : InvM m) : CtI l D K base yM_epoch cM_epoch 1 .int (rmD 0) [.ref (Y 0)] (mW Y K m) (f_m_epoch m).1 (mW Y K (f_m_epoch m).2) := by
  refine CtI.enter (by decide) (Nat.le_of_ble_eq_true rfl) ?_
  intro κ A Q F hE
  show G κ l (rmD 0) A Q D 1 0 0 (mW Y K m) 0 [(0, .ref (Y 0))] []
  refine G.aload_n 0 F dM_epoch_0 rfl rfl ?_
  refine G.iconst 0 F dM_epoch_1 (by decide) ?_
  refine G.pM 0 F (by decide) flM_75 dM_epoch_2 ?_
  refine G.aload_n 0 F dM_epoch_5 rfl rfl ?_
  refine G.gM 2 F (by decide) flM_85 rfl dM_epoch_6 ?_
  refine G.tope (y := m 20 2) (up2_i _ _ _ _ (by decide)) ?_
  have hr9 : f_m_epoch m = (m 20 2, (up2 m 20 0 0)) := rfl
  exact G.st (congrArg (fun z : Int32 × CS => mW Y K z.2) hr9) (hE _ _ (m 20 2) dM_epoch_9 rfl (congrArg Prod.fst hr9).symm)

def fl_m_sweep_4 (t : Nat) : Nat → Nat → Int32 → CS → Int32 × CS
  | 0, _, n2, m9 => (n2, m9)
  | n + 1, k, n2, m9 => (if m9 0 k = 2 then (if m9 5 k = nI t then (if f_m_isNamed (nI k) m9 = 0 then (fl_m_sweep_4 t n (k + 1) (n2 + 1) (up2 m9 0 k 0)) else (fl_m_sweep_4 t n (k + 1) n2 m9)) else (fl_m_sweep_4 t n (k + 1) n2 m9)) else (fl_m_sweep_4 t n (k + 1) n2 m9))
def f_m_sweep (t : Nat) (m : CS) : Int32 × CS := (fl_m_sweep_4 t 20 1 0 m)
theorem i_fl_m_sweep_4 (t : Nat) (ht : t < 4) : ∀ (n k : Nat) (n2 : Int32) (m9 : CS), k + n = 21 → InvM m9 → InvM (fl_m_sweep_4 t n k n2 m9).2 := by
  intro n
  induction n with
  | zero =>
    intro k n2 m9 hkn hI9
    exact hI9
  | succ n ih =>
    intro k n2 m9 hkn hI9
    have hk : k < 21 := by omega
    unfold fl_m_sweep_4
    exact (ite_m2 (fun h1 => (ite_m2 (fun h2 => (ite_m2 (fun h3 => (ih (k + 1) (n2 + 1) _ (by omega) (InvM.upo hI9 rfl))) (fun h3 => (ih (k + 1) n2 _ (by omega) hI9)))) (fun h2 => (ih (k + 1) n2 _ (by omega) hI9)))) (fun h1 => (ih (k + 1) n2 _ (by omega) hI9)))
theorem i_m_sweep (t : Nat) (ht : t < 4) (m : CS) (hI : InvM m) : InvM (f_m_sweep t m).2 := by
  unfold f_m_sweep
  exact (i_fl_m_sweep_4 t ht 20 1 0 _ (by decide) hI)
set_option maxRecDepth 100000 in
set_option maxHeartbeats 4000000 in
theorem k_m_sweep (l : Launch) (D : va_G) (K : Nat → ClassId) (base : Nat) (Y : Nat → Nat) (t : Nat) (ht : t < 4) (m : CS) (hI : InvM m) : CtI l D K base yM_sweep cM_sweep 4 .int (rmD 1) [.ref (Y 0), .int (nI t)] (mW Y K m) (f_m_sweep t m).1 (mW Y K (f_m_sweep t m).2) := by
  refine CtI.enter (by decide) (Nat.le_of_ble_eq_true rfl) ?_
  intro κ A Q F hE
  show G κ l (rmD 1) A Q D 4 0 0 (mW Y K m) 0 [(0, .ref (Y 0)), (1, .int (nI t))] []
  have hloop4 : ∀ (n k : Nat) (n2 : Int32) (m9 : CS), k + n = 21 → InvM m9 → f_m_sweep t m = fl_m_sweep_4 t n k n2 m9 → G κ l (rmD 1) A Q D 4 0 0 (mW Y K m9) 4 [(3, .int (nI k)), (2, .int n2), (0, .ref (Y 0)), (1, .int (nI t))] [] := by
    intro n
    induction n with
    | zero =>
      intro k n2 m9 hkn hI9 hρ
      obtain rfl : k = 21 := by omega
      refine G.iload_n 0 F dM_sweep_4 rfl rfl ?_
      refine G.bipush 20 F dM_sweep_5 (by decide) ?_
      refine G.icmp_gt 54 F dM_sweep_7 rfl (fun _ => ?_) (fun h9 => absurd (by decide) h9)
      refine G.iload_n 1 F dM_sweep_54 rfl rfl ?_
      have hr9 : f_m_sweep t m = (n2, m9) := hρ
      exact G.st (congrArg (fun z : Int32 × CS => mW Y K z.2) hr9) (hE _ _ n2 dM_sweep_55 rfl (congrArg Prod.fst hr9).symm)
    | succ n ih =>
      intro k n2 m9 hkn hI9 hρ
      have hk : k < 21 := by omega
      refine G.iload_n 0 F dM_sweep_4 rfl rfl ?_
      refine G.bipush 20 F dM_sweep_5 (by decide) ?_
      refine G.icmp_gt 54 F dM_sweep_7 rfl (fun h9 => absurd h9 (nI_nlt (a := 20) (Nat.le_of_lt_succ (Nat.lt_of_lt_of_le hk (by decide))) (by decide))) (fun _ => ?_)
      refine G.aload_n 2 F dM_sweep_10 rfl rfl ?_
      refine G.gM 4 F (by decide) flM_7 rfl dM_sweep_11 ?_
      refine G.iload_n 0 F dM_sweep_14 rfl rfl ?_
      refine G.ldMn 0 F (by decide) rfl (k := k) rfl hk dM_sweep_15 ?_
      refine G.iconst 2 F dM_sweep_16 (by decide) ?_
      refine G.icmp_ne 48 F dM_sweep_17 rfl (fun h1 => ?_) (fun h1 => ?_)
      · skip
        refine G.iinc 0 (nI (k + 1)) F dM_sweep_48 rfl (nI_succ k).symm (by decide) rfl ?_
        refine G.goto 4 F dM_sweep_51 rfl ?_
        exact ih (k + 1) n2 _ (by omega) hI9 (hρ.trans (if_neg h1))
      · skip
        refine G.aload_n 2 F dM_sweep_20 rfl rfl ?_
        refine G.gM 9 F (by decide) flM_26 rfl dM_sweep_21 ?_
        refine G.iload_n 0 F dM_sweep_24 rfl rfl ?_
        refine G.ldMn 5 F (by decide) rfl (k := k) rfl hk dM_sweep_25 ?_
        refine G.iload_n 3 F dM_sweep_26 rfl rfl ?_
        refine G.icmp_ne 48 F dM_sweep_27 rfl (fun h2 => ?_) (fun h2 => ?_)
        · skip
          refine G.iinc 0 (nI (k + 1)) F dM_sweep_48 rfl (nI_succ k).symm (by decide) rfl ?_
          refine G.goto 4 F dM_sweep_51 rfl ?_
          exact ih (k + 1) n2 _ (by omega) hI9 (hρ.trans ((if_pos h1).trans (if_neg h2)))
        · skip
          refine G.aload_n 2 F dM_sweep_30 rfl rfl ?_
          refine G.iload_n 0 F dM_sweep_31 rfl rfl ?_
          refine G.calli F (k_m_isNamed l D K base Y (nI k) m9 hI9) ckM_82 mW_m rfl rfl ⟨rfl, rfl⟩ ⟨by decide, by decide⟩ ⟨Nat.zero_le _, Nat.zero_le _⟩ rfl rfl (Nat.le_of_ble_eq_true rfl) dM_sweep_32 ?_
          refine G.if_ne 48 F dM_sweep_35 rfl (fun h3 => ?_) (fun h3 => ?_)
          · skip
            refine G.iinc 0 (nI (k + 1)) F dM_sweep_48 rfl (nI_succ k).symm (by decide) rfl ?_
            refine G.goto 4 F dM_sweep_51 rfl ?_
            exact ih (k + 1) n2 _ (by omega) hI9 (hρ.trans ((if_pos h1).trans ((if_pos h2).trans (if_neg h3))))
          · skip
            refine G.aload_n 2 F dM_sweep_38 rfl rfl ?_
            refine G.gM 4 F (by decide) flM_7 rfl dM_sweep_39 ?_
            refine G.iload_n 0 F dM_sweep_42 rfl rfl ?_
            refine G.iconst 0 F dM_sweep_43 (by decide) ?_
            refine G.stMn 0 F (by decide) rfl (k := k) rfl hk dM_sweep_44 ?_
            refine G.iinc 1 (n2 + 1) F dM_sweep_45 rfl rfl (by decide) rfl ?_
            refine G.iinc 0 (nI (k + 1)) F dM_sweep_48 rfl (nI_succ k).symm (by decide) rfl ?_
            refine G.goto 4 F dM_sweep_51 rfl ?_
            exact ih (k + 1) (n2 + 1) _ (by omega) (InvM.upo hI9 rfl) (hρ.trans ((if_pos h1).trans ((if_pos h2).trans (if_pos h3))))
  refine G.iconst 0 F dM_sweep_0 (by decide) ?_
  refine G.istore_nN F dM_sweep_1 rfl (by decide) rfl ?_
  refine G.iconst 1 F dM_sweep_2 (by decide) ?_
  refine G.istore_nN F dM_sweep_3 rfl (by decide) rfl ?_
  exact hloop4 20 1 0 _ (by decide) hI rfl

def f_m_lookBack (t : Nat) (m : CS) : CS := (f_m_look (m 9 t) (m 10 t) m)
theorem i_m_lookBack (t : Nat) (ht : t < 4) (m : CS) (hI : InvM m) : InvM (f_m_lookBack t m) := by
  unfold f_m_lookBack
  exact (i_m_look (m 9 t) (hI 9 _ rfl) (m 10 t) m hI)
set_option maxRecDepth 100000 in
set_option maxHeartbeats 4000000 in
theorem k_m_lookBack (l : Launch) (D : va_G) (K : Nat → ClassId) (base : Nat) (Y : Nat → Nat) (t : Nat) (ht : t < 4) (m : CS) (hI : InvM m) : CtV l D K base yM_lookBack cM_lookBack 2 (rmD 1) [.ref (Y 0), .int (nI t)] (mW Y K m) (mW Y K (f_m_lookBack t m)) := by
  refine CtV.enter (by decide) (Nat.le_of_ble_eq_true rfl) ?_
  intro κ A Q F hE
  show G κ l (rmD 1) A Q D 2 0 0 (mW Y K m) 0 [(0, .ref (Y 0)), (1, .int (nI t))] []
  refine G.aload_n 0 F dM_lookBack_0 rfl rfl ?_
  refine G.aload_n 0 F dM_lookBack_1 rfl rfl ?_
  refine G.gM 13 F (by decide) flM_38 rfl dM_lookBack_2 ?_
  refine G.iload_n 1 F dM_lookBack_5 rfl rfl ?_
  refine G.ldMn 9 F (by decide) rfl (k := t) rfl ht dM_lookBack_6 ?_
  refine G.aload_n 0 F dM_lookBack_7 rfl rfl ?_
  refine G.gM 14 F (by decide) flM_41 rfl dM_lookBack_8 ?_
  refine G.iload_n 1 F dM_lookBack_11 rfl rfl ?_
  refine G.ldMn 10 F (by decide) rfl (k := t) rfl ht dM_lookBack_12 ?_
  refine G.callv F (k_m_look l D K base Y (m 9 t) (hI 9 _ rfl) (m 10 t) m hI) ckM_95 mW_m rfl rfl ⟨rfl, rfl⟩ ⟨by decide, by decide⟩ ⟨Nat.zero_le _, Nat.zero_le _⟩ rfl rfl (Nat.le_of_ble_eq_true rfl) dM_lookBack_13 ?_
  exact G.st (congrArg (mW Y K) rfl) (hE _ _ dM_lookBack_16)

def f_m_head (t : Nat) (m : CS) : Int32 × CS := ((f_m_come t (m 2 0) (up2 (up2 m 9 t 0) 10 t 0)).1, (f_m_come t (m 2 0) (up2 (up2 m 9 t 0) 10 t 0)).2)
theorem i_m_head (t : Nat) (ht : t < 4) (m : CS) (hI : InvM m) : InvM (f_m_head t m).2 := by
  unfold f_m_head
  exact (i_m_come t ht (m 2 0) (hI 2 _ rfl) (up2 (up2 m 9 t 0) 10 t 0) (InvM.upo (InvM.upi hI vp0) rfl))
set_option maxRecDepth 100000 in
set_option maxHeartbeats 4000000 in
theorem k_m_head (l : Launch) (D : va_G) (K : Nat → ClassId) (base : Nat) (Y : Nat → Nat) (t : Nat) (ht : t < 4) (m : CS) (hI : InvM m) : CtI l D K base yM_head cM_head 2 .int (rmD 1) [.ref (Y 0), .int (nI t)] (mW Y K m) (f_m_head t m).1 (mW Y K (f_m_head t m).2) := by
  refine CtI.enter (by decide) (Nat.le_of_ble_eq_true rfl) ?_
  intro κ A Q F hE
  show G κ l (rmD 1) A Q D 2 0 0 (mW Y K m) 0 [(0, .ref (Y 0)), (1, .int (nI t))] []
  refine G.aload_n 0 F dM_head_0 rfl rfl ?_
  refine G.gM 13 F (by decide) flM_38 rfl dM_head_1 ?_
  refine G.iload_n 1 F dM_head_4 rfl rfl ?_
  refine G.iconst 0 F dM_head_5 (by decide) ?_
  refine G.stMn 9 F (by decide) rfl (k := t) rfl ht dM_head_6 ?_
  refine G.aload_n 0 F dM_head_7 rfl rfl ?_
  refine G.gM 14 F (by decide) flM_41 rfl dM_head_8 ?_
  refine G.iload_n 1 F dM_head_11 rfl rfl ?_
  refine G.iconst 0 F dM_head_12 (by decide) ?_
  refine G.stMn 10 F (by decide) rfl (k := t) rfl ht dM_head_13 ?_
  refine G.aload_n 0 F dM_head_14 rfl rfl ?_
  refine G.iload_n 1 F dM_head_15 rfl rfl ?_
  refine G.aload_n 0 F dM_head_16 rfl rfl ?_
  refine G.gM 6 F (by decide) flM_16 rfl dM_head_17 ?_
  refine G.iconst 0 F dM_head_20 (by decide) ?_
  refine G.ldMn 2 F (by decide) rfl (k := 0) rfl (by decide) dM_head_21 ?_
  refine G.tope (y := m 2 0) ((up2_f _ _ _ _ (by decide)).trans (up2_f _ _ _ _ (by decide))) ?_
  refine G.calli F (k_m_come l D K base Y t ht (m 2 0) (hI 2 _ rfl) (up2 (up2 m 9 t 0) 10 t 0) (InvM.upo (InvM.upi hI vp0) rfl)) ckM_99 mW_m rfl rfl ⟨rfl, rfl⟩ ⟨by decide, by decide⟩ ⟨Nat.zero_le _, Nat.zero_le _⟩ rfl rfl (Nat.le_of_ble_eq_true rfl) dM_head_22 ?_
  have hr9 : f_m_head t m = ((f_m_come t (m 2 0) (up2 (up2 m 9 t 0) 10 t 0)).1, (f_m_come t (m 2 0) (up2 (up2 m 9 t 0) 10 t 0)).2) := rfl
  exact G.st (congrArg (fun z : Int32 × CS => mW Y K z.2) hr9) (hE _ _ ((f_m_come t (m 2 0) (up2 (up2 m 9 t 0) 10 t 0)).1) dM_head_25 rfl (congrArg Prod.fst hr9).symm)

def f_m_read (t : Nat) (m : CS) : Int32 × CS := (if (f_m_look (m 11 t) (m 12 t) m) 3 ((m 11 t).toNatClampNeg) = 0 then (if (f_m_look (m 11 t) (m 12 t) m) 1 ((m 11 t).toNatClampNeg) < (f_m_look (m 11 t) (m 12 t) m) 8 t then ((f_m_come t ((f_m_look (m 11 t) (m 12 t) m) 2 ((m 11 t).toNatClampNeg)) (up2 (up2 (up2 (f_m_look (m 11 t) (m 12 t) m) 13 t ((f_m_look (m 11 t) (m 12 t) m) 2 ((m 11 t).toNatClampNeg))) 9 t (m 11 t)) 10 t ((f_m_look (m 11 t) (m 12 t) m) 12 t))).1, (f_m_come t ((f_m_look (m 11 t) (m 12 t) m) 2 ((m 11 t).toNatClampNeg)) (up2 (up2 (up2 (f_m_look (m 11 t) (m 12 t) m) 13 t ((f_m_look (m 11 t) (m 12 t) m) 2 ((m 11 t).toNatClampNeg))) 9 t (m 11 t)) 10 t ((f_m_look (m 11 t) (m 12 t) m) 12 t))).2) else (if (f_m_look (m 11 t) (m 12 t) m) 1 ((m 11 t).toNatClampNeg) = (f_m_look (m 11 t) (m 12 t) m) 8 t then (7, (up2 (up2 (f_m_look (m 11 t) (m 12 t) m) 13 t ((f_m_look (m 11 t) (m 12 t) m) 2 ((m 11 t).toNatClampNeg))) 14 t 1)) else (7, (up2 (up2 (f_m_look (m 11 t) (m 12 t) m) 13 t ((f_m_look (m 11 t) (m 12 t) m) 2 ((m 11 t).toNatClampNeg))) 14 t 0)))) else (6, (up2 (f_m_look (m 11 t) (m 12 t) m) 13 t ((f_m_look (m 11 t) (m 12 t) m) 2 ((m 11 t).toNatClampNeg)))))
theorem i_m_read (t : Nat) (ht : t < 4) (m : CS) (hI : InvM m) : InvM (f_m_read t m).2 := by
  unfold f_m_read
  exact (ite_m2 (fun h1 => (ite_m2 (fun h2 => (i_m_come t ht ((f_m_look (m 11 t) (m 12 t) m) 2 ((m 11 t).toNatClampNeg)) ((i_m_look (m 11 t) (hI 11 _ rfl) (m 12 t) m hI) 2 _ rfl) (up2 (up2 (up2 (f_m_look (m 11 t) (m 12 t) m) 13 t ((f_m_look (m 11 t) (m 12 t) m) 2 ((m 11 t).toNatClampNeg))) 9 t (m 11 t)) 10 t ((f_m_look (m 11 t) (m 12 t) m) 12 t)) (InvM.upo (InvM.upi (InvM.upi (i_m_look (m 11 t) (hI 11 _ rfl) (m 12 t) m hI) ((i_m_look (m 11 t) (hI 11 _ rfl) (m 12 t) m hI) 2 _ rfl)) (hI 11 _ rfl)) rfl))) (fun h2 => (ite_m2 (fun h3 => (InvM.upo (InvM.upi (i_m_look (m 11 t) (hI 11 _ rfl) (m 12 t) m hI) ((i_m_look (m 11 t) (hI 11 _ rfl) (m 12 t) m hI) 2 _ rfl)) rfl)) (fun h3 => (InvM.upo (InvM.upi (i_m_look (m 11 t) (hI 11 _ rfl) (m 12 t) m hI) ((i_m_look (m 11 t) (hI 11 _ rfl) (m 12 t) m hI) 2 _ rfl)) rfl)))))) (fun h1 => (InvM.upi (i_m_look (m 11 t) (hI 11 _ rfl) (m 12 t) m hI) ((i_m_look (m 11 t) (hI 11 _ rfl) (m 12 t) m hI) 2 _ rfl))))
set_option maxRecDepth 100000 in
set_option maxHeartbeats 4000000 in
theorem k_m_read (l : Launch) (D : va_G) (K : Nat → ClassId) (base : Nat) (Y : Nat → Nat) (t : Nat) (ht : t < 4) (m : CS) (hI : InvM m) : CtI l D K base yM_read cM_read 3 .int (rmD 1) [.ref (Y 0), .int (nI t)] (mW Y K m) (f_m_read t m).1 (mW Y K (f_m_read t m).2) := by
  refine CtI.enter (by decide) (Nat.le_of_ble_eq_true rfl) ?_
  intro κ A Q F hE
  show G κ l (rmD 1) A Q D 3 0 0 (mW Y K m) 0 [(0, .ref (Y 0)), (1, .int (nI t))] []
  refine G.aload_n 0 F dM_read_0 rfl rfl ?_
  refine G.gM 15 F (by decide) flM_44 rfl dM_read_1 ?_
  refine G.iload_n 1 F dM_read_4 rfl rfl ?_
  refine G.ldMn 11 F (by decide) rfl (k := t) rfl ht dM_read_5 ?_
  refine G.istore_nN F dM_read_6 rfl (by decide) rfl ?_
  refine G.aload_n 1 F dM_read_7 rfl rfl ?_
  refine G.iload_n 0 F dM_read_8 rfl rfl ?_
  refine G.aload_n 1 F dM_read_9 rfl rfl ?_
  refine G.gM 16 F (by decide) flM_47 rfl dM_read_10 ?_
  refine G.iload_n 2 F dM_read_13 rfl rfl ?_
  refine G.ldMn 12 F (by decide) rfl (k := t) rfl ht dM_read_14 ?_
  refine G.callv F (k_m_look l D K base Y (m 11 t) (hI 11 _ rfl) (m 12 t) m hI) ckM_95 mW_m rfl rfl ⟨rfl, rfl⟩ ⟨by decide, by decide⟩ ⟨Nat.zero_le _, Nat.zero_le _⟩ rfl rfl (Nat.le_of_ble_eq_true rfl) dM_read_15 ?_
  refine G.aload_n 1 F dM_read_18 rfl rfl ?_
  refine G.gM 17 F (by decide) flM_50 rfl dM_read_19 ?_
  refine G.iload_n 2 F dM_read_22 rfl rfl ?_
  refine G.aload_n 1 F dM_read_23 rfl rfl ?_
  refine G.gM 6 F (by decide) flM_16 rfl dM_read_24 ?_
  refine G.iload_n 0 F dM_read_27 rfl rfl ?_
  refine G.ldM 2 F (by decide) rfl (hI 11 _ rfl) dM_read_28 ?_
  refine G.stMn 13 F (by decide) rfl (k := t) rfl ht dM_read_29 ?_
  refine G.aload_n 1 F dM_read_30 rfl rfl ?_
  refine G.gM 7 F (by decide) flM_19 rfl dM_read_31 ?_
  refine G.iload_n 0 F dM_read_34 rfl rfl ?_
  refine G.ldMz 3 F (by decide) rfl (hI 11 _ rfl) dM_read_35 ?_
  refine G.tope (y := (f_m_look (m 11 t) (m 12 t) m) 3 ((m 11 t).toNatClampNeg)) (up2_f _ _ _ _ (by decide)) ?_
  refine G.if_eq 42 F dM_read_36 rfl (fun h1 => ?_) (fun h1 => ?_)
  · skip
    refine G.aload_n 1 F dM_read_42 rfl rfl ?_
    refine G.gM 5 F (by decide) flM_13 rfl dM_read_43 ?_
    refine G.iload_n 0 F dM_read_46 rfl rfl ?_
    refine G.ldM 1 F (by decide) rfl (hI 11 _ rfl) dM_read_47 ?_
    refine G.tope (y := (f_m_look (m 11 t) (m 12 t) m) 1 ((m 11 t).toNatClampNeg)) (up2_f _ _ _ _ (by decide)) ?_
    refine G.aload_n 1 F dM_read_48 rfl rfl ?_
    refine G.gM 12 F (by decide) flM_35 rfl dM_read_49 ?_
    refine G.iload_n 2 F dM_read_52 rfl rfl ?_
    refine G.ldMn 8 F (by decide) rfl (k := t) rfl ht dM_read_53 ?_
    refine G.tope (y := (f_m_look (m 11 t) (m 12 t) m) 8 t) (up2_f _ _ _ _ (by decide)) ?_
    refine G.icmp_lt 86 F dM_read_54 rfl (fun h2 => ?_) (fun h2 => ?_)
    · skip
      refine G.aload_n 1 F dM_read_86 rfl rfl ?_
      refine G.gM 13 F (by decide) flM_38 rfl dM_read_87 ?_
      refine G.iload_n 2 F dM_read_90 rfl rfl ?_
      refine G.iload_n 0 F dM_read_91 rfl rfl ?_
      refine G.stMn 9 F (by decide) rfl (k := t) rfl ht dM_read_92 ?_
      refine G.aload_n 1 F dM_read_93 rfl rfl ?_
      refine G.gM 14 F (by decide) flM_41 rfl dM_read_94 ?_
      refine G.iload_n 2 F dM_read_97 rfl rfl ?_
      refine G.aload_n 1 F dM_read_98 rfl rfl ?_
      refine G.gM 16 F (by decide) flM_47 rfl dM_read_99 ?_
      refine G.iload_n 2 F dM_read_102 rfl rfl ?_
      refine G.ldMn 12 F (by decide) rfl (k := t) rfl ht dM_read_103 ?_
      refine G.tope (y := (f_m_look (m 11 t) (m 12 t) m) 12 t) ((up2_f _ _ _ _ (by decide)).trans (up2_f _ _ _ _ (by decide))) ?_
      refine G.stMn 10 F (by decide) rfl (k := t) rfl ht dM_read_104 ?_
      refine G.aload_n 1 F dM_read_105 rfl rfl ?_
      refine G.iload_n 2 F dM_read_106 rfl rfl ?_
      refine G.aload_n 1 F dM_read_107 rfl rfl ?_
      refine G.gM 17 F (by decide) flM_50 rfl dM_read_108 ?_
      refine G.iload_n 2 F dM_read_111 rfl rfl ?_
      refine G.ldMn 13 F (by decide) rfl (k := t) rfl ht dM_read_112 ?_
      refine G.tope (y := (f_m_look (m 11 t) (m 12 t) m) 2 ((m 11 t).toNatClampNeg)) ((up2_f _ _ _ _ (by decide)).trans ((up2_f _ _ _ _ (by decide)).trans (up2_eq _ _ _ _))) ?_
      refine G.calli F (k_m_come l D K base Y t ht ((f_m_look (m 11 t) (m 12 t) m) 2 ((m 11 t).toNatClampNeg)) ((i_m_look (m 11 t) (hI 11 _ rfl) (m 12 t) m hI) 2 _ rfl) (up2 (up2 (up2 (f_m_look (m 11 t) (m 12 t) m) 13 t ((f_m_look (m 11 t) (m 12 t) m) 2 ((m 11 t).toNatClampNeg))) 9 t (m 11 t)) 10 t ((f_m_look (m 11 t) (m 12 t) m) 12 t)) (InvM.upo (InvM.upi (InvM.upi (i_m_look (m 11 t) (hI 11 _ rfl) (m 12 t) m hI) ((i_m_look (m 11 t) (hI 11 _ rfl) (m 12 t) m hI) 2 _ rfl)) (hI 11 _ rfl)) rfl)) ckM_99 mW_m rfl rfl ⟨rfl, rfl⟩ ⟨by decide, by decide⟩ ⟨Nat.zero_le _, Nat.zero_le _⟩ rfl rfl (Nat.le_of_ble_eq_true rfl) dM_read_113 ?_
      have hr9 : f_m_read t m = ((f_m_come t ((f_m_look (m 11 t) (m 12 t) m) 2 ((m 11 t).toNatClampNeg)) (up2 (up2 (up2 (f_m_look (m 11 t) (m 12 t) m) 13 t ((f_m_look (m 11 t) (m 12 t) m) 2 ((m 11 t).toNatClampNeg))) 9 t (m 11 t)) 10 t ((f_m_look (m 11 t) (m 12 t) m) 12 t))).1, (f_m_come t ((f_m_look (m 11 t) (m 12 t) m) 2 ((m 11 t).toNatClampNeg)) (up2 (up2 (up2 (f_m_look (m 11 t) (m 12 t) m) 13 t ((f_m_look (m 11 t) (m 12 t) m) 2 ((m 11 t).toNatClampNeg))) 9 t (m 11 t)) 10 t ((f_m_look (m 11 t) (m 12 t) m) 12 t))).2) := (if_pos h1).trans (if_pos h2)
      exact G.st (congrArg (fun z : Int32 × CS => mW Y K z.2) hr9) (hE _ _ ((f_m_come t ((f_m_look (m 11 t) (m 12 t) m) 2 ((m 11 t).toNatClampNeg)) (up2 (up2 (up2 (f_m_look (m 11 t) (m 12 t) m) 13 t ((f_m_look (m 11 t) (m 12 t) m) 2 ((m 11 t).toNatClampNeg))) 9 t (m 11 t)) 10 t ((f_m_look (m 11 t) (m 12 t) m) 12 t))).1) dM_read_116 rfl (congrArg Prod.fst hr9).symm)
    · skip
      refine G.aload_n 1 F dM_read_57 rfl rfl ?_
      refine G.gM 18 F (by decide) flM_53 rfl dM_read_58 ?_
      refine G.iload_n 2 F dM_read_61 rfl rfl ?_
      refine G.aload_n 1 F dM_read_62 rfl rfl ?_
      refine G.gM 5 F (by decide) flM_13 rfl dM_read_63 ?_
      refine G.iload_n 0 F dM_read_66 rfl rfl ?_
      refine G.ldM 1 F (by decide) rfl (hI 11 _ rfl) dM_read_67 ?_
      refine G.tope (y := (f_m_look (m 11 t) (m 12 t) m) 1 ((m 11 t).toNatClampNeg)) (up2_f _ _ _ _ (by decide)) ?_
      refine G.aload_n 1 F dM_read_68 rfl rfl ?_
      refine G.gM 12 F (by decide) flM_35 rfl dM_read_69 ?_
      refine G.iload_n 2 F dM_read_72 rfl rfl ?_
      refine G.ldMn 8 F (by decide) rfl (k := t) rfl ht dM_read_73 ?_
      refine G.tope (y := (f_m_look (m 11 t) (m 12 t) m) 8 t) (up2_f _ _ _ _ (by decide)) ?_
      refine G.icmp_ne 81 F dM_read_74 rfl (fun h3 => ?_) (fun h3 => ?_)
      · skip
        refine G.iconst 0 F dM_read_81 (by decide) ?_
        refine G.stMzn 14 F (by decide) rfl rfl (k := t) rfl ht dM_read_82 ?_
        refine G.bipush 7 F dM_read_83 (by decide) ?_
        have hr9 : f_m_read t m = (7, (up2 (up2 (f_m_look (m 11 t) (m 12 t) m) 13 t ((f_m_look (m 11 t) (m 12 t) m) 2 ((m 11 t).toNatClampNeg))) 14 t 0)) := (if_pos h1).trans ((if_neg h2).trans (if_neg h3))
        exact G.st (congrArg (fun z : Int32 × CS => mW Y K z.2) hr9) (hE _ _ 7 dM_read_85 rfl (congrArg Prod.fst hr9).symm)
      · skip
        refine G.iconst 1 F dM_read_77 (by decide) ?_
        refine G.goto 82 F dM_read_78 rfl ?_
        refine G.stMzn 14 F (by decide) rfl rfl (k := t) rfl ht dM_read_82 ?_
        refine G.bipush 7 F dM_read_83 (by decide) ?_
        have hr9 : f_m_read t m = (7, (up2 (up2 (f_m_look (m 11 t) (m 12 t) m) 13 t ((f_m_look (m 11 t) (m 12 t) m) 2 ((m 11 t).toNatClampNeg))) 14 t 1)) := (if_pos h1).trans ((if_neg h2).trans (if_pos h3))
        exact G.st (congrArg (fun z : Int32 × CS => mW Y K z.2) hr9) (hE _ _ 7 dM_read_85 rfl (congrArg Prod.fst hr9).symm)
  · skip
    refine G.bipush 6 F dM_read_39 (by decide) ?_
    have hr9 : f_m_read t m = (6, (up2 (f_m_look (m 11 t) (m 12 t) m) 13 t ((f_m_look (m 11 t) (m 12 t) m) 2 ((m 11 t).toNatClampNeg)))) := (if_neg h1)
    exact G.st (congrArg (fun z : Int32 × CS => mW Y K z.2) hr9) (hE _ _ 6 dM_read_41 rfl (congrArg Prod.fst hr9).symm)

def f_m_remove (t : Nat) (m : CS) : Int32 × CS := (if m 14 t = 0 then (9, (up2 m 16 t 0)) else (if (f_m_look (m 11 t) (m 12 t) m) 2 ((m 11 t).toNatClampNeg) = (f_m_look (m 11 t) (m 12 t) m) 13 t then (if (f_m_look (m 11 t) (m 12 t) m) 3 ((m 11 t).toNatClampNeg) = 0 then (10, (up2 (f_m_look (m 11 t) (m 12 t) m) 3 ((m 11 t).toNatClampNeg) 1)) else (2, (f_m_look (m 11 t) (m 12 t) m))) else (2, (f_m_look (m 11 t) (m 12 t) m))))
theorem i_m_remove (t : Nat) (ht : t < 4) (m : CS) (hI : InvM m) : InvM (f_m_remove t m).2 := by
  unfold f_m_remove
  exact (ite_m2 (fun h1 => (InvM.upo hI rfl)) (fun h1 => (ite_m2 (fun h2 => (ite_m2 (fun h3 => (InvM.upo (i_m_look (m 11 t) (hI 11 _ rfl) (m 12 t) m hI) rfl)) (fun h3 => (i_m_look (m 11 t) (hI 11 _ rfl) (m 12 t) m hI)))) (fun h2 => (i_m_look (m 11 t) (hI 11 _ rfl) (m 12 t) m hI)))))
set_option maxRecDepth 100000 in
set_option maxHeartbeats 4000000 in
theorem k_m_remove (l : Launch) (D : va_G) (K : Nat → ClassId) (base : Nat) (Y : Nat → Nat) (t : Nat) (ht : t < 4) (m : CS) (hI : InvM m) : CtI l D K base yM_remove cM_remove 3 .int (rmD 1) [.ref (Y 0), .int (nI t)] (mW Y K m) (f_m_remove t m).1 (mW Y K (f_m_remove t m).2) := by
  refine CtI.enter (by decide) (Nat.le_of_ble_eq_true rfl) ?_
  intro κ A Q F hE
  show G κ l (rmD 1) A Q D 3 0 0 (mW Y K m) 0 [(0, .ref (Y 0)), (1, .int (nI t))] []
  refine G.aload_n 0 F dM_remove_0 rfl rfl ?_
  refine G.gM 18 F (by decide) flM_53 rfl dM_remove_1 ?_
  refine G.iload_n 1 F dM_remove_4 rfl rfl ?_
  refine G.ldMzn 14 F (by decide) rfl (k := t) rfl ht dM_remove_5 ?_
  refine G.if_ne 19 F dM_remove_6 rfl (fun h1 => ?_) (fun h1 => ?_)
  · skip
    refine G.aload_n 0 F dM_remove_19 rfl rfl ?_
    refine G.gM 15 F (by decide) flM_44 rfl dM_remove_20 ?_
    refine G.iload_n 1 F dM_remove_23 rfl rfl ?_
    refine G.ldMn 11 F (by decide) rfl (k := t) rfl ht dM_remove_24 ?_
    refine G.istore_nN F dM_remove_25 rfl (by decide) rfl ?_
    refine G.aload_n 1 F dM_remove_26 rfl rfl ?_
    refine G.iload_n 0 F dM_remove_27 rfl rfl ?_
    refine G.aload_n 1 F dM_remove_28 rfl rfl ?_
    refine G.gM 16 F (by decide) flM_47 rfl dM_remove_29 ?_
    refine G.iload_n 2 F dM_remove_32 rfl rfl ?_
    refine G.ldMn 12 F (by decide) rfl (k := t) rfl ht dM_remove_33 ?_
    refine G.callv F (k_m_look l D K base Y (m 11 t) (hI 11 _ rfl) (m 12 t) m hI) ckM_95 mW_m rfl rfl ⟨rfl, rfl⟩ ⟨by decide, by decide⟩ ⟨Nat.zero_le _, Nat.zero_le _⟩ rfl rfl (Nat.le_of_ble_eq_true rfl) dM_remove_34 ?_
    refine G.aload_n 1 F dM_remove_37 rfl rfl ?_
    refine G.gM 6 F (by decide) flM_16 rfl dM_remove_38 ?_
    refine G.iload_n 0 F dM_remove_41 rfl rfl ?_
    refine G.ldM 2 F (by decide) rfl (hI 11 _ rfl) dM_remove_42 ?_
    refine G.aload_n 1 F dM_remove_43 rfl rfl ?_
    refine G.gM 17 F (by decide) flM_50 rfl dM_remove_44 ?_
    refine G.iload_n 2 F dM_remove_47 rfl rfl ?_
    refine G.ldMn 13 F (by decide) rfl (k := t) rfl ht dM_remove_48 ?_
    refine G.icmp_ne 61 F dM_remove_49 rfl (fun h2 => ?_) (fun h2 => ?_)
    · skip
      refine G.iconst 2 F dM_remove_61 (by decide) ?_
      have hr9 : f_m_remove t m = (2, (f_m_look (m 11 t) (m 12 t) m)) := (if_neg h1).trans (if_neg h2)
      exact G.st (congrArg (fun z : Int32 × CS => mW Y K z.2) hr9) (hE _ _ 2 dM_remove_62 rfl (congrArg Prod.fst hr9).symm)
    · skip
      refine G.aload_n 1 F dM_remove_52 rfl rfl ?_
      refine G.gM 7 F (by decide) flM_19 rfl dM_remove_53 ?_
      refine G.iload_n 0 F dM_remove_56 rfl rfl ?_
      refine G.ldMz 3 F (by decide) rfl (hI 11 _ rfl) dM_remove_57 ?_
      refine G.if_eq 63 F dM_remove_58 rfl (fun h3 => ?_) (fun h3 => ?_)
      · skip
        refine G.aload_n 1 F dM_remove_63 rfl rfl ?_
        refine G.gM 7 F (by decide) flM_19 rfl dM_remove_64 ?_
        refine G.iload_n 0 F dM_remove_67 rfl rfl ?_
        refine G.iconst 1 F dM_remove_68 (by decide) ?_
        refine G.stMz 3 F (by decide) rfl rfl (hI 11 _ rfl) dM_remove_69 ?_
        refine G.bipush 10 F dM_remove_70 (by decide) ?_
        have hr9 : f_m_remove t m = (10, (up2 (f_m_look (m 11 t) (m 12 t) m) 3 ((m 11 t).toNatClampNeg) 1)) := (if_neg h1).trans ((if_pos h2).trans (if_pos h3))
        exact G.st (congrArg (fun z : Int32 × CS => mW Y K z.2) hr9) (hE _ _ 10 dM_remove_72 rfl (congrArg Prod.fst hr9).symm)
      · skip
        refine G.iconst 2 F dM_remove_61 (by decide) ?_
        have hr9 : f_m_remove t m = (2, (f_m_look (m 11 t) (m 12 t) m)) := (if_neg h1).trans ((if_pos h2).trans (if_neg h3))
        exact G.st (congrArg (fun z : Int32 × CS => mW Y K z.2) hr9) (hE _ _ 2 dM_remove_62 rfl (congrArg Prod.fst hr9).symm)
  · skip
    refine G.aload_n 0 F dM_remove_9 rfl rfl ?_
    refine G.gM 20 F (by decide) flM_59 rfl dM_remove_10 ?_
    refine G.iload_n 1 F dM_remove_13 rfl rfl ?_
    refine G.iconst 0 F dM_remove_14 (by decide) ?_
    refine G.stMn 16 F (by decide) rfl (k := t) rfl ht dM_remove_15 ?_
    refine G.bipush 9 F dM_remove_16 (by decide) ?_
    have hr9 : f_m_remove t m = (9, (up2 m 16 t 0)) := (if_pos h1)
    exact G.st (congrArg (fun z : Int32 × CS => mW Y K z.2) hr9) (hE _ _ 9 dM_remove_18 rfl (congrArg Prod.fst hr9).symm)

def fl_m_insert_49 (t : Nat) : Nat → Nat → CS → Int32 × CS
  | 0, _, m9 => (if m9 15 t = 0 then (9, (up2 m9 16 t 2)) else (8, (f_m_link (m9 15 t) (m9 11 t) (up2 m9 1 ((m9 15 t).toNatClampNeg) (m9 8 t)))))
  | n + 1, k, m9 => (if m9 15 t = 0 then (if m9 0 k = 0 then (fl_m_insert_49 t n (k + 1) (up2 (up2 (up2 m9 15 t (nI k)) 0 k 1) 4 k ((m9 4 k) + 1))) else (fl_m_insert_49 t n (k + 1) m9)) else (if m9 15 t = 0 then (9, (up2 m9 16 t 2)) else (8, (f_m_link (m9 15 t) (m9 11 t) (up2 m9 1 ((m9 15 t).toNatClampNeg) (m9 8 t))))))
def f_m_insert (t : Nat) (m : CS) : Int32 × CS := (if m 14 t = 0 then (fl_m_insert_49 t 20 1 m) else (if m 15 t ≤ 0 then (9, (up2 m 16 t 0)) else (9, (up2 (up2 (up2 m 0 ((m 15 t).toNatClampNeg) 0) 15 t 0) 16 t 0))))
theorem i_fl_m_insert_49 (t : Nat) (ht : t < 4) : ∀ (n k : Nat) (m9 : CS), k + n = 21 → InvM m9 → InvM (fl_m_insert_49 t n k m9).2 := by
  intro n
  induction n with
  | zero =>
    intro k m9 hkn hI9
    exact (ite_m2 (fun h2 => (InvM.upo hI9 rfl)) (fun h2 => (i_m_link (m9 15 t) (hI9 15 _ rfl) (m9 11 t) (hI9 11 _ rfl) (up2 m9 1 ((m9 15 t).toNatClampNeg) (m9 8 t)) (InvM.upo hI9 rfl))))
  | succ n ih =>
    intro k m9 hkn hI9
    have hk : k < 21 := by omega
    unfold fl_m_insert_49
    exact (ite_m2 (fun h3 => (ite_m2 (fun h5 => (ih (k + 1) _ (by omega) (InvM.upo (InvM.upo (InvM.upi hI9 (vp_in_nI (Nat.lt_of_lt_of_le hk (by decide)) (by decide))) rfl) rfl))) (fun h5 => (ih (k + 1) _ (by omega) hI9)))) (fun h3 => (ite_m2 (fun h4 => (InvM.upo hI9 rfl)) (fun h4 => (i_m_link (m9 15 t) (hI9 15 _ rfl) (m9 11 t) (hI9 11 _ rfl) (up2 m9 1 ((m9 15 t).toNatClampNeg) (m9 8 t)) (InvM.upo hI9 rfl))))))
theorem i_m_insert (t : Nat) (ht : t < 4) (m : CS) (hI : InvM m) : InvM (f_m_insert t m).2 := by
  unfold f_m_insert
  exact (ite_m2 (fun h1 => (i_fl_m_insert_49 t ht 20 1 _ (by decide) hI)) (fun h1 => (ite_m2 (fun h6 => (InvM.upo hI rfl)) (fun h6 => (InvM.upo (InvM.upi (InvM.upo hI rfl) vp0) rfl)))))
set_option maxRecDepth 100000 in
set_option maxHeartbeats 4000000 in
theorem k_m_insert (l : Launch) (D : va_G) (K : Nat → ClassId) (base : Nat) (Y : Nat → Nat) (t : Nat) (ht : t < 4) (m : CS) (hI : InvM m) : CtI l D K base yM_insert cM_insert 3 .int (rmD 1) [.ref (Y 0), .int (nI t)] (mW Y K m) (f_m_insert t m).1 (mW Y K (f_m_insert t m).2) := by
  refine CtI.enter (by decide) (Nat.le_of_ble_eq_true rfl) ?_
  intro κ A Q F hE
  show G κ l (rmD 1) A Q D 3 0 0 (mW Y K m) 0 [(0, .ref (Y 0)), (1, .int (nI t))] []
  have hloop49 : ∀ (n k : Nat) (m9 : CS), k + n = 21 → InvM m9 → f_m_insert t m = fl_m_insert_49 t n k m9 → G κ l (rmD 1) A Q D 3 0 0 (mW Y K m9) 49 [(2, .int (nI k)), (0, .ref (Y 0)), (1, .int (nI t))] [] := by
    intro n
    induction n with
    | zero =>
      intro k m9 hkn hI9 hρ
      obtain rfl : k = 21 := by omega
      refine G.iload_n 0 F dM_insert_49 rfl rfl ?_
      refine G.bipush 20 F dM_insert_50 (by decide) ?_
      refine G.icmp_gt 103 F dM_insert_52 rfl (fun _ => ?_) (fun h9 => absurd (by decide) h9)
      refine G.aload_n 1 F dM_insert_103 rfl rfl ?_
      refine G.gM 19 F (by decide) flM_56 rfl dM_insert_104 ?_
      refine G.iload_n 2 F dM_insert_107 rfl rfl ?_
      refine G.ldMn 15 F (by decide) rfl (k := t) rfl ht dM_insert_108 ?_
      refine G.if_ne 122 F dM_insert_109 rfl (fun h2 => ?_) (fun h2 => ?_)
      · skip
        refine G.aload_n 1 F dM_insert_122 rfl rfl ?_
        refine G.gM 5 F (by decide) flM_13 rfl dM_insert_123 ?_
        refine G.aload_n 1 F dM_insert_126 rfl rfl ?_
        refine G.gM 19 F (by decide) flM_56 rfl dM_insert_127 ?_
        refine G.iload_n 2 F dM_insert_130 rfl rfl ?_
        refine G.ldMn 15 F (by decide) rfl (k := t) rfl ht dM_insert_131 ?_
        refine G.aload_n 1 F dM_insert_132 rfl rfl ?_
        refine G.gM 12 F (by decide) flM_35 rfl dM_insert_133 ?_
        refine G.iload_n 2 F dM_insert_136 rfl rfl ?_
        refine G.ldMn 8 F (by decide) rfl (k := t) rfl ht dM_insert_137 ?_
        refine G.stM 1 F (by decide) rfl (hI9 15 _ rfl) dM_insert_138 ?_
        refine G.aload_n 1 F dM_insert_139 rfl rfl ?_
        refine G.aload_n 1 F dM_insert_140 rfl rfl ?_
        refine G.gM 19 F (by decide) flM_56 rfl dM_insert_141 ?_
        refine G.iload_n 2 F dM_insert_144 rfl rfl ?_
        refine G.ldMn 15 F (by decide) rfl (k := t) rfl ht dM_insert_145 ?_
        refine G.tope (y := m9 15 t) (up2_f _ _ _ _ (by decide)) ?_
        refine G.aload_n 1 F dM_insert_146 rfl rfl ?_
        refine G.gM 15 F (by decide) flM_44 rfl dM_insert_147 ?_
        refine G.iload_n 2 F dM_insert_150 rfl rfl ?_
        refine G.ldMn 11 F (by decide) rfl (k := t) rfl ht dM_insert_151 ?_
        refine G.tope (y := m9 11 t) (up2_f _ _ _ _ (by decide)) ?_
        refine G.iconst 0 F dM_insert_152 (by decide) ?_
        refine G.callv F (k_m_link l D K base Y (m9 15 t) (hI9 15 _ rfl) (m9 11 t) (hI9 11 _ rfl) (up2 m9 1 ((m9 15 t).toNatClampNeg) (m9 8 t)) (InvM.upo hI9 rfl)) ckM_110 mW_m rfl rfl ⟨rfl, rfl⟩ ⟨by decide, by decide⟩ ⟨Nat.zero_le _, Nat.zero_le _⟩ rfl rfl (Nat.le_of_ble_eq_true rfl) dM_insert_153 ?_
        refine G.bipush 8 F dM_insert_156 (by decide) ?_
        have hr9 : f_m_insert t m = (8, (f_m_link (m9 15 t) (m9 11 t) (up2 m9 1 ((m9 15 t).toNatClampNeg) (m9 8 t)))) := hρ.trans (if_neg h2)
        exact G.st (congrArg (fun z : Int32 × CS => mW Y K z.2) hr9) (hE _ _ 8 dM_insert_158 rfl (congrArg Prod.fst hr9).symm)
      · skip
        refine G.aload_n 1 F dM_insert_112 rfl rfl ?_
        refine G.gM 20 F (by decide) flM_59 rfl dM_insert_113 ?_
        refine G.iload_n 2 F dM_insert_116 rfl rfl ?_
        refine G.iconst 2 F dM_insert_117 (by decide) ?_
        refine G.stMn 16 F (by decide) rfl (k := t) rfl ht dM_insert_118 ?_
        refine G.bipush 9 F dM_insert_119 (by decide) ?_
        have hr9 : f_m_insert t m = (9, (up2 m9 16 t 2)) := hρ.trans (if_pos h2)
        exact G.st (congrArg (fun z : Int32 × CS => mW Y K z.2) hr9) (hE _ _ 9 dM_insert_121 rfl (congrArg Prod.fst hr9).symm)
    | succ n ih =>
      intro k m9 hkn hI9 hρ
      have hk : k < 21 := by omega
      refine G.iload_n 0 F dM_insert_49 rfl rfl ?_
      refine G.bipush 20 F dM_insert_50 (by decide) ?_
      refine G.icmp_gt 103 F dM_insert_52 rfl (fun h9 => absurd h9 (nI_nlt (a := 20) (Nat.le_of_lt_succ (Nat.lt_of_lt_of_le hk (by decide))) (by decide))) (fun _ => ?_)
      refine G.aload_n 1 F dM_insert_55 rfl rfl ?_
      refine G.gM 19 F (by decide) flM_56 rfl dM_insert_56 ?_
      refine G.iload_n 2 F dM_insert_59 rfl rfl ?_
      refine G.ldMn 15 F (by decide) rfl (k := t) rfl ht dM_insert_60 ?_
      refine G.if_ne 103 F dM_insert_61 rfl (fun h3 => ?_) (fun h3 => ?_)
      · skip
        refine G.aload_n 1 F dM_insert_103 rfl rfl ?_
        refine G.gM 19 F (by decide) flM_56 rfl dM_insert_104 ?_
        refine G.iload_n 2 F dM_insert_107 rfl rfl ?_
        refine G.ldMn 15 F (by decide) rfl (k := t) rfl ht dM_insert_108 ?_
        refine G.if_ne 122 F dM_insert_109 rfl (fun h4 => ?_) (fun h4 => ?_)
        · skip
          refine G.aload_n 1 F dM_insert_122 rfl rfl ?_
          refine G.gM 5 F (by decide) flM_13 rfl dM_insert_123 ?_
          refine G.aload_n 1 F dM_insert_126 rfl rfl ?_
          refine G.gM 19 F (by decide) flM_56 rfl dM_insert_127 ?_
          refine G.iload_n 2 F dM_insert_130 rfl rfl ?_
          refine G.ldMn 15 F (by decide) rfl (k := t) rfl ht dM_insert_131 ?_
          refine G.aload_n 1 F dM_insert_132 rfl rfl ?_
          refine G.gM 12 F (by decide) flM_35 rfl dM_insert_133 ?_
          refine G.iload_n 2 F dM_insert_136 rfl rfl ?_
          refine G.ldMn 8 F (by decide) rfl (k := t) rfl ht dM_insert_137 ?_
          refine G.stM 1 F (by decide) rfl (hI9 15 _ rfl) dM_insert_138 ?_
          refine G.aload_n 1 F dM_insert_139 rfl rfl ?_
          refine G.aload_n 1 F dM_insert_140 rfl rfl ?_
          refine G.gM 19 F (by decide) flM_56 rfl dM_insert_141 ?_
          refine G.iload_n 2 F dM_insert_144 rfl rfl ?_
          refine G.ldMn 15 F (by decide) rfl (k := t) rfl ht dM_insert_145 ?_
          refine G.tope (y := m9 15 t) (up2_f _ _ _ _ (by decide)) ?_
          refine G.aload_n 1 F dM_insert_146 rfl rfl ?_
          refine G.gM 15 F (by decide) flM_44 rfl dM_insert_147 ?_
          refine G.iload_n 2 F dM_insert_150 rfl rfl ?_
          refine G.ldMn 11 F (by decide) rfl (k := t) rfl ht dM_insert_151 ?_
          refine G.tope (y := m9 11 t) (up2_f _ _ _ _ (by decide)) ?_
          refine G.iconst 0 F dM_insert_152 (by decide) ?_
          refine G.callv F (k_m_link l D K base Y (m9 15 t) (hI9 15 _ rfl) (m9 11 t) (hI9 11 _ rfl) (up2 m9 1 ((m9 15 t).toNatClampNeg) (m9 8 t)) (InvM.upo hI9 rfl)) ckM_110 mW_m rfl rfl ⟨rfl, rfl⟩ ⟨by decide, by decide⟩ ⟨Nat.zero_le _, Nat.zero_le _⟩ rfl rfl (Nat.le_of_ble_eq_true rfl) dM_insert_153 ?_
          refine G.bipush 8 F dM_insert_156 (by decide) ?_
          have hr9 : f_m_insert t m = (8, (f_m_link (m9 15 t) (m9 11 t) (up2 m9 1 ((m9 15 t).toNatClampNeg) (m9 8 t)))) := hρ.trans ((if_neg h3).trans (if_neg h4))
          exact G.st (congrArg (fun z : Int32 × CS => mW Y K z.2) hr9) (hE _ _ 8 dM_insert_158 rfl (congrArg Prod.fst hr9).symm)
        · skip
          refine G.aload_n 1 F dM_insert_112 rfl rfl ?_
          refine G.gM 20 F (by decide) flM_59 rfl dM_insert_113 ?_
          refine G.iload_n 2 F dM_insert_116 rfl rfl ?_
          refine G.iconst 2 F dM_insert_117 (by decide) ?_
          refine G.stMn 16 F (by decide) rfl (k := t) rfl ht dM_insert_118 ?_
          refine G.bipush 9 F dM_insert_119 (by decide) ?_
          have hr9 : f_m_insert t m = (9, (up2 m9 16 t 2)) := hρ.trans ((if_neg h3).trans (if_pos h4))
          exact G.st (congrArg (fun z : Int32 × CS => mW Y K z.2) hr9) (hE _ _ 9 dM_insert_121 rfl (congrArg Prod.fst hr9).symm)
      · skip
        refine G.aload_n 1 F dM_insert_64 rfl rfl ?_
        refine G.gM 4 F (by decide) flM_7 rfl dM_insert_65 ?_
        refine G.iload_n 0 F dM_insert_68 rfl rfl ?_
        refine G.ldMn 0 F (by decide) rfl (k := k) rfl hk dM_insert_69 ?_
        refine G.if_ne 97 F dM_insert_70 rfl (fun h5 => ?_) (fun h5 => ?_)
        · skip
          refine G.iinc 0 (nI (k + 1)) F dM_insert_97 rfl (nI_succ k).symm (by decide) rfl ?_
          refine G.goto 49 F dM_insert_100 rfl ?_
          exact ih (k + 1) _ (by omega) hI9 (hρ.trans ((if_pos h3).trans (if_neg h5)))
        · skip
          refine G.aload_n 1 F dM_insert_73 rfl rfl ?_
          refine G.gM 19 F (by decide) flM_56 rfl dM_insert_74 ?_
          refine G.iload_n 2 F dM_insert_77 rfl rfl ?_
          refine G.iload_n 0 F dM_insert_78 rfl rfl ?_
          refine G.stMn 15 F (by decide) rfl (k := t) rfl ht dM_insert_79 ?_
          refine G.aload_n 1 F dM_insert_80 rfl rfl ?_
          refine G.gM 4 F (by decide) flM_7 rfl dM_insert_81 ?_
          refine G.iload_n 0 F dM_insert_84 rfl rfl ?_
          refine G.iconst 1 F dM_insert_85 (by decide) ?_
          refine G.stMn 0 F (by decide) rfl (k := k) rfl hk dM_insert_86 ?_
          refine G.aload_n 1 F dM_insert_87 rfl rfl ?_
          refine G.gM 8 F (by decide) flM_23 rfl dM_insert_88 ?_
          refine G.iload_n 0 F dM_insert_91 rfl rfl ?_
          refine G.dup2 F dM_insert_92 rfl rfl ?_
          refine G.ldMn 4 F (by decide) rfl (k := k) rfl hk dM_insert_93 ?_
          refine G.tope (y := m9 4 k) ((up2_f _ _ _ _ (by decide)).trans (up2_f _ _ _ _ (by decide))) ?_
          refine G.iconst 1 F dM_insert_94 (by decide) ?_
          refine G.iadd F dM_insert_95 ?_
          refine G.stMn 4 F (by decide) rfl (k := k) rfl hk dM_insert_96 ?_
          refine G.iinc 0 (nI (k + 1)) F dM_insert_97 rfl (nI_succ k).symm (by decide) rfl ?_
          refine G.goto 49 F dM_insert_100 rfl ?_
          exact ih (k + 1) _ (by omega) (InvM.upo (InvM.upo (InvM.upi hI9 (vp_in_nI (Nat.lt_of_lt_of_le hk (by decide)) (by decide))) rfl) rfl) (hρ.trans ((if_pos h3).trans (if_pos h5)))
  refine G.aload_n 0 F dM_insert_0 rfl rfl ?_
  refine G.gM 18 F (by decide) flM_53 rfl dM_insert_1 ?_
  refine G.iload_n 1 F dM_insert_4 rfl rfl ?_
  refine G.ldMzn 14 F (by decide) rfl (k := t) rfl ht dM_insert_5 ?_
  refine G.if_eq 47 F dM_insert_6 rfl (fun h1 => ?_) (fun h1 => ?_)
  · skip
    refine G.iconst 1 F dM_insert_47 (by decide) ?_
    refine G.istore_nN F dM_insert_48 rfl (by decide) rfl ?_
    exact hloop49 20 1 _ (by decide) hI (if_pos h1)
  · skip
    refine G.aload_n 0 F dM_insert_9 rfl rfl ?_
    refine G.gM 19 F (by decide) flM_56 rfl dM_insert_10 ?_
    refine G.iload_n 1 F dM_insert_13 rfl rfl ?_
    refine G.ldMn 15 F (by decide) rfl (k := t) rfl ht dM_insert_14 ?_
    refine G.if_le 37 F dM_insert_15 rfl (fun h6 => ?_) (fun h6 => ?_)
    · skip
      refine G.aload_n 0 F dM_insert_37 rfl rfl ?_
      refine G.gM 20 F (by decide) flM_59 rfl dM_insert_38 ?_
      refine G.iload_n 1 F dM_insert_41 rfl rfl ?_
      refine G.iconst 0 F dM_insert_42 (by decide) ?_
      refine G.stMn 16 F (by decide) rfl (k := t) rfl ht dM_insert_43 ?_
      refine G.bipush 9 F dM_insert_44 (by decide) ?_
      have hr9 : f_m_insert t m = (9, (up2 m 16 t 0)) := (if_neg h1).trans (if_pos h6)
      exact G.st (congrArg (fun z : Int32 × CS => mW Y K z.2) hr9) (hE _ _ 9 dM_insert_46 rfl (congrArg Prod.fst hr9).symm)
    · skip
      refine G.aload_n 0 F dM_insert_18 rfl rfl ?_
      refine G.gM 4 F (by decide) flM_7 rfl dM_insert_19 ?_
      refine G.aload_n 0 F dM_insert_22 rfl rfl ?_
      refine G.gM 19 F (by decide) flM_56 rfl dM_insert_23 ?_
      refine G.iload_n 1 F dM_insert_26 rfl rfl ?_
      refine G.ldMn 15 F (by decide) rfl (k := t) rfl ht dM_insert_27 ?_
      refine G.iconst 0 F dM_insert_28 (by decide) ?_
      refine G.stM 0 F (by decide) rfl (hI 15 _ rfl) dM_insert_29 ?_
      refine G.aload_n 0 F dM_insert_30 rfl rfl ?_
      refine G.gM 19 F (by decide) flM_56 rfl dM_insert_31 ?_
      refine G.iload_n 1 F dM_insert_34 rfl rfl ?_
      refine G.iconst 0 F dM_insert_35 (by decide) ?_
      refine G.stMn 15 F (by decide) rfl (k := t) rfl ht dM_insert_36 ?_
      refine G.aload_n 0 F dM_insert_37 rfl rfl ?_
      refine G.gM 20 F (by decide) flM_59 rfl dM_insert_38 ?_
      refine G.iload_n 1 F dM_insert_41 rfl rfl ?_
      refine G.iconst 0 F dM_insert_42 (by decide) ?_
      refine G.stMn 16 F (by decide) rfl (k := t) rfl ht dM_insert_43 ?_
      refine G.bipush 9 F dM_insert_44 (by decide) ?_
      have hr9 : f_m_insert t m = (9, (up2 (up2 (up2 m 0 ((m 15 t).toNatClampNeg) 0) 15 t 0) 16 t 0)) := (if_neg h1).trans (if_neg h6)
      exact G.st (congrArg (fun z : Int32 × CS => mW Y K z.2) hr9) (hE _ _ 9 dM_insert_46 rfl (congrArg Prod.fst hr9).symm)

def f_m_beging (t : Nat) (o : Int32) (y : Int32) (m : CS) : CS := (if o < 0 then (up2 m 20 0 2) else (if 2 < o then (up2 m 20 0 2) else (if y < 0 then (up2 m 20 0 2) else (if y ≤ 31 then (if m 6 t = 0 then (up2 (up2 (up2 (up2 (up2 (up2 (up2 (up2 (up2 m 20 0 0) 7 t o) 8 t y) 9 t 0) 11 t 0) 13 t 0) 14 t 0) 15 t 0) 6 t 1) else (up2 m 20 0 3)) else (up2 m 20 0 2)))))
theorem i_m_beging (t : Nat) (ht : t < 4) (o : Int32) (y : Int32) (m : CS) (hI : InvM m) : InvM (f_m_beging t o y m) := by
  unfold f_m_beging
  exact (ite_m (fun h1 => (InvM.upo hI rfl)) (fun h1 => (ite_m (fun h2 => (InvM.upo hI rfl)) (fun h2 => (ite_m (fun h3 => (InvM.upo hI rfl)) (fun h3 => (ite_m (fun h4 => (ite_m (fun h5 => (InvM.upo (InvM.upi (InvM.upo (InvM.upi (InvM.upi (InvM.upi (InvM.upo (InvM.upo (InvM.upo hI rfl) rfl) rfl) vp0) vp0) vp0) rfl) vp0) rfl)) (fun h5 => (InvM.upo hI rfl)))) (fun h4 => (InvM.upo hI rfl)))))))))
set_option maxRecDepth 100000 in
set_option maxHeartbeats 4000000 in
theorem k_m_beging (l : Launch) (D : va_G) (K : Nat → ClassId) (base : Nat) (Y : Nat → Nat) (t : Nat) (ht : t < 4) (o : Int32) (y : Int32) (m : CS) (hI : InvM m) : CtV l D K base yM_begin cM_begin 4 (rmD 1) [.ref (Y 0), .int (nI t), .int o, .int y] (mW Y K m) (mW Y K (f_m_beging t o y m)) := by
  refine CtV.enter (by decide) (Nat.le_of_ble_eq_true rfl) ?_
  intro κ A Q F hE
  show G κ l (rmD 1) A Q D 4 0 0 (mW Y K m) 0 [(0, .ref (Y 0)), (1, .int (nI t)), (2, .int o), (3, .int y)] []
  refine G.aload_n 0 F dM_begin_0 rfl rfl ?_
  refine G.iload_n 1 F dM_begin_1 rfl rfl ?_
  refine G.callsi F (k_m_isThread l D K base Y (nI t) m hI) ckM_78 ⟨rfl, rfl⟩ ⟨by decide, by decide⟩ ⟨Nat.zero_le _, Nat.zero_le _⟩ rfl rfl (Nat.le_of_ble_eq_true rfl) dM_begin_2 ?_
  refine G.if_ne 12 F dM_begin_5 rfl (fun _ => ?_) (fun h9 => absurd h9 (isT ht m))
  refine G.iload_n 2 F dM_begin_12 rfl rfl ?_
  refine G.if_lt 31 F dM_begin_13 rfl (fun h1 => ?_) (fun h1 => ?_)
  · skip
    refine G.iconst 2 F dM_begin_31 (by decide) ?_
    refine G.goto 49 F dM_begin_32 rfl ?_
    refine G.pM 0 F (by decide) flM_75 dM_begin_49 ?_
    refine G.aload_n 0 F dM_begin_52 rfl rfl ?_
    refine G.gM 0 F (by decide) flM_75 rfl dM_begin_53 ?_
    refine G.tope (y := 2) (up2_eq _ _ _ _) ?_
    refine G.if_le 60 F dM_begin_56 rfl (fun h9 => absurd h9 (by decide)) (fun _ => ?_)
    exact G.st (congrArg (mW Y K) (if_pos h1)) (hE _ _ dM_begin_59)
  · skip
    refine G.iload_n 2 F dM_begin_16 rfl rfl ?_
    refine G.iconst 2 F dM_begin_17 (by decide) ?_
    refine G.icmp_gt 31 F dM_begin_18 rfl (fun h2 => ?_) (fun h2 => ?_)
    · skip
      refine G.iconst 2 F dM_begin_31 (by decide) ?_
      refine G.goto 49 F dM_begin_32 rfl ?_
      refine G.pM 0 F (by decide) flM_75 dM_begin_49 ?_
      refine G.aload_n 0 F dM_begin_52 rfl rfl ?_
      refine G.gM 0 F (by decide) flM_75 rfl dM_begin_53 ?_
      refine G.tope (y := 2) (up2_eq _ _ _ _) ?_
      refine G.if_le 60 F dM_begin_56 rfl (fun h9 => absurd h9 (by decide)) (fun _ => ?_)
      exact G.st (congrArg (mW Y K) ((if_neg h1).trans (if_pos h2))) (hE _ _ dM_begin_59)
    · skip
      refine G.iload_n 3 F dM_begin_21 rfl rfl ?_
      refine G.if_lt 31 F dM_begin_22 rfl (fun h3 => ?_) (fun h3 => ?_)
      · skip
        refine G.iconst 2 F dM_begin_31 (by decide) ?_
        refine G.goto 49 F dM_begin_32 rfl ?_
        refine G.pM 0 F (by decide) flM_75 dM_begin_49 ?_
        refine G.aload_n 0 F dM_begin_52 rfl rfl ?_
        refine G.gM 0 F (by decide) flM_75 rfl dM_begin_53 ?_
        refine G.tope (y := 2) (up2_eq _ _ _ _) ?_
        refine G.if_le 60 F dM_begin_56 rfl (fun h9 => absurd h9 (by decide)) (fun _ => ?_)
        exact G.st (congrArg (mW Y K) ((if_neg h1).trans ((if_neg h2).trans (if_pos h3)))) (hE _ _ dM_begin_59)
      · skip
        refine G.iload_n 3 F dM_begin_25 rfl rfl ?_
        refine G.bipush 31 F dM_begin_26 (by decide) ?_
        refine G.icmp_le 35 F dM_begin_28 rfl (fun h4 => ?_) (fun h4 => ?_)
        · skip
          refine G.aload_n 0 F dM_begin_35 rfl rfl ?_
          refine G.gM 10 F (by decide) flM_29 rfl dM_begin_36 ?_
          refine G.iload_n 1 F dM_begin_39 rfl rfl ?_
          refine G.ldMn 6 F (by decide) rfl (k := t) rfl ht dM_begin_40 ?_
          refine G.if_eq 48 F dM_begin_41 rfl (fun h5 => ?_) (fun h5 => ?_)
          · skip
            refine G.iconst 0 F dM_begin_48 (by decide) ?_
            refine G.pM 0 F (by decide) flM_75 dM_begin_49 ?_
            refine G.aload_n 0 F dM_begin_52 rfl rfl ?_
            refine G.gM 0 F (by decide) flM_75 rfl dM_begin_53 ?_
            refine G.tope (y := 0) (up2_eq _ _ _ _) ?_
            refine G.if_le 60 F dM_begin_56 rfl (fun _ => ?_) (fun h9 => absurd (by decide) h9)
            refine G.aload_n 0 F dM_begin_60 rfl rfl ?_
            refine G.gM 11 F (by decide) flM_32 rfl dM_begin_61 ?_
            refine G.iload_n 1 F dM_begin_64 rfl rfl ?_
            refine G.iload_n 2 F dM_begin_65 rfl rfl ?_
            refine G.stMn 7 F (by decide) rfl (k := t) rfl ht dM_begin_66 ?_
            refine G.aload_n 0 F dM_begin_67 rfl rfl ?_
            refine G.gM 12 F (by decide) flM_35 rfl dM_begin_68 ?_
            refine G.iload_n 1 F dM_begin_71 rfl rfl ?_
            refine G.iload_n 3 F dM_begin_72 rfl rfl ?_
            refine G.stMn 8 F (by decide) rfl (k := t) rfl ht dM_begin_73 ?_
            refine G.aload_n 0 F dM_begin_74 rfl rfl ?_
            refine G.gM 13 F (by decide) flM_38 rfl dM_begin_75 ?_
            refine G.iload_n 1 F dM_begin_78 rfl rfl ?_
            refine G.iconst 0 F dM_begin_79 (by decide) ?_
            refine G.stMn 9 F (by decide) rfl (k := t) rfl ht dM_begin_80 ?_
            refine G.aload_n 0 F dM_begin_81 rfl rfl ?_
            refine G.gM 15 F (by decide) flM_44 rfl dM_begin_82 ?_
            refine G.iload_n 1 F dM_begin_85 rfl rfl ?_
            refine G.iconst 0 F dM_begin_86 (by decide) ?_
            refine G.stMn 11 F (by decide) rfl (k := t) rfl ht dM_begin_87 ?_
            refine G.aload_n 0 F dM_begin_88 rfl rfl ?_
            refine G.gM 17 F (by decide) flM_50 rfl dM_begin_89 ?_
            refine G.iload_n 1 F dM_begin_92 rfl rfl ?_
            refine G.iconst 0 F dM_begin_93 (by decide) ?_
            refine G.stMn 13 F (by decide) rfl (k := t) rfl ht dM_begin_94 ?_
            refine G.aload_n 0 F dM_begin_95 rfl rfl ?_
            refine G.gM 18 F (by decide) flM_53 rfl dM_begin_96 ?_
            refine G.iload_n 1 F dM_begin_99 rfl rfl ?_
            refine G.iconst 0 F dM_begin_100 (by decide) ?_
            refine G.stMzn 14 F (by decide) rfl rfl (k := t) rfl ht dM_begin_101 ?_
            refine G.aload_n 0 F dM_begin_102 rfl rfl ?_
            refine G.gM 19 F (by decide) flM_56 rfl dM_begin_103 ?_
            refine G.iload_n 1 F dM_begin_106 rfl rfl ?_
            refine G.iconst 0 F dM_begin_107 (by decide) ?_
            refine G.stMn 15 F (by decide) rfl (k := t) rfl ht dM_begin_108 ?_
            refine G.aload_n 0 F dM_begin_109 rfl rfl ?_
            refine G.gM 10 F (by decide) flM_29 rfl dM_begin_110 ?_
            refine G.iload_n 1 F dM_begin_113 rfl rfl ?_
            refine G.iconst 1 F dM_begin_114 (by decide) ?_
            refine G.stMn 6 F (by decide) rfl (k := t) rfl ht dM_begin_115 ?_
            exact G.st (congrArg (mW Y K) ((if_neg h1).trans ((if_neg h2).trans ((if_neg h3).trans ((if_pos h4).trans (if_pos h5)))))) (hE _ _ dM_begin_116)
          · skip
            refine G.iconst 3 F dM_begin_44 (by decide) ?_
            refine G.goto 49 F dM_begin_45 rfl ?_
            refine G.pM 0 F (by decide) flM_75 dM_begin_49 ?_
            refine G.aload_n 0 F dM_begin_52 rfl rfl ?_
            refine G.gM 0 F (by decide) flM_75 rfl dM_begin_53 ?_
            refine G.tope (y := 3) (up2_eq _ _ _ _) ?_
            refine G.if_le 60 F dM_begin_56 rfl (fun h9 => absurd h9 (by decide)) (fun _ => ?_)
            exact G.st (congrArg (mW Y K) ((if_neg h1).trans ((if_neg h2).trans ((if_neg h3).trans ((if_pos h4).trans (if_neg h5)))))) (hE _ _ dM_begin_59)
        · skip
          refine G.iconst 2 F dM_begin_31 (by decide) ?_
          refine G.goto 49 F dM_begin_32 rfl ?_
          refine G.pM 0 F (by decide) flM_75 dM_begin_49 ?_
          refine G.aload_n 0 F dM_begin_52 rfl rfl ?_
          refine G.gM 0 F (by decide) flM_75 rfl dM_begin_53 ?_
          refine G.tope (y := 2) (up2_eq _ _ _ _) ?_
          refine G.if_le 60 F dM_begin_56 rfl (fun h9 => absurd h9 (by decide)) (fun _ => ?_)
          exact G.st (congrArg (mW Y K) ((if_neg h1).trans ((if_neg h2).trans ((if_neg h3).trans (if_neg h4))))) (hE _ _ dM_begin_59)
end
section
def f_m_resultg (t : Nat) (m : CS) : Int32 × CS := (if 0 ≤ m 17 t then (m 17 t, (up2 m 20 0 0)) else (0, (up2 m 20 0 2)))
theorem i_m_resultg (t : Nat) (ht : t < 4) (m : CS) (hI : InvM m) : InvM (f_m_resultg t m).2 := by
  unfold f_m_resultg
  exact (ite_m2 (fun h1 => (InvM.upo hI rfl)) (fun h1 => (InvM.upo hI rfl)))
set_option maxRecDepth 100000 in
set_option maxHeartbeats 4000000 in
theorem k_m_resultg (l : Launch) (D : va_G) (K : Nat → ClassId) (base : Nat) (Y : Nat → Nat) (t : Nat) (ht : t < 4) (m : CS) (hI : InvM m) : CtI l D K base yM_result cM_result 2 .int (rmD 1) [.ref (Y 0), .int (nI t)] (mW Y K m) (f_m_resultg t m).1 (mW Y K (f_m_resultg t m).2) := by
  refine CtI.enter (by decide) (Nat.le_of_ble_eq_true rfl) ?_
  intro κ A Q F hE
  show G κ l (rmD 1) A Q D 2 0 0 (mW Y K m) 0 [(0, .ref (Y 0)), (1, .int (nI t))] []
  refine G.aload_n 0 F dM_result_0 rfl rfl ?_
  refine G.iload_n 1 F dM_result_1 rfl rfl ?_
  refine G.callsi F (k_m_isThread l D K base Y (nI t) m hI) ckM_78 ⟨rfl, rfl⟩ ⟨by decide, by decide⟩ ⟨Nat.zero_le _, Nat.zero_le _⟩ rfl rfl (Nat.le_of_ble_eq_true rfl) dM_result_2 ?_
  refine G.if_ne 12 F dM_result_5 rfl (fun _ => ?_) (fun h9 => absurd h9 (isT ht m))
  refine G.aload_n 0 F dM_result_12 rfl rfl ?_
  refine G.gM 21 F (by decide) flM_62 rfl dM_result_13 ?_
  refine G.iload_n 1 F dM_result_16 rfl rfl ?_
  refine G.ldMn 17 F (by decide) rfl (k := t) rfl ht dM_result_17 ?_
  refine G.if_ge 25 F dM_result_18 rfl (fun h1 => ?_) (fun h1 => ?_)
  · skip
    refine G.iconst 0 F dM_result_25 (by decide) ?_
    refine G.pM 0 F (by decide) flM_75 dM_result_26 ?_
    refine G.aload_n 0 F dM_result_29 rfl rfl ?_
    refine G.gM 0 F (by decide) flM_75 rfl dM_result_30 ?_
    refine G.tope (y := 0) (up2_eq _ _ _ _) ?_
    refine G.if_le 40 F dM_result_33 rfl (fun _ => ?_) (fun h9 => absurd (by decide) h9)
    refine G.aload_n 0 F dM_result_40 rfl rfl ?_
    refine G.gM 21 F (by decide) flM_62 rfl dM_result_41 ?_
    refine G.iload_n 1 F dM_result_44 rfl rfl ?_
    refine G.ldMn 17 F (by decide) rfl (k := t) rfl ht dM_result_45 ?_
    refine G.tope (y := m 17 t) (up2_f _ _ _ _ (by decide)) ?_
    have hr9 : f_m_resultg t m = (m 17 t, (up2 m 20 0 0)) := (if_pos h1)
    exact G.st (congrArg (fun z : Int32 × CS => mW Y K z.2) hr9) (hE _ _ (m 17 t) dM_result_46 rfl (congrArg Prod.fst hr9).symm)
  · skip
    refine G.iconst 2 F dM_result_21 (by decide) ?_
    refine G.goto 26 F dM_result_22 rfl ?_
    refine G.pM 0 F (by decide) flM_75 dM_result_26 ?_
    refine G.aload_n 0 F dM_result_29 rfl rfl ?_
    refine G.gM 0 F (by decide) flM_75 rfl dM_result_30 ?_
    refine G.tope (y := 2) (up2_eq _ _ _ _) ?_
    refine G.if_le 40 F dM_result_33 rfl (fun h9 => absurd h9 (by decide)) (fun _ => ?_)
    refine G.iconst 0 F dM_result_36 (by decide) ?_
    refine G.goto 46 F dM_result_37 rfl ?_
    have hr9 : f_m_resultg t m = (0, (up2 m 20 0 2)) := (if_neg h1)
    exact G.st (congrArg (fun z : Int32 × CS => mW Y K z.2) hr9) (hE _ _ 0 dM_result_46 rfl (congrArg Prod.fst hr9).symm)

def f_m_atg (t : Nat) (m : CS) : Int32 × CS := (m 6 t, (up2 m 20 0 0))
theorem i_m_atg (t : Nat) (ht : t < 4) (m : CS) (hI : InvM m) : InvM (f_m_atg t m).2 := by
  unfold f_m_atg
  exact (InvM.upo hI rfl)
set_option maxRecDepth 100000 in
set_option maxHeartbeats 4000000 in
theorem k_m_atg (l : Launch) (D : va_G) (K : Nat → ClassId) (base : Nat) (Y : Nat → Nat) (t : Nat) (ht : t < 4) (m : CS) (hI : InvM m) : CtI l D K base yM_at cM_at 2 .int (rmD 1) [.ref (Y 0), .int (nI t)] (mW Y K m) (f_m_atg t m).1 (mW Y K (f_m_atg t m).2) := by
  refine CtI.enter (by decide) (Nat.le_of_ble_eq_true rfl) ?_
  intro κ A Q F hE
  show G κ l (rmD 1) A Q D 2 0 0 (mW Y K m) 0 [(0, .ref (Y 0)), (1, .int (nI t))] []
  refine G.aload_n 0 F dM_at_0 rfl rfl ?_
  refine G.iload_n 1 F dM_at_1 rfl rfl ?_
  refine G.callsi F (k_m_isThread l D K base Y (nI t) m hI) ckM_78 ⟨rfl, rfl⟩ ⟨by decide, by decide⟩ ⟨Nat.zero_le _, Nat.zero_le _⟩ rfl rfl (Nat.le_of_ble_eq_true rfl) dM_at_2 ?_
  refine G.if_eq 12 F dM_at_5 rfl (fun h9 => absurd h9 (isT ht m)) (fun _ => ?_)
  refine G.iconst 0 F dM_at_8 (by decide) ?_
  refine G.goto 13 F dM_at_9 rfl ?_
  refine G.pM 0 F (by decide) flM_75 dM_at_13 ?_
  refine G.aload_n 0 F dM_at_16 rfl rfl ?_
  refine G.gM 0 F (by decide) flM_75 rfl dM_at_17 ?_
  refine G.tope (y := 0) (up2_eq _ _ _ _) ?_
  refine G.if_le 27 F dM_at_20 rfl (fun _ => ?_) (fun h9 => absurd (by decide) h9)
  refine G.aload_n 0 F dM_at_27 rfl rfl ?_
  refine G.gM 10 F (by decide) flM_29 rfl dM_at_28 ?_
  refine G.iload_n 1 F dM_at_31 rfl rfl ?_
  refine G.ldMn 6 F (by decide) rfl (k := t) rfl ht dM_at_32 ?_
  refine G.tope (y := m 6 t) (up2_f _ _ _ _ (by decide)) ?_
  have hr9 : f_m_atg t m = (m 6 t, (up2 m 20 0 0)) := rfl
  exact G.st (congrArg (fun z : Int32 × CS => mW Y K z.2) hr9) (hE _ _ (m 6 t) dM_at_33 rfl (congrArg Prod.fst hr9).symm)

def f_m_knowng (t : Nat) (w : Int32) (m : CS) : Int32 × CS := (if w < 0 then (0, (up2 m 20 0 1)) else (if 3 < w then (0, (up2 m 20 0 1)) else (if w = 0 then (m 9 t, (up2 m 20 0 0)) else (if w = 1 then (m 11 t, (up2 m 20 0 0)) else (if w = 2 then (m 13 t, (up2 m 20 0 0)) else (m 15 t, (up2 m 20 0 0)))))))
theorem i_m_knowng (t : Nat) (ht : t < 4) (w : Int32) (m : CS) (hI : InvM m) : InvM (f_m_knowng t w m).2 := by
  unfold f_m_knowng
  exact (ite_m2 (fun h1 => (InvM.upo hI rfl)) (fun h1 => (ite_m2 (fun h2 => (InvM.upo hI rfl)) (fun h2 => (ite_m2 (fun h3 => (InvM.upo hI rfl)) (fun h3 => (ite_m2 (fun h4 => (InvM.upo hI rfl)) (fun h4 => (ite_m2 (fun h5 => (InvM.upo hI rfl)) (fun h5 => (InvM.upo hI rfl)))))))))))
set_option maxRecDepth 100000 in
set_option maxHeartbeats 4000000 in
theorem k_m_knowng (l : Launch) (D : va_G) (K : Nat → ClassId) (base : Nat) (Y : Nat → Nat) (t : Nat) (ht : t < 4) (w : Int32) (m : CS) (hI : InvM m) : CtI l D K base yM_known cM_known 3 .int (rmD 1) [.ref (Y 0), .int (nI t), .int w] (mW Y K m) (f_m_knowng t w m).1 (mW Y K (f_m_knowng t w m).2) := by
  refine CtI.enter (by decide) (Nat.le_of_ble_eq_true rfl) ?_
  intro κ A Q F hE
  show G κ l (rmD 1) A Q D 3 0 0 (mW Y K m) 0 [(0, .ref (Y 0)), (1, .int (nI t)), (2, .int w)] []
  refine G.aload_n 0 F dM_known_0 rfl rfl ?_
  refine G.iload_n 1 F dM_known_1 rfl rfl ?_
  refine G.callsi F (k_m_isThread l D K base Y (nI t) m hI) ckM_78 ⟨rfl, rfl⟩ ⟨by decide, by decide⟩ ⟨Nat.zero_le _, Nat.zero_le _⟩ rfl rfl (Nat.le_of_ble_eq_true rfl) dM_known_2 ?_
  refine G.if_eq 21 F dM_known_5 rfl (fun h9 => absurd h9 (isT ht m)) (fun _ => ?_)
  refine G.iload_n 2 F dM_known_8 rfl rfl ?_
  refine G.if_lt 21 F dM_known_9 rfl (fun h1 => ?_) (fun h1 => ?_)
  · skip
    refine G.iconst 1 F dM_known_21 (by decide) ?_
    refine G.pM 0 F (by decide) flM_75 dM_known_22 ?_
    refine G.aload_n 0 F dM_known_25 rfl rfl ?_
    refine G.gM 0 F (by decide) flM_75 rfl dM_known_26 ?_
    refine G.tope (y := 1) (up2_eq _ _ _ _) ?_
    refine G.if_le 34 F dM_known_29 rfl (fun h9 => absurd h9 (by decide)) (fun _ => ?_)
    refine G.iconst 0 F dM_known_32 (by decide) ?_
    have hr9 : f_m_knowng t w m = (0, (up2 m 20 0 1)) := (if_pos h1)
    exact G.st (congrArg (fun z : Int32 × CS => mW Y K z.2) hr9) (hE _ _ 0 dM_known_33 rfl (congrArg Prod.fst hr9).symm)
  · skip
    refine G.iload_n 2 F dM_known_12 rfl rfl ?_
    refine G.iconst 3 F dM_known_13 (by decide) ?_
    refine G.icmp_gt 21 F dM_known_14 rfl (fun h2 => ?_) (fun h2 => ?_)
    · skip
      refine G.iconst 1 F dM_known_21 (by decide) ?_
      refine G.pM 0 F (by decide) flM_75 dM_known_22 ?_
      refine G.aload_n 0 F dM_known_25 rfl rfl ?_
      refine G.gM 0 F (by decide) flM_75 rfl dM_known_26 ?_
      refine G.tope (y := 1) (up2_eq _ _ _ _) ?_
      refine G.if_le 34 F dM_known_29 rfl (fun h9 => absurd h9 (by decide)) (fun _ => ?_)
      refine G.iconst 0 F dM_known_32 (by decide) ?_
      have hr9 : f_m_knowng t w m = (0, (up2 m 20 0 1)) := (if_neg h1).trans (if_pos h2)
      exact G.st (congrArg (fun z : Int32 × CS => mW Y K z.2) hr9) (hE _ _ 0 dM_known_33 rfl (congrArg Prod.fst hr9).symm)
    · skip
      refine G.iconst 0 F dM_known_17 (by decide) ?_
      refine G.goto 22 F dM_known_18 rfl ?_
      refine G.pM 0 F (by decide) flM_75 dM_known_22 ?_
      refine G.aload_n 0 F dM_known_25 rfl rfl ?_
      refine G.gM 0 F (by decide) flM_75 rfl dM_known_26 ?_
      refine G.tope (y := 0) (up2_eq _ _ _ _) ?_
      refine G.if_le 34 F dM_known_29 rfl (fun _ => ?_) (fun h9 => absurd (by decide) h9)
      refine G.iload_n 2 F dM_known_34 rfl rfl ?_
      refine G.if_ne 47 F dM_known_35 rfl (fun h3 => ?_) (fun h3 => ?_)
      · skip
        refine G.iload_n 2 F dM_known_47 rfl rfl ?_
        refine G.iconst 1 F dM_known_48 (by decide) ?_
        refine G.icmp_ne 61 F dM_known_49 rfl (fun h4 => ?_) (fun h4 => ?_)
        · skip
          refine G.iload_n 2 F dM_known_61 rfl rfl ?_
          refine G.iconst 2 F dM_known_62 (by decide) ?_
          refine G.icmp_ne 75 F dM_known_63 rfl (fun h5 => ?_) (fun h5 => ?_)
          · skip
            refine G.aload_n 0 F dM_known_75 rfl rfl ?_
            refine G.gM 19 F (by decide) flM_56 rfl dM_known_76 ?_
            refine G.iload_n 1 F dM_known_79 rfl rfl ?_
            refine G.ldMn 15 F (by decide) rfl (k := t) rfl ht dM_known_80 ?_
            refine G.tope (y := m 15 t) (up2_f _ _ _ _ (by decide)) ?_
            have hr9 : f_m_knowng t w m = (m 15 t, (up2 m 20 0 0)) := (if_neg h1).trans ((if_neg h2).trans ((if_neg h3).trans ((if_neg h4).trans (if_neg h5))))
            exact G.st (congrArg (fun z : Int32 × CS => mW Y K z.2) hr9) (hE _ _ (m 15 t) dM_known_81 rfl (congrArg Prod.fst hr9).symm)
          · skip
            refine G.aload_n 0 F dM_known_66 rfl rfl ?_
            refine G.gM 17 F (by decide) flM_50 rfl dM_known_67 ?_
            refine G.iload_n 1 F dM_known_70 rfl rfl ?_
            refine G.ldMn 13 F (by decide) rfl (k := t) rfl ht dM_known_71 ?_
            refine G.tope (y := m 13 t) (up2_f _ _ _ _ (by decide)) ?_
            refine G.goto 81 F dM_known_72 rfl ?_
            have hr9 : f_m_knowng t w m = (m 13 t, (up2 m 20 0 0)) := (if_neg h1).trans ((if_neg h2).trans ((if_neg h3).trans ((if_neg h4).trans (if_pos h5))))
            exact G.st (congrArg (fun z : Int32 × CS => mW Y K z.2) hr9) (hE _ _ (m 13 t) dM_known_81 rfl (congrArg Prod.fst hr9).symm)
        · skip
          refine G.aload_n 0 F dM_known_52 rfl rfl ?_
          refine G.gM 15 F (by decide) flM_44 rfl dM_known_53 ?_
          refine G.iload_n 1 F dM_known_56 rfl rfl ?_
          refine G.ldMn 11 F (by decide) rfl (k := t) rfl ht dM_known_57 ?_
          refine G.tope (y := m 11 t) (up2_f _ _ _ _ (by decide)) ?_
          refine G.goto 81 F dM_known_58 rfl ?_
          have hr9 : f_m_knowng t w m = (m 11 t, (up2 m 20 0 0)) := (if_neg h1).trans ((if_neg h2).trans ((if_neg h3).trans (if_pos h4)))
          exact G.st (congrArg (fun z : Int32 × CS => mW Y K z.2) hr9) (hE _ _ (m 11 t) dM_known_81 rfl (congrArg Prod.fst hr9).symm)
      · skip
        refine G.aload_n 0 F dM_known_38 rfl rfl ?_
        refine G.gM 13 F (by decide) flM_38 rfl dM_known_39 ?_
        refine G.iload_n 1 F dM_known_42 rfl rfl ?_
        refine G.ldMn 9 F (by decide) rfl (k := t) rfl ht dM_known_43 ?_
        refine G.tope (y := m 9 t) (up2_f _ _ _ _ (by decide)) ?_
        refine G.goto 81 F dM_known_44 rfl ?_
        have hr9 : f_m_knowng t w m = (m 9 t, (up2 m 20 0 0)) := (if_neg h1).trans ((if_neg h2).trans (if_pos h3))
        exact G.st (congrArg (fun z : Int32 × CS => mW Y K z.2) hr9) (hE _ _ (m 9 t) dM_known_81 rfl (congrArg Prod.fst hr9).symm)

def f_m_says0 (t : Nat) (m : CS) : Int32 × CS := (if m 19 ((2 * t) + 0) = 0 then ((-1), (up2 m 20 0 0)) else (m 19 ((2 * t) + 0), (up2 m 20 0 0)))
theorem i_m_says0 (t : Nat) (ht : t < 4) (m : CS) (hI : InvM m) : InvM (f_m_says0 t m).2 := by
  unfold f_m_says0
  exact (ite_m2 (fun h1 => (InvM.upo hI rfl)) (fun h1 => (InvM.upo hI rfl)))
set_option maxRecDepth 100000 in
set_option maxHeartbeats 4000000 in
theorem k_m_says0 (l : Launch) (D : va_G) (K : Nat → ClassId) (base : Nat) (Y : Nat → Nat) (t : Nat) (ht : t < 4) (m : CS) (hI : InvM m) : CtI l D K base yM_says cM_says 4 .int (rmD 1) [.ref (Y 0), .int (nI t), .int 0] (mW Y K m) (f_m_says0 t m).1 (mW Y K (f_m_says0 t m).2) := by
  refine CtI.enter (by decide) (Nat.le_of_ble_eq_true rfl) ?_
  intro κ A Q F hE
  show G κ l (rmD 1) A Q D 4 0 0 (mW Y K m) 0 [(0, .ref (Y 0)), (1, .int (nI t)), (2, .int 0)] []
  refine G.aload_n 0 F dM_says_0 rfl rfl ?_
  refine G.iload_n 1 F dM_says_1 rfl rfl ?_
  refine G.callsi F (k_m_isThread l D K base Y (nI t) m hI) ckM_78 ⟨rfl, rfl⟩ ⟨by decide, by decide⟩ ⟨Nat.zero_le _, Nat.zero_le _⟩ rfl rfl (Nat.le_of_ble_eq_true rfl) dM_says_2 ?_
  refine G.if_eq 21 F dM_says_5 rfl (fun h9 => absurd h9 (isT ht m)) (fun _ => ?_)
  refine G.iload_n 2 F dM_says_8 rfl rfl ?_
  refine G.if_lt 21 F dM_says_9 rfl (fun h9 => absurd h9 (by decide)) (fun _ => ?_)
  refine G.iload_n 2 F dM_says_12 rfl rfl ?_
  refine G.iconst 2 F dM_says_13 (by decide) ?_
  refine G.icmp_gt 21 F dM_says_14 rfl (fun h9 => absurd h9 (by decide)) (fun _ => ?_)
  refine G.iconst 0 F dM_says_17 (by decide) ?_
  refine G.goto 22 F dM_says_18 rfl ?_
  refine G.pM 0 F (by decide) flM_75 dM_says_22 ?_
  refine G.aload_n 0 F dM_says_25 rfl rfl ?_
  refine G.gM 0 F (by decide) flM_75 rfl dM_says_26 ?_
  refine G.tope (y := 0) (up2_eq _ _ _ _) ?_
  refine G.if_le 34 F dM_says_29 rfl (fun _ => ?_) (fun h9 => absurd (by decide) h9)
  refine G.iload_n 2 F dM_says_34 rfl rfl ?_
  refine G.iconst 2 F dM_says_35 (by decide) ?_
  refine G.icmp_ne 46 F dM_says_36 rfl (fun _ => ?_) (fun h9 => absurd h9 (by decide))
  refine G.aload_n 0 F dM_says_46 rfl rfl ?_
  refine G.gM 23 F (by decide) flM_68 rfl dM_says_47 ?_
  refine G.iconst 2 F dM_says_50 (by decide) ?_
  refine G.iload_n 1 F dM_says_51 rfl rfl ?_
  refine G.imul F dM_says_52 ?_
  refine G.tope (y := nI (2 * t)) (pk_mul 2 t) ?_
  refine G.iload_n 2 F dM_says_53 rfl rfl ?_
  refine G.iadd F dM_says_54 ?_
  refine G.tope (y := nI ((2 * t) + 0)) (nI_add (2 * t) 0) ?_
  refine G.ldMn 19 F (by decide) rfl (k := ((2 * t) + 0)) rfl (show (2 * t) + 0 < 8 by omega) dM_says_55 ?_
  refine G.tope (y := m 19 ((2 * t) + 0)) (up2_f _ _ _ _ (by decide)) ?_
  refine G.istore_nN F dM_says_56 rfl (by decide) rfl ?_
  refine G.iload_n 0 F dM_says_57 rfl rfl ?_
  refine G.if_ne 65 F dM_says_58 rfl (fun h1 => ?_) (fun h1 => ?_)
  · skip
    refine G.iload_n 0 F dM_says_65 rfl rfl ?_
    have hr9 : f_m_says0 t m = (m 19 ((2 * t) + 0), (up2 m 20 0 0)) := (if_neg h1)
    exact G.st (congrArg (fun z : Int32 × CS => mW Y K z.2) hr9) (hE _ _ (m 19 ((2 * t) + 0)) dM_says_66 rfl (congrArg Prod.fst hr9).symm)
  · skip
    refine G.iconst (-1) F dM_says_61 (by decide) ?_
    refine G.goto 66 F dM_says_62 rfl ?_
    have hr9 : f_m_says0 t m = ((-1), (up2 m 20 0 0)) := (if_pos h1)
    exact G.st (congrArg (fun z : Int32 × CS => mW Y K z.2) hr9) (hE _ _ (-1) dM_says_66 rfl (congrArg Prod.fst hr9).symm)

def f_m_says1 (t : Nat) (m : CS) : Int32 × CS := (if m 19 ((2 * t) + 1) = 0 then ((-1), (up2 m 20 0 0)) else (m 19 ((2 * t) + 1), (up2 m 20 0 0)))
theorem i_m_says1 (t : Nat) (ht : t < 4) (m : CS) (hI : InvM m) : InvM (f_m_says1 t m).2 := by
  unfold f_m_says1
  exact (ite_m2 (fun h1 => (InvM.upo hI rfl)) (fun h1 => (InvM.upo hI rfl)))
set_option maxRecDepth 100000 in
set_option maxHeartbeats 4000000 in
theorem k_m_says1 (l : Launch) (D : va_G) (K : Nat → ClassId) (base : Nat) (Y : Nat → Nat) (t : Nat) (ht : t < 4) (m : CS) (hI : InvM m) : CtI l D K base yM_says cM_says 4 .int (rmD 1) [.ref (Y 0), .int (nI t), .int 1] (mW Y K m) (f_m_says1 t m).1 (mW Y K (f_m_says1 t m).2) := by
  refine CtI.enter (by decide) (Nat.le_of_ble_eq_true rfl) ?_
  intro κ A Q F hE
  show G κ l (rmD 1) A Q D 4 0 0 (mW Y K m) 0 [(0, .ref (Y 0)), (1, .int (nI t)), (2, .int 1)] []
  refine G.aload_n 0 F dM_says_0 rfl rfl ?_
  refine G.iload_n 1 F dM_says_1 rfl rfl ?_
  refine G.callsi F (k_m_isThread l D K base Y (nI t) m hI) ckM_78 ⟨rfl, rfl⟩ ⟨by decide, by decide⟩ ⟨Nat.zero_le _, Nat.zero_le _⟩ rfl rfl (Nat.le_of_ble_eq_true rfl) dM_says_2 ?_
  refine G.if_eq 21 F dM_says_5 rfl (fun h9 => absurd h9 (isT ht m)) (fun _ => ?_)
  refine G.iload_n 2 F dM_says_8 rfl rfl ?_
  refine G.if_lt 21 F dM_says_9 rfl (fun h9 => absurd h9 (by decide)) (fun _ => ?_)
  refine G.iload_n 2 F dM_says_12 rfl rfl ?_
  refine G.iconst 2 F dM_says_13 (by decide) ?_
  refine G.icmp_gt 21 F dM_says_14 rfl (fun h9 => absurd h9 (by decide)) (fun _ => ?_)
  refine G.iconst 0 F dM_says_17 (by decide) ?_
  refine G.goto 22 F dM_says_18 rfl ?_
  refine G.pM 0 F (by decide) flM_75 dM_says_22 ?_
  refine G.aload_n 0 F dM_says_25 rfl rfl ?_
  refine G.gM 0 F (by decide) flM_75 rfl dM_says_26 ?_
  refine G.tope (y := 0) (up2_eq _ _ _ _) ?_
  refine G.if_le 34 F dM_says_29 rfl (fun _ => ?_) (fun h9 => absurd (by decide) h9)
  refine G.iload_n 2 F dM_says_34 rfl rfl ?_
  refine G.iconst 2 F dM_says_35 (by decide) ?_
  refine G.icmp_ne 46 F dM_says_36 rfl (fun _ => ?_) (fun h9 => absurd h9 (by decide))
  refine G.aload_n 0 F dM_says_46 rfl rfl ?_
  refine G.gM 23 F (by decide) flM_68 rfl dM_says_47 ?_
  refine G.iconst 2 F dM_says_50 (by decide) ?_
  refine G.iload_n 1 F dM_says_51 rfl rfl ?_
  refine G.imul F dM_says_52 ?_
  refine G.tope (y := nI (2 * t)) (pk_mul 2 t) ?_
  refine G.iload_n 2 F dM_says_53 rfl rfl ?_
  refine G.iadd F dM_says_54 ?_
  refine G.tope (y := nI ((2 * t) + 1)) (nI_add (2 * t) 1) ?_
  refine G.ldMn 19 F (by decide) rfl (k := ((2 * t) + 1)) rfl (show (2 * t) + 1 < 8 by omega) dM_says_55 ?_
  refine G.tope (y := m 19 ((2 * t) + 1)) (up2_f _ _ _ _ (by decide)) ?_
  refine G.istore_nN F dM_says_56 rfl (by decide) rfl ?_
  refine G.iload_n 0 F dM_says_57 rfl rfl ?_
  refine G.if_ne 65 F dM_says_58 rfl (fun h1 => ?_) (fun h1 => ?_)
  · skip
    refine G.iload_n 0 F dM_says_65 rfl rfl ?_
    have hr9 : f_m_says1 t m = (m 19 ((2 * t) + 1), (up2 m 20 0 0)) := (if_neg h1)
    exact G.st (congrArg (fun z : Int32 × CS => mW Y K z.2) hr9) (hE _ _ (m 19 ((2 * t) + 1)) dM_says_66 rfl (congrArg Prod.fst hr9).symm)
  · skip
    refine G.iconst (-1) F dM_says_61 (by decide) ?_
    refine G.goto 66 F dM_says_62 rfl ?_
    have hr9 : f_m_says1 t m = ((-1), (up2 m 20 0 0)) := (if_pos h1)
    exact G.st (congrArg (fun z : Int32 × CS => mW Y K z.2) hr9) (hE _ _ (-1) dM_says_66 rfl (congrArg Prod.fst hr9).symm)

def f_m_says2 (t : Nat) (m : CS) : Int32 × CS := (m 18 t, (up2 m 20 0 0))
theorem i_m_says2 (t : Nat) (ht : t < 4) (m : CS) (hI : InvM m) : InvM (f_m_says2 t m).2 := by
  unfold f_m_says2
  exact (InvM.upo hI rfl)
set_option maxRecDepth 100000 in
set_option maxHeartbeats 4000000 in
theorem k_m_says2 (l : Launch) (D : va_G) (K : Nat → ClassId) (base : Nat) (Y : Nat → Nat) (t : Nat) (ht : t < 4) (m : CS) (hI : InvM m) : CtI l D K base yM_says cM_says 4 .int (rmD 1) [.ref (Y 0), .int (nI t), .int 2] (mW Y K m) (f_m_says2 t m).1 (mW Y K (f_m_says2 t m).2) := by
  refine CtI.enter (by decide) (Nat.le_of_ble_eq_true rfl) ?_
  intro κ A Q F hE
  show G κ l (rmD 1) A Q D 4 0 0 (mW Y K m) 0 [(0, .ref (Y 0)), (1, .int (nI t)), (2, .int 2)] []
  refine G.aload_n 0 F dM_says_0 rfl rfl ?_
  refine G.iload_n 1 F dM_says_1 rfl rfl ?_
  refine G.callsi F (k_m_isThread l D K base Y (nI t) m hI) ckM_78 ⟨rfl, rfl⟩ ⟨by decide, by decide⟩ ⟨Nat.zero_le _, Nat.zero_le _⟩ rfl rfl (Nat.le_of_ble_eq_true rfl) dM_says_2 ?_
  refine G.if_eq 21 F dM_says_5 rfl (fun h9 => absurd h9 (isT ht m)) (fun _ => ?_)
  refine G.iload_n 2 F dM_says_8 rfl rfl ?_
  refine G.if_lt 21 F dM_says_9 rfl (fun h9 => absurd h9 (by decide)) (fun _ => ?_)
  refine G.iload_n 2 F dM_says_12 rfl rfl ?_
  refine G.iconst 2 F dM_says_13 (by decide) ?_
  refine G.icmp_gt 21 F dM_says_14 rfl (fun h9 => absurd h9 (by decide)) (fun _ => ?_)
  refine G.iconst 0 F dM_says_17 (by decide) ?_
  refine G.goto 22 F dM_says_18 rfl ?_
  refine G.pM 0 F (by decide) flM_75 dM_says_22 ?_
  refine G.aload_n 0 F dM_says_25 rfl rfl ?_
  refine G.gM 0 F (by decide) flM_75 rfl dM_says_26 ?_
  refine G.tope (y := 0) (up2_eq _ _ _ _) ?_
  refine G.if_le 34 F dM_says_29 rfl (fun _ => ?_) (fun h9 => absurd (by decide) h9)
  refine G.iload_n 2 F dM_says_34 rfl rfl ?_
  refine G.iconst 2 F dM_says_35 (by decide) ?_
  refine G.icmp_ne 46 F dM_says_36 rfl (fun h9 => absurd (by decide) h9) (fun _ => ?_)
  refine G.aload_n 0 F dM_says_39 rfl rfl ?_
  refine G.gM 22 F (by decide) flM_65 rfl dM_says_40 ?_
  refine G.iload_n 1 F dM_says_43 rfl rfl ?_
  refine G.ldMn 18 F (by decide) rfl (k := t) rfl ht dM_says_44 ?_
  refine G.tope (y := m 18 t) (up2_f _ _ _ _ (by decide)) ?_
  have hr9 : f_m_says2 t m = (m 18 t, (up2 m 20 0 0)) := rfl
  exact G.st (congrArg (fun z : Int32 × CS => mW Y K z.2) hr9) (hE _ _ (m 18 t) dM_says_45 rfl (congrArg Prod.fst hr9).symm)

def f_m_sayswl (t : Nat) (w : Int32) (m : CS) : Int32 × CS := (0, (up2 m 20 0 1))
theorem i_m_sayswl (t : Nat) (ht : t < 4) (w : Int32) (m : CS) (hI : InvM m) (hw : w < 0) : InvM (f_m_sayswl t w m).2 := by
  unfold f_m_sayswl
  exact (InvM.upo hI rfl)
set_option maxRecDepth 100000 in
set_option maxHeartbeats 4000000 in
theorem k_m_sayswl (l : Launch) (D : va_G) (K : Nat → ClassId) (base : Nat) (Y : Nat → Nat) (t : Nat) (ht : t < 4) (w : Int32) (m : CS) (hI : InvM m) (hw : w < 0) : CtI l D K base yM_says cM_says 4 .int (rmD 1) [.ref (Y 0), .int (nI t), .int w] (mW Y K m) (f_m_sayswl t w m).1 (mW Y K (f_m_sayswl t w m).2) := by
  refine CtI.enter (by decide) (Nat.le_of_ble_eq_true rfl) ?_
  intro κ A Q F hE
  show G κ l (rmD 1) A Q D 4 0 0 (mW Y K m) 0 [(0, .ref (Y 0)), (1, .int (nI t)), (2, .int w)] []
  refine G.aload_n 0 F dM_says_0 rfl rfl ?_
  refine G.iload_n 1 F dM_says_1 rfl rfl ?_
  refine G.callsi F (k_m_isThread l D K base Y (nI t) m hI) ckM_78 ⟨rfl, rfl⟩ ⟨by decide, by decide⟩ ⟨Nat.zero_le _, Nat.zero_le _⟩ rfl rfl (Nat.le_of_ble_eq_true rfl) dM_says_2 ?_
  refine G.if_eq 21 F dM_says_5 rfl (fun h9 => absurd h9 (isT ht m)) (fun _ => ?_)
  refine G.iload_n 2 F dM_says_8 rfl rfl ?_
  refine G.if_lt 21 F dM_says_9 rfl (fun _ => ?_) (fun h9 => absurd hw h9)
  refine G.iconst 1 F dM_says_21 (by decide) ?_
  refine G.pM 0 F (by decide) flM_75 dM_says_22 ?_
  refine G.aload_n 0 F dM_says_25 rfl rfl ?_
  refine G.gM 0 F (by decide) flM_75 rfl dM_says_26 ?_
  refine G.tope (y := 1) (up2_eq _ _ _ _) ?_
  refine G.if_le 34 F dM_says_29 rfl (fun h9 => absurd h9 (by decide)) (fun _ => ?_)
  refine G.iconst 0 F dM_says_32 (by decide) ?_
  have hr9 : f_m_sayswl t w m = (0, (up2 m 20 0 1)) := rfl
  exact G.st (congrArg (fun z : Int32 × CS => mW Y K z.2) hr9) (hE _ _ 0 dM_says_33 rfl (congrArg Prod.fst hr9).symm)

def f_m_sayswh (t : Nat) (w : Int32) (m : CS) : Int32 × CS := (0, (up2 m 20 0 1))
theorem i_m_sayswh (t : Nat) (ht : t < 4) (w : Int32) (m : CS) (hI : InvM m) (hw : ¬ w < 0) (hw2 : 2 < w) : InvM (f_m_sayswh t w m).2 := by
  unfold f_m_sayswh
  exact (InvM.upo hI rfl)
set_option maxRecDepth 100000 in
set_option maxHeartbeats 4000000 in
theorem k_m_sayswh (l : Launch) (D : va_G) (K : Nat → ClassId) (base : Nat) (Y : Nat → Nat) (t : Nat) (ht : t < 4) (w : Int32) (m : CS) (hI : InvM m) (hw : ¬ w < 0) (hw2 : 2 < w) : CtI l D K base yM_says cM_says 4 .int (rmD 1) [.ref (Y 0), .int (nI t), .int w] (mW Y K m) (f_m_sayswh t w m).1 (mW Y K (f_m_sayswh t w m).2) := by
  refine CtI.enter (by decide) (Nat.le_of_ble_eq_true rfl) ?_
  intro κ A Q F hE
  show G κ l (rmD 1) A Q D 4 0 0 (mW Y K m) 0 [(0, .ref (Y 0)), (1, .int (nI t)), (2, .int w)] []
  refine G.aload_n 0 F dM_says_0 rfl rfl ?_
  refine G.iload_n 1 F dM_says_1 rfl rfl ?_
  refine G.callsi F (k_m_isThread l D K base Y (nI t) m hI) ckM_78 ⟨rfl, rfl⟩ ⟨by decide, by decide⟩ ⟨Nat.zero_le _, Nat.zero_le _⟩ rfl rfl (Nat.le_of_ble_eq_true rfl) dM_says_2 ?_
  refine G.if_eq 21 F dM_says_5 rfl (fun h9 => absurd h9 (isT ht m)) (fun _ => ?_)
  refine G.iload_n 2 F dM_says_8 rfl rfl ?_
  refine G.if_lt 21 F dM_says_9 rfl (fun h9 => absurd h9 hw) (fun _ => ?_)
  refine G.iload_n 2 F dM_says_12 rfl rfl ?_
  refine G.iconst 2 F dM_says_13 (by decide) ?_
  refine G.icmp_gt 21 F dM_says_14 rfl (fun _ => ?_) (fun h9 => absurd hw2 h9)
  refine G.iconst 1 F dM_says_21 (by decide) ?_
  refine G.pM 0 F (by decide) flM_75 dM_says_22 ?_
  refine G.aload_n 0 F dM_says_25 rfl rfl ?_
  refine G.gM 0 F (by decide) flM_75 rfl dM_says_26 ?_
  refine G.tope (y := 1) (up2_eq _ _ _ _) ?_
  refine G.if_le 34 F dM_says_29 rfl (fun h9 => absurd h9 (by decide)) (fun _ => ?_)
  refine G.iconst 0 F dM_says_32 (by decide) ?_
  have hr9 : f_m_sayswh t w m = (0, (up2 m 20 0 1)) := rfl
  exact G.st (congrArg (fun z : Int32 × CS => mW Y K z.2) hr9) (hE _ _ 0 dM_says_33 rfl (congrArg Prod.fst hr9).symm)

def f_m_beginb (v : Int32) (o : Int32) (y : Int32) (m : CS) : CS := (up2 m 20 0 1)
theorem i_m_beginb (v : Int32) (o : Int32) (y : Int32) (m : CS) (hI : InvM m) (hv : f_m_isThread v m = 0) : InvM (f_m_beginb v o y m) := by
  unfold f_m_beginb
  exact (InvM.upo hI rfl)
set_option maxRecDepth 100000 in
set_option maxHeartbeats 4000000 in
theorem k_m_beginb (l : Launch) (D : va_G) (K : Nat → ClassId) (base : Nat) (Y : Nat → Nat) (v : Int32) (o : Int32) (y : Int32) (m : CS) (hI : InvM m) (hv : f_m_isThread v m = 0) : CtV l D K base yM_begin cM_begin 4 (rmD 1) [.ref (Y 0), .int v, .int o, .int y] (mW Y K m) (mW Y K (f_m_beginb v o y m)) := by
  refine CtV.enter (by decide) (Nat.le_of_ble_eq_true rfl) ?_
  intro κ A Q F hE
  show G κ l (rmD 1) A Q D 4 0 0 (mW Y K m) 0 [(0, .ref (Y 0)), (1, .int v), (2, .int o), (3, .int y)] []
  refine G.aload_n 0 F dM_begin_0 rfl rfl ?_
  refine G.iload_n 1 F dM_begin_1 rfl rfl ?_
  refine G.callsi F (k_m_isThread l D K base Y v m hI) ckM_78 ⟨rfl, rfl⟩ ⟨by decide, by decide⟩ ⟨Nat.zero_le _, Nat.zero_le _⟩ rfl rfl (Nat.le_of_ble_eq_true rfl) dM_begin_2 ?_
  refine G.if_ne 12 F dM_begin_5 rfl (fun h9 => absurd hv h9) (fun _ => ?_)
  refine G.iconst 1 F dM_begin_8 (by decide) ?_
  refine G.goto 49 F dM_begin_9 rfl ?_
  refine G.pM 0 F (by decide) flM_75 dM_begin_49 ?_
  refine G.aload_n 0 F dM_begin_52 rfl rfl ?_
  refine G.gM 0 F (by decide) flM_75 rfl dM_begin_53 ?_
  refine G.tope (y := 1) (up2_eq _ _ _ _) ?_
  refine G.if_le 60 F dM_begin_56 rfl (fun h9 => absurd h9 (by decide)) (fun _ => ?_)
  exact G.st (congrArg (mW Y K) rfl) (hE _ _ dM_begin_59)

def f_m_resultb (v : Int32) (m : CS) : Int32 × CS := (0, (up2 m 20 0 1))
theorem i_m_resultb (v : Int32) (m : CS) (hI : InvM m) (hv : f_m_isThread v m = 0) : InvM (f_m_resultb v m).2 := by
  unfold f_m_resultb
  exact (InvM.upo hI rfl)
set_option maxRecDepth 100000 in
set_option maxHeartbeats 4000000 in
theorem k_m_resultb (l : Launch) (D : va_G) (K : Nat → ClassId) (base : Nat) (Y : Nat → Nat) (v : Int32) (m : CS) (hI : InvM m) (hv : f_m_isThread v m = 0) : CtI l D K base yM_result cM_result 2 .int (rmD 1) [.ref (Y 0), .int v] (mW Y K m) (f_m_resultb v m).1 (mW Y K (f_m_resultb v m).2) := by
  refine CtI.enter (by decide) (Nat.le_of_ble_eq_true rfl) ?_
  intro κ A Q F hE
  show G κ l (rmD 1) A Q D 2 0 0 (mW Y K m) 0 [(0, .ref (Y 0)), (1, .int v)] []
  refine G.aload_n 0 F dM_result_0 rfl rfl ?_
  refine G.iload_n 1 F dM_result_1 rfl rfl ?_
  refine G.callsi F (k_m_isThread l D K base Y v m hI) ckM_78 ⟨rfl, rfl⟩ ⟨by decide, by decide⟩ ⟨Nat.zero_le _, Nat.zero_le _⟩ rfl rfl (Nat.le_of_ble_eq_true rfl) dM_result_2 ?_
  refine G.if_ne 12 F dM_result_5 rfl (fun h9 => absurd hv h9) (fun _ => ?_)
  refine G.iconst 1 F dM_result_8 (by decide) ?_
  refine G.goto 26 F dM_result_9 rfl ?_
  refine G.pM 0 F (by decide) flM_75 dM_result_26 ?_
  refine G.aload_n 0 F dM_result_29 rfl rfl ?_
  refine G.gM 0 F (by decide) flM_75 rfl dM_result_30 ?_
  refine G.tope (y := 1) (up2_eq _ _ _ _) ?_
  refine G.if_le 40 F dM_result_33 rfl (fun h9 => absurd h9 (by decide)) (fun _ => ?_)
  refine G.iconst 0 F dM_result_36 (by decide) ?_
  refine G.goto 46 F dM_result_37 rfl ?_
  have hr9 : f_m_resultb v m = (0, (up2 m 20 0 1)) := rfl
  exact G.st (congrArg (fun z : Int32 × CS => mW Y K z.2) hr9) (hE _ _ 0 dM_result_46 rfl (congrArg Prod.fst hr9).symm)

def f_m_atb (v : Int32) (m : CS) : Int32 × CS := (0, (up2 m 20 0 1))
theorem i_m_atb (v : Int32) (m : CS) (hI : InvM m) (hv : f_m_isThread v m = 0) : InvM (f_m_atb v m).2 := by
  unfold f_m_atb
  exact (InvM.upo hI rfl)
set_option maxRecDepth 100000 in
set_option maxHeartbeats 4000000 in
theorem k_m_atb (l : Launch) (D : va_G) (K : Nat → ClassId) (base : Nat) (Y : Nat → Nat) (v : Int32) (m : CS) (hI : InvM m) (hv : f_m_isThread v m = 0) : CtI l D K base yM_at cM_at 2 .int (rmD 1) [.ref (Y 0), .int v] (mW Y K m) (f_m_atb v m).1 (mW Y K (f_m_atb v m).2) := by
  refine CtI.enter (by decide) (Nat.le_of_ble_eq_true rfl) ?_
  intro κ A Q F hE
  show G κ l (rmD 1) A Q D 2 0 0 (mW Y K m) 0 [(0, .ref (Y 0)), (1, .int v)] []
  refine G.aload_n 0 F dM_at_0 rfl rfl ?_
  refine G.iload_n 1 F dM_at_1 rfl rfl ?_
  refine G.callsi F (k_m_isThread l D K base Y v m hI) ckM_78 ⟨rfl, rfl⟩ ⟨by decide, by decide⟩ ⟨Nat.zero_le _, Nat.zero_le _⟩ rfl rfl (Nat.le_of_ble_eq_true rfl) dM_at_2 ?_
  refine G.if_eq 12 F dM_at_5 rfl (fun _ => ?_) (fun h9 => absurd hv h9)
  refine G.iconst 1 F dM_at_12 (by decide) ?_
  refine G.pM 0 F (by decide) flM_75 dM_at_13 ?_
  refine G.aload_n 0 F dM_at_16 rfl rfl ?_
  refine G.gM 0 F (by decide) flM_75 rfl dM_at_17 ?_
  refine G.tope (y := 1) (up2_eq _ _ _ _) ?_
  refine G.if_le 27 F dM_at_20 rfl (fun h9 => absurd h9 (by decide)) (fun _ => ?_)
  refine G.iconst 0 F dM_at_23 (by decide) ?_
  refine G.goto 33 F dM_at_24 rfl ?_
  have hr9 : f_m_atb v m = (0, (up2 m 20 0 1)) := rfl
  exact G.st (congrArg (fun z : Int32 × CS => mW Y K z.2) hr9) (hE _ _ 0 dM_at_33 rfl (congrArg Prod.fst hr9).symm)

def f_m_knownb (v : Int32) (w : Int32) (m : CS) : Int32 × CS := (0, (up2 m 20 0 1))
theorem i_m_knownb (v : Int32) (w : Int32) (m : CS) (hI : InvM m) (hv : f_m_isThread v m = 0) : InvM (f_m_knownb v w m).2 := by
  unfold f_m_knownb
  exact (InvM.upo hI rfl)
set_option maxRecDepth 100000 in
set_option maxHeartbeats 4000000 in
theorem k_m_knownb (l : Launch) (D : va_G) (K : Nat → ClassId) (base : Nat) (Y : Nat → Nat) (v : Int32) (w : Int32) (m : CS) (hI : InvM m) (hv : f_m_isThread v m = 0) : CtI l D K base yM_known cM_known 3 .int (rmD 1) [.ref (Y 0), .int v, .int w] (mW Y K m) (f_m_knownb v w m).1 (mW Y K (f_m_knownb v w m).2) := by
  refine CtI.enter (by decide) (Nat.le_of_ble_eq_true rfl) ?_
  intro κ A Q F hE
  show G κ l (rmD 1) A Q D 3 0 0 (mW Y K m) 0 [(0, .ref (Y 0)), (1, .int v), (2, .int w)] []
  refine G.aload_n 0 F dM_known_0 rfl rfl ?_
  refine G.iload_n 1 F dM_known_1 rfl rfl ?_
  refine G.callsi F (k_m_isThread l D K base Y v m hI) ckM_78 ⟨rfl, rfl⟩ ⟨by decide, by decide⟩ ⟨Nat.zero_le _, Nat.zero_le _⟩ rfl rfl (Nat.le_of_ble_eq_true rfl) dM_known_2 ?_
  refine G.if_eq 21 F dM_known_5 rfl (fun _ => ?_) (fun h9 => absurd hv h9)
  refine G.iconst 1 F dM_known_21 (by decide) ?_
  refine G.pM 0 F (by decide) flM_75 dM_known_22 ?_
  refine G.aload_n 0 F dM_known_25 rfl rfl ?_
  refine G.gM 0 F (by decide) flM_75 rfl dM_known_26 ?_
  refine G.tope (y := 1) (up2_eq _ _ _ _) ?_
  refine G.if_le 34 F dM_known_29 rfl (fun h9 => absurd h9 (by decide)) (fun _ => ?_)
  refine G.iconst 0 F dM_known_32 (by decide) ?_
  have hr9 : f_m_knownb v w m = (0, (up2 m 20 0 1)) := rfl
  exact G.st (congrArg (fun z : Int32 × CS => mW Y K z.2) hr9) (hE _ _ 0 dM_known_33 rfl (congrArg Prod.fst hr9).symm)

def f_m_saysb (v : Int32) (w : Int32) (m : CS) : Int32 × CS := (0, (up2 m 20 0 1))
theorem i_m_saysb (v : Int32) (w : Int32) (m : CS) (hI : InvM m) (hv : f_m_isThread v m = 0) : InvM (f_m_saysb v w m).2 := by
  unfold f_m_saysb
  exact (InvM.upo hI rfl)
set_option maxRecDepth 100000 in
set_option maxHeartbeats 4000000 in
theorem k_m_saysb (l : Launch) (D : va_G) (K : Nat → ClassId) (base : Nat) (Y : Nat → Nat) (v : Int32) (w : Int32) (m : CS) (hI : InvM m) (hv : f_m_isThread v m = 0) : CtI l D K base yM_says cM_says 4 .int (rmD 1) [.ref (Y 0), .int v, .int w] (mW Y K m) (f_m_saysb v w m).1 (mW Y K (f_m_saysb v w m).2) := by
  refine CtI.enter (by decide) (Nat.le_of_ble_eq_true rfl) ?_
  intro κ A Q F hE
  show G κ l (rmD 1) A Q D 4 0 0 (mW Y K m) 0 [(0, .ref (Y 0)), (1, .int v), (2, .int w)] []
  refine G.aload_n 0 F dM_says_0 rfl rfl ?_
  refine G.iload_n 1 F dM_says_1 rfl rfl ?_
  refine G.callsi F (k_m_isThread l D K base Y v m hI) ckM_78 ⟨rfl, rfl⟩ ⟨by decide, by decide⟩ ⟨Nat.zero_le _, Nat.zero_le _⟩ rfl rfl (Nat.le_of_ble_eq_true rfl) dM_says_2 ?_
  refine G.if_eq 21 F dM_says_5 rfl (fun _ => ?_) (fun h9 => absurd hv h9)
  refine G.iconst 1 F dM_says_21 (by decide) ?_
  refine G.pM 0 F (by decide) flM_75 dM_says_22 ?_
  refine G.aload_n 0 F dM_says_25 rfl rfl ?_
  refine G.gM 0 F (by decide) flM_75 rfl dM_says_26 ?_
  refine G.tope (y := 1) (up2_eq _ _ _ _) ?_
  refine G.if_le 34 F dM_says_29 rfl (fun h9 => absurd h9 (by decide)) (fun _ => ?_)
  refine G.iconst 0 F dM_says_32 (by decide) ?_
  have hr9 : f_m_saysb v w m = (0, (up2 m 20 0 1)) := rfl
  exact G.st (congrArg (fun z : Int32 × CS => mW Y K z.2) hr9) (hE _ _ 0 dM_says_33 rfl (congrArg Prod.fst hr9).symm)

def f_m_size (m : CS) : Int32 × CS := (f_m_count 0 31 (up2 m 20 0 0), (up2 m 20 0 0))
theorem i_m_size  (m : CS) (hI : InvM m) : InvM (f_m_size  m).2 := by
  unfold f_m_size
  exact (InvM.upo hI rfl)
set_option maxRecDepth 100000 in
set_option maxHeartbeats 4000000 in
theorem k_m_size (l : Launch) (D : va_G) (K : Nat → ClassId) (base : Nat) (Y : Nat → Nat)  (m : CS) (hI : InvM m) : CtI l D K base yM_size cM_size 1 .int (rmD 1) [.ref (Y 0)] (mW Y K m) (f_m_size m).1 (mW Y K (f_m_size m).2) := by
  refine CtI.enter (by decide) (Nat.le_of_ble_eq_true rfl) ?_
  intro κ A Q F hE
  show G κ l (rmD 1) A Q D 1 0 0 (mW Y K m) 0 [(0, .ref (Y 0))] []
  refine G.aload_n 0 F dM_size_0 rfl rfl ?_
  refine G.iconst 0 F dM_size_1 (by decide) ?_
  refine G.pM 0 F (by decide) flM_75 dM_size_2 ?_
  refine G.aload_n 0 F dM_size_5 rfl rfl ?_
  refine G.iconst 0 F dM_size_6 (by decide) ?_
  refine G.bipush 31 F dM_size_7 (by decide) ?_
  refine G.calli F (k_m_count l D K base Y 0 31 (up2 m 20 0 0) (InvM.upo hI rfl)) ckM_153 mW_m rfl rfl ⟨rfl, rfl⟩ ⟨by decide, by decide⟩ ⟨Nat.zero_le _, Nat.zero_le _⟩ rfl rfl (Nat.le_of_ble_eq_true rfl) dM_size_9 ?_
  have hr9 : f_m_size m = (f_m_count 0 31 (up2 m 20 0 0), (up2 m 20 0 0)) := rfl
  exact G.st (congrArg (fun z : Int32 × CS => mW Y K z.2) hr9) (hE _ _ (f_m_count 0 31 (up2 m 20 0 0)) dM_size_12 rfl (congrArg Prod.fst hr9).symm)

def f_m_has (y : Int32) (m : CS) : Int32 × CS := (if f_m_count y y (up2 m 20 0 0) ≤ 0 then (0, (up2 m 20 0 0)) else (1, (up2 m 20 0 0)))
theorem i_m_has (y : Int32) (m : CS) (hI : InvM m) : InvM (f_m_has y m).2 := by
  unfold f_m_has
  exact (ite_m2 (fun h1 => (InvM.upo hI rfl)) (fun h1 => (InvM.upo hI rfl)))
set_option maxRecDepth 100000 in
set_option maxHeartbeats 4000000 in
theorem k_m_has (l : Launch) (D : va_G) (K : Nat → ClassId) (base : Nat) (Y : Nat → Nat) (y : Int32) (m : CS) (hI : InvM m) : CtI l D K base yM_has cM_has 2 .boolean (rmD 1) [.ref (Y 0), .int y] (mW Y K m) (f_m_has y m).1 (mW Y K (f_m_has y m).2) := by
  refine CtI.enter (by decide) (Nat.le_of_ble_eq_true rfl) ?_
  intro κ A Q F hE
  show G κ l (rmD 1) A Q D 2 0 0 (mW Y K m) 0 [(0, .ref (Y 0)), (1, .int y)] []
  refine G.aload_n 0 F dM_has_0 rfl rfl ?_
  refine G.iconst 0 F dM_has_1 (by decide) ?_
  refine G.pM 0 F (by decide) flM_75 dM_has_2 ?_
  refine G.aload_n 0 F dM_has_5 rfl rfl ?_
  refine G.iload_n 1 F dM_has_6 rfl rfl ?_
  refine G.iload_n 1 F dM_has_7 rfl rfl ?_
  refine G.calli F (k_m_count l D K base Y y y (up2 m 20 0 0) (InvM.upo hI rfl)) ckM_153 mW_m rfl rfl ⟨rfl, rfl⟩ ⟨by decide, by decide⟩ ⟨Nat.zero_le _, Nat.zero_le _⟩ rfl rfl (Nat.le_of_ble_eq_true rfl) dM_has_8 ?_
  refine G.if_le 18 F dM_has_11 rfl (fun h1 => ?_) (fun h1 => ?_)
  · skip
    refine G.iconst 0 F dM_has_18 (by decide) ?_
    have hr9 : f_m_has y m = (0, (up2 m 20 0 0)) := (if_pos h1)
    exact G.st (congrArg (fun z : Int32 × CS => mW Y K z.2) hr9) (hE _ _ 0 dM_has_19 rfl (congrArg Prod.fst hr9).symm)
  · skip
    refine G.iconst 1 F dM_has_14 (by decide) ?_
    refine G.goto 19 F dM_has_15 rfl ?_
    have hr9 : f_m_has y m = (1, (up2 m 20 0 0)) := (if_neg h1)
    exact G.st (congrArg (fun z : Int32 × CS => mW Y K z.2) hr9) (hE _ _ 1 dM_has_19 rfl (congrArg Prod.fst hr9).symm)

def fl_m_retire_45 (t : Nat) (b : Int32) : Nat → Nat → Int32 → CS → CS
  | 0, _, n3, m9 => (if m9 20 1 = 1 then (if n3 < 4 then m9 else (f_m_sweep t m9).2) else m9)
  | n + 1, k, n3, m9 => (if m9 0 k = 2 then (if m9 5 k = nI t then (fl_m_retire_45 t b n (k + 1) (n3 + 1) m9) else (fl_m_retire_45 t b n (k + 1) n3 m9)) else (fl_m_retire_45 t b n (k + 1) n3 m9))
def f_m_retire (t : Nat) (b : Int32) (m : CS) : CS := (if m 20 1 = 2 then (if m 20 1 = 0 then (fl_m_retire_45 t b 20 1 0 (up2 (up2 m 0 b.toNatClampNeg 0) 5 b.toNatClampNeg (m 20 2))) else (fl_m_retire_45 t b 20 1 0 (up2 (up2 m 0 b.toNatClampNeg 0) 5 b.toNatClampNeg (nI t)))) else (if m 20 1 = 0 then (fl_m_retire_45 t b 20 1 0 (up2 (up2 m 0 b.toNatClampNeg 2) 5 b.toNatClampNeg (m 20 2))) else (fl_m_retire_45 t b 20 1 0 (up2 (up2 m 0 b.toNatClampNeg 2) 5 b.toNatClampNeg (nI t)))))
theorem i_fl_m_retire_45 (t : Nat) (ht : t < 4) (b : Int32) (hb : vp_in b 21) : ∀ (n k : Nat) (n3 : Int32) (m9 : CS), k + n = 21 → InvM m9 → InvM (fl_m_retire_45 t b n k n3 m9) := by
  intro n
  induction n with
  | zero =>
    intro k n3 m9 hkn hI9
    exact (ite_m (fun h3 => (ite_m (fun h4 => hI9) (fun h4 => (i_m_sweep t ht m9 hI9)))) (fun h3 => hI9))
  | succ n ih =>
    intro k n3 m9 hkn hI9
    have hk : k < 21 := by omega
    unfold fl_m_retire_45
    exact (ite_m (fun h5 => (ite_m (fun h6 => (ih (k + 1) (n3 + 1) _ (by omega) hI9)) (fun h6 => (ih (k + 1) n3 _ (by omega) hI9)))) (fun h5 => (ih (k + 1) n3 _ (by omega) hI9)))
theorem i_m_retire (t : Nat) (ht : t < 4) (b : Int32) (hb : vp_in b 21) (m : CS) (hI : InvM m) : InvM (f_m_retire t b m) := by
  unfold f_m_retire
  exact (ite_m (fun h1 => (ite_m (fun h7 => (i_fl_m_retire_45 t ht b hb 20 1 0 _ (by decide) (InvM.upo (InvM.upo hI rfl) rfl))) (fun h7 => (i_fl_m_retire_45 t ht b hb 20 1 0 _ (by decide) (InvM.upo (InvM.upo hI rfl) rfl))))) (fun h1 => (ite_m (fun h2 => (i_fl_m_retire_45 t ht b hb 20 1 0 _ (by decide) (InvM.upo (InvM.upo hI rfl) rfl))) (fun h2 => (i_fl_m_retire_45 t ht b hb 20 1 0 _ (by decide) (InvM.upo (InvM.upo hI rfl) rfl))))))
set_option maxRecDepth 100000 in
set_option maxHeartbeats 4000000 in
theorem k_m_retire (l : Launch) (D : va_G) (K : Nat → ClassId) (base : Nat) (Y : Nat → Nat) (t : Nat) (ht : t < 4) (b : Int32) (hb : vp_in b 21) (m : CS) (hI : InvM m) : CtV l D K base yM_retire cM_retire 5 (rmD 2) [.ref (Y 0), .int (nI t), .int b] (mW Y K m) (mW Y K (f_m_retire t b m)) := by
  refine CtV.enter (by decide) (Nat.le_of_ble_eq_true rfl) ?_
  intro κ A Q F hE
  show G κ l (rmD 2) A Q D 5 0 0 (mW Y K m) 0 [(0, .ref (Y 0)), (1, .int (nI t)), (2, .int b)] []
  have hloop45 : ∀ (n k : Nat) (n3 : Int32) (m9 : CS), k + n = 21 → InvM m9 → f_m_retire t b m = fl_m_retire_45 t b n k n3 m9 → G κ l (rmD 2) A Q D 5 0 0 (mW Y K m9) 45 [(4, .int (nI k)), (3, .int n3), (0, .ref (Y 0)), (1, .int (nI t)), (2, .int b)] [] := by
    intro n
    induction n with
    | zero =>
      intro k n3 m9 hkn hI9 hρ
      obtain rfl : k = 21 := by omega
      refine G.iload 0 F dM_retire_45 rfl ?_
      refine G.bipush 20 F dM_retire_47 (by decide) ?_
      refine G.icmp_gt 88 F dM_retire_49 rfl (fun _ => ?_) (fun h9 => absurd (by decide) h9)
      refine G.aload_n 2 F dM_retire_88 rfl rfl ?_
      refine G.gM 1 F (by decide) flM_71 rfl dM_retire_89 ?_
      refine G.iconst 1 F dM_retire_92 (by decide) ?_
      refine G.icmp_ne 107 F dM_retire_93 rfl (fun h3 => ?_) (fun h3 => ?_)
      · skip
        exact G.st (congrArg (mW Y K) (hρ.trans (if_neg h3))) (hE _ _ dM_retire_107)
      · skip
        refine G.iload_n 1 F dM_retire_96 rfl rfl ?_
        refine G.iconst 4 F dM_retire_97 (by decide) ?_
        refine G.icmp_lt 107 F dM_retire_98 rfl (fun h4 => ?_) (fun h4 => ?_)
        · skip
          exact G.st (congrArg (mW Y K) (hρ.trans ((if_pos h3).trans (if_pos h4)))) (hE _ _ dM_retire_107)
        · skip
          refine G.aload_n 2 F dM_retire_101 rfl rfl ?_
          refine G.iload_n 3 F dM_retire_102 rfl rfl ?_
          refine G.calli F (k_m_sweep l D K base Y t ht m9 hI9) ckM_88 mW_m rfl rfl ⟨rfl, rfl⟩ ⟨by decide, by decide⟩ ⟨Nat.zero_le _, Nat.zero_le _⟩ rfl rfl (Nat.le_of_ble_eq_true rfl) dM_retire_103 ?_
          refine G.pop F dM_retire_106 rfl ?_
          exact G.st (congrArg (mW Y K) (hρ.trans ((if_pos h3).trans (if_neg h4)))) (hE _ _ dM_retire_107)
    | succ n ih =>
      intro k n3 m9 hkn hI9 hρ
      have hk : k < 21 := by omega
      refine G.iload 0 F dM_retire_45 rfl ?_
      refine G.bipush 20 F dM_retire_47 (by decide) ?_
      refine G.icmp_gt 88 F dM_retire_49 rfl (fun h9 => absurd h9 (nI_nlt (a := 20) (Nat.le_of_lt_succ (Nat.lt_of_lt_of_le hk (by decide))) (by decide))) (fun _ => ?_)
      refine G.aload_n 2 F dM_retire_52 rfl rfl ?_
      refine G.gM 4 F (by decide) flM_7 rfl dM_retire_53 ?_
      refine G.iload 0 F dM_retire_56 rfl ?_
      refine G.ldMn 0 F (by decide) rfl (k := k) rfl hk dM_retire_58 ?_
      refine G.iconst 2 F dM_retire_59 (by decide) ?_
      refine G.icmp_ne 80 F dM_retire_60 rfl (fun h5 => ?_) (fun h5 => ?_)
      · skip
        refine G.iload_n 1 F dM_retire_80 rfl rfl ?_
        refine G.istore_n 1 F dM_retire_81 rfl rfl (by decide) rfl ?_
        refine G.iinc 0 (nI (k + 1)) F dM_retire_82 rfl (nI_succ k).symm (by decide) rfl ?_
        refine G.goto 45 F dM_retire_85 rfl ?_
        exact ih (k + 1) n3 _ (by omega) hI9 (hρ.trans (if_neg h5))
      · skip
        refine G.aload_n 2 F dM_retire_63 rfl rfl ?_
        refine G.gM 9 F (by decide) flM_26 rfl dM_retire_64 ?_
        refine G.iload 0 F dM_retire_67 rfl ?_
        refine G.ldMn 5 F (by decide) rfl (k := k) rfl hk dM_retire_69 ?_
        refine G.iload_n 3 F dM_retire_70 rfl rfl ?_
        refine G.icmp_ne 80 F dM_retire_71 rfl (fun h6 => ?_) (fun h6 => ?_)
        · skip
          refine G.iload_n 1 F dM_retire_80 rfl rfl ?_
          refine G.istore_n 1 F dM_retire_81 rfl rfl (by decide) rfl ?_
          refine G.iinc 0 (nI (k + 1)) F dM_retire_82 rfl (nI_succ k).symm (by decide) rfl ?_
          refine G.goto 45 F dM_retire_85 rfl ?_
          exact ih (k + 1) n3 _ (by omega) hI9 (hρ.trans ((if_pos h5).trans (if_neg h6)))
        · skip
          refine G.iload_n 1 F dM_retire_74 rfl rfl ?_
          refine G.iconst 1 F dM_retire_75 (by decide) ?_
          refine G.iadd F dM_retire_76 ?_
          refine G.goto 81 F dM_retire_77 rfl ?_
          refine G.istore_n 1 F dM_retire_81 rfl rfl (by decide) rfl ?_
          refine G.iinc 0 (nI (k + 1)) F dM_retire_82 rfl (nI_succ k).symm (by decide) rfl ?_
          refine G.goto 45 F dM_retire_85 rfl ?_
          exact ih (k + 1) (n3 + 1) _ (by omega) hI9 (hρ.trans ((if_pos h5).trans (if_pos h6)))
  refine G.aload_n 0 F dM_retire_0 rfl rfl ?_
  refine G.gM 4 F (by decide) flM_7 rfl dM_retire_1 ?_
  refine G.iload_n 2 F dM_retire_4 rfl rfl ?_
  refine G.aload_n 0 F dM_retire_5 rfl rfl ?_
  refine G.gM 1 F (by decide) flM_71 rfl dM_retire_6 ?_
  refine G.iconst 2 F dM_retire_9 (by decide) ?_
  refine G.icmp_ne 17 F dM_retire_10 rfl (fun h1 => ?_) (fun h1 => ?_)
  · skip
    refine G.iconst 2 F dM_retire_17 (by decide) ?_
    refine G.stM 0 F (by decide) rfl hb dM_retire_18 ?_
    refine G.aload_n 0 F dM_retire_19 rfl rfl ?_
    refine G.gM 9 F (by decide) flM_26 rfl dM_retire_20 ?_
    refine G.iload_n 2 F dM_retire_23 rfl rfl ?_
    refine G.aload_n 0 F dM_retire_24 rfl rfl ?_
    refine G.gM 1 F (by decide) flM_71 rfl dM_retire_25 ?_
    refine G.tope (y := m 20 1) (up2_f _ _ _ _ (by decide)) ?_
    refine G.if_ne 38 F dM_retire_28 rfl (fun h2 => ?_) (fun h2 => ?_)
    · skip
      refine G.iload_n 1 F dM_retire_38 rfl rfl ?_
      refine G.stM 5 F (by decide) rfl hb dM_retire_39 ?_
      refine G.iconst 0 F dM_retire_40 (by decide) ?_
      refine G.istore_nN F dM_retire_41 rfl (by decide) rfl ?_
      refine G.iconst 1 F dM_retire_42 (by decide) ?_
      refine G.istoreN F dM_retire_43 (by decide) rfl ?_
      exact hloop45 20 1 0 _ (by decide) (InvM.upo (InvM.upo hI rfl) rfl) ((if_neg h1).trans (if_neg h2))
    · skip
      refine G.aload_n 0 F dM_retire_31 rfl rfl ?_
      refine G.gM 2 F (by decide) flM_85 rfl dM_retire_32 ?_
      refine G.tope (y := m 20 2) (up2_f _ _ _ _ (by decide)) ?_
      refine G.goto 39 F dM_retire_35 rfl ?_
      refine G.stM 5 F (by decide) rfl hb dM_retire_39 ?_
      refine G.iconst 0 F dM_retire_40 (by decide) ?_
      refine G.istore_nN F dM_retire_41 rfl (by decide) rfl ?_
      refine G.iconst 1 F dM_retire_42 (by decide) ?_
      refine G.istoreN F dM_retire_43 (by decide) rfl ?_
      exact hloop45 20 1 0 _ (by decide) (InvM.upo (InvM.upo hI rfl) rfl) ((if_neg h1).trans (if_pos h2))
  · skip
    refine G.iconst 0 F dM_retire_13 (by decide) ?_
    refine G.goto 18 F dM_retire_14 rfl ?_
    refine G.stM 0 F (by decide) rfl hb dM_retire_18 ?_
    refine G.aload_n 0 F dM_retire_19 rfl rfl ?_
    refine G.gM 9 F (by decide) flM_26 rfl dM_retire_20 ?_
    refine G.iload_n 2 F dM_retire_23 rfl rfl ?_
    refine G.aload_n 0 F dM_retire_24 rfl rfl ?_
    refine G.gM 1 F (by decide) flM_71 rfl dM_retire_25 ?_
    refine G.tope (y := m 20 1) (up2_f _ _ _ _ (by decide)) ?_
    refine G.if_ne 38 F dM_retire_28 rfl (fun h7 => ?_) (fun h7 => ?_)
    · skip
      refine G.iload_n 1 F dM_retire_38 rfl rfl ?_
      refine G.stM 5 F (by decide) rfl hb dM_retire_39 ?_
      refine G.iconst 0 F dM_retire_40 (by decide) ?_
      refine G.istore_nN F dM_retire_41 rfl (by decide) rfl ?_
      refine G.iconst 1 F dM_retire_42 (by decide) ?_
      refine G.istoreN F dM_retire_43 (by decide) rfl ?_
      exact hloop45 20 1 0 _ (by decide) (InvM.upo (InvM.upo hI rfl) rfl) ((if_pos h1).trans (if_neg h7))
    · skip
      refine G.aload_n 0 F dM_retire_31 rfl rfl ?_
      refine G.gM 2 F (by decide) flM_85 rfl dM_retire_32 ?_
      refine G.tope (y := m 20 2) (up2_f _ _ _ _ (by decide)) ?_
      refine G.goto 39 F dM_retire_35 rfl ?_
      refine G.stM 5 F (by decide) rfl hb dM_retire_39 ?_
      refine G.iconst 0 F dM_retire_40 (by decide) ?_
      refine G.istore_nN F dM_retire_41 rfl (by decide) rfl ?_
      refine G.iconst 1 F dM_retire_42 (by decide) ?_
      refine G.istoreN F dM_retire_43 (by decide) rfl ?_
      exact hloop45 20 1 0 _ (by decide) (InvM.upo (InvM.upo hI rfl) rfl) ((if_pos h1).trans (if_pos h7))

def f_m_check (t : Nat) (m : CS) : Int32 × CS := (if f_m_linked t (f_m_lookBack t m) = 0 then (2, (f_m_lookBack t m)) else (if (f_m_lookBack t m) 11 t = 0 then (if (f_m_lookBack t m) 11 t = 0 then (7, (up2 (f_m_lookBack t m) 14 t 0)) else (5, (up2 (f_m_lookBack t m) 14 t 0))) else (if (f_m_lookBack t m) 14 t = 0 then (if (f_m_lookBack t m) 11 t = 0 then (7, (up2 (f_m_lookBack t m) 14 t 0)) else (5, (up2 (f_m_lookBack t m) 14 t 0))) else (if (f_m_lookBack t m) 11 t = 0 then (7, (up2 (f_m_lookBack t m) 14 t 1)) else (5, (up2 (f_m_lookBack t m) 14 t 1))))))
theorem i_m_check (t : Nat) (ht : t < 4) (m : CS) (hI : InvM m) : InvM (f_m_check t m).2 := by
  unfold f_m_check
  exact (ite_m2 (fun h1 => (i_m_lookBack t ht m hI)) (fun h1 => (ite_m2 (fun h2 => (ite_m2 (fun h3 => (InvM.upo (i_m_lookBack t ht m hI) rfl)) (fun h3 => (InvM.upo (i_m_lookBack t ht m hI) rfl)))) (fun h2 => (ite_m2 (fun h4 => (ite_m2 (fun h5 => (InvM.upo (i_m_lookBack t ht m hI) rfl)) (fun h5 => (InvM.upo (i_m_lookBack t ht m hI) rfl)))) (fun h4 => (ite_m2 (fun h6 => (InvM.upo (i_m_lookBack t ht m hI) rfl)) (fun h6 => (InvM.upo (i_m_lookBack t ht m hI) rfl)))))))))
set_option maxRecDepth 100000 in
set_option maxHeartbeats 4000000 in
theorem k_m_check (l : Launch) (D : va_G) (K : Nat → ClassId) (base : Nat) (Y : Nat → Nat) (t : Nat) (ht : t < 4) (m : CS) (hI : InvM m) : CtI l D K base yM_check cM_check 2 .int (rmD 2) [.ref (Y 0), .int (nI t)] (mW Y K m) (f_m_check t m).1 (mW Y K (f_m_check t m).2) := by
  refine CtI.enter (by decide) (Nat.le_of_ble_eq_true rfl) ?_
  intro κ A Q F hE
  show G κ l (rmD 2) A Q D 2 0 0 (mW Y K m) 0 [(0, .ref (Y 0)), (1, .int (nI t))] []
  refine G.aload_n 0 F dM_check_0 rfl rfl ?_
  refine G.iload_n 1 F dM_check_1 rfl rfl ?_
  refine G.callv F (k_m_lookBack l D K base Y t ht m hI) ckM_103 mW_m rfl rfl ⟨rfl, rfl⟩ ⟨by decide, by decide⟩ ⟨Nat.zero_le _, Nat.zero_le _⟩ rfl rfl (Nat.le_of_ble_eq_true rfl) dM_check_2 ?_
  refine G.aload_n 0 F dM_check_5 rfl rfl ?_
  refine G.iload_n 1 F dM_check_6 rfl rfl ?_
  refine G.calli F (k_m_linked l D K base Y t ht (f_m_lookBack t m) (i_m_lookBack t ht m hI)) ckM_107 mW_m rfl rfl ⟨rfl, rfl⟩ ⟨by decide, by decide⟩ ⟨Nat.zero_le _, Nat.zero_le _⟩ rfl rfl (Nat.le_of_ble_eq_true rfl) dM_check_7 ?_
  refine G.if_ne 15 F dM_check_10 rfl (fun h1 => ?_) (fun h1 => ?_)
  · skip
    refine G.aload_n 0 F dM_check_15 rfl rfl ?_
    refine G.gM 18 F (by decide) flM_53 rfl dM_check_16 ?_
    refine G.iload_n 1 F dM_check_19 rfl rfl ?_
    refine G.aload_n 0 F dM_check_20 rfl rfl ?_
    refine G.gM 15 F (by decide) flM_44 rfl dM_check_21 ?_
    refine G.iload_n 1 F dM_check_24 rfl rfl ?_
    refine G.ldMn 11 F (by decide) rfl (k := t) rfl ht dM_check_25 ?_
    refine G.if_eq 42 F dM_check_26 rfl (fun h2 => ?_) (fun h2 => ?_)
    · skip
      refine G.iconst 0 F dM_check_42 (by decide) ?_
      refine G.stMzn 14 F (by decide) rfl rfl (k := t) rfl ht dM_check_43 ?_
      refine G.aload_n 0 F dM_check_44 rfl rfl ?_
      refine G.gM 15 F (by decide) flM_44 rfl dM_check_45 ?_
      refine G.iload_n 1 F dM_check_48 rfl rfl ?_
      refine G.ldMn 11 F (by decide) rfl (k := t) rfl ht dM_check_49 ?_
      refine G.tope (y := (f_m_lookBack t m) 11 t) (up2_f _ _ _ _ (by decide)) ?_
      refine G.if_ne 58 F dM_check_50 rfl (fun h3 => ?_) (fun h3 => ?_)
      · skip
        refine G.iconst 5 F dM_check_58 (by decide) ?_
        have hr9 : f_m_check t m = (5, (up2 (f_m_lookBack t m) 14 t 0)) := (if_neg h1).trans ((if_pos h2).trans (if_neg h3))
        exact G.st (congrArg (fun z : Int32 × CS => mW Y K z.2) hr9) (hE _ _ 5 dM_check_59 rfl (congrArg Prod.fst hr9).symm)
      · skip
        refine G.bipush 7 F dM_check_53 (by decide) ?_
        refine G.goto 59 F dM_check_55 rfl ?_
        have hr9 : f_m_check t m = (7, (up2 (f_m_lookBack t m) 14 t 0)) := (if_neg h1).trans ((if_pos h2).trans (if_pos h3))
        exact G.st (congrArg (fun z : Int32 × CS => mW Y K z.2) hr9) (hE _ _ 7 dM_check_59 rfl (congrArg Prod.fst hr9).symm)
    · skip
      refine G.aload_n 0 F dM_check_29 rfl rfl ?_
      refine G.gM 18 F (by decide) flM_53 rfl dM_check_30 ?_
      refine G.iload_n 1 F dM_check_33 rfl rfl ?_
      refine G.ldMzn 14 F (by decide) rfl (k := t) rfl ht dM_check_34 ?_
      refine G.if_eq 42 F dM_check_35 rfl (fun h4 => ?_) (fun h4 => ?_)
      · skip
        refine G.iconst 0 F dM_check_42 (by decide) ?_
        refine G.stMzn 14 F (by decide) rfl rfl (k := t) rfl ht dM_check_43 ?_
        refine G.aload_n 0 F dM_check_44 rfl rfl ?_
        refine G.gM 15 F (by decide) flM_44 rfl dM_check_45 ?_
        refine G.iload_n 1 F dM_check_48 rfl rfl ?_
        refine G.ldMn 11 F (by decide) rfl (k := t) rfl ht dM_check_49 ?_
        refine G.tope (y := (f_m_lookBack t m) 11 t) (up2_f _ _ _ _ (by decide)) ?_
        refine G.if_ne 58 F dM_check_50 rfl (fun h5 => ?_) (fun h5 => ?_)
        · skip
          refine G.iconst 5 F dM_check_58 (by decide) ?_
          have hr9 : f_m_check t m = (5, (up2 (f_m_lookBack t m) 14 t 0)) := (if_neg h1).trans ((if_neg h2).trans ((if_pos h4).trans (if_neg h5)))
          exact G.st (congrArg (fun z : Int32 × CS => mW Y K z.2) hr9) (hE _ _ 5 dM_check_59 rfl (congrArg Prod.fst hr9).symm)
        · skip
          refine G.bipush 7 F dM_check_53 (by decide) ?_
          refine G.goto 59 F dM_check_55 rfl ?_
          have hr9 : f_m_check t m = (7, (up2 (f_m_lookBack t m) 14 t 0)) := (if_neg h1).trans ((if_neg h2).trans ((if_pos h4).trans (if_pos h5)))
          exact G.st (congrArg (fun z : Int32 × CS => mW Y K z.2) hr9) (hE _ _ 7 dM_check_59 rfl (congrArg Prod.fst hr9).symm)
      · skip
        refine G.iconst 1 F dM_check_38 (by decide) ?_
        refine G.goto 43 F dM_check_39 rfl ?_
        refine G.stMzn 14 F (by decide) rfl rfl (k := t) rfl ht dM_check_43 ?_
        refine G.aload_n 0 F dM_check_44 rfl rfl ?_
        refine G.gM 15 F (by decide) flM_44 rfl dM_check_45 ?_
        refine G.iload_n 1 F dM_check_48 rfl rfl ?_
        refine G.ldMn 11 F (by decide) rfl (k := t) rfl ht dM_check_49 ?_
        refine G.tope (y := (f_m_lookBack t m) 11 t) (up2_f _ _ _ _ (by decide)) ?_
        refine G.if_ne 58 F dM_check_50 rfl (fun h6 => ?_) (fun h6 => ?_)
        · skip
          refine G.iconst 5 F dM_check_58 (by decide) ?_
          have hr9 : f_m_check t m = (5, (up2 (f_m_lookBack t m) 14 t 1)) := (if_neg h1).trans ((if_neg h2).trans ((if_neg h4).trans (if_neg h6)))
          exact G.st (congrArg (fun z : Int32 × CS => mW Y K z.2) hr9) (hE _ _ 5 dM_check_59 rfl (congrArg Prod.fst hr9).symm)
        · skip
          refine G.bipush 7 F dM_check_53 (by decide) ?_
          refine G.goto 59 F dM_check_55 rfl ?_
          have hr9 : f_m_check t m = (7, (up2 (f_m_lookBack t m) 14 t 1)) := (if_neg h1).trans ((if_neg h2).trans ((if_neg h4).trans (if_pos h6)))
          exact G.st (congrArg (fun z : Int32 × CS => mW Y K z.2) hr9) (hE _ _ 7 dM_check_59 rfl (congrArg Prod.fst hr9).symm)
  · skip
    refine G.iconst 2 F dM_check_13 (by decide) ?_
    have hr9 : f_m_check t m = (2, (f_m_lookBack t m)) := (if_pos h1)
    exact G.st (congrArg (fun z : Int32 × CS => mW Y K z.2) hr9) (hE _ _ 2 dM_check_14 rfl (congrArg Prod.fst hr9).symm)
end
section
def f_m_act (t : Nat) (m : CS) : Int32 × CS := (if m 7 t = 0 then (if m 14 t = 0 then (9, (up2 m 16 t 0)) else (9, (up2 m 16 t 1))) else (if m 7 t = 1 then ((f_m_insert t m).1, (f_m_insert t m).2) else ((f_m_remove t m).1, (f_m_remove t m).2)))
theorem i_m_act (t : Nat) (ht : t < 4) (m : CS) (hI : InvM m) : InvM (f_m_act t m).2 := by
  unfold f_m_act
  exact (ite_m2 (fun h1 => (ite_m2 (fun h3 => (InvM.upo hI rfl)) (fun h3 => (InvM.upo hI rfl)))) (fun h1 => (ite_m2 (fun h2 => (i_m_insert t ht m hI)) (fun h2 => (i_m_remove t ht m hI)))))
set_option maxRecDepth 100000 in
set_option maxHeartbeats 4000000 in
theorem k_m_act (l : Launch) (D : va_G) (K : Nat → ClassId) (base : Nat) (Y : Nat → Nat) (t : Nat) (ht : t < 4) (m : CS) (hI : InvM m) : CtI l D K base yM_act cM_act 2 .int (rmD 2) [.ref (Y 0), .int (nI t)] (mW Y K m) (f_m_act t m).1 (mW Y K (f_m_act t m).2) := by
  refine CtI.enter (by decide) (Nat.le_of_ble_eq_true rfl) ?_
  intro κ A Q F hE
  show G κ l (rmD 2) A Q D 2 0 0 (mW Y K m) 0 [(0, .ref (Y 0)), (1, .int (nI t))] []
  refine G.aload_n 0 F dM_act_0 rfl rfl ?_
  refine G.gM 11 F (by decide) flM_32 rfl dM_act_1 ?_
  refine G.iload_n 1 F dM_act_4 rfl rfl ?_
  refine G.ldMn 7 F (by decide) rfl (k := t) rfl ht dM_act_5 ?_
  refine G.if_ne 32 F dM_act_6 rfl (fun h1 => ?_) (fun h1 => ?_)
  · skip
    refine G.aload_n 0 F dM_act_32 rfl rfl ?_
    refine G.gM 11 F (by decide) flM_32 rfl dM_act_33 ?_
    refine G.iload_n 1 F dM_act_36 rfl rfl ?_
    refine G.ldMn 7 F (by decide) rfl (k := t) rfl ht dM_act_37 ?_
    refine G.iconst 1 F dM_act_38 (by decide) ?_
    refine G.icmp_ne 50 F dM_act_39 rfl (fun h2 => ?_) (fun h2 => ?_)
    · skip
      refine G.aload_n 0 F dM_act_50 rfl rfl ?_
      refine G.iload_n 1 F dM_act_51 rfl rfl ?_
      refine G.calli F (k_m_remove l D K base Y t ht m hI) ckM_120 mW_m rfl rfl ⟨rfl, rfl⟩ ⟨by decide, by decide⟩ ⟨Nat.zero_le _, Nat.zero_le _⟩ rfl rfl (Nat.le_of_ble_eq_true rfl) dM_act_52 ?_
      have hr9 : f_m_act t m = ((f_m_remove t m).1, (f_m_remove t m).2) := (if_neg h1).trans (if_neg h2)
      exact G.st (congrArg (fun z : Int32 × CS => mW Y K z.2) hr9) (hE _ _ ((f_m_remove t m).1) dM_act_55 rfl (congrArg Prod.fst hr9).symm)
    · skip
      refine G.aload_n 0 F dM_act_42 rfl rfl ?_
      refine G.iload_n 1 F dM_act_43 rfl rfl ?_
      refine G.calli F (k_m_insert l D K base Y t ht m hI) ckM_117 mW_m rfl rfl ⟨rfl, rfl⟩ ⟨by decide, by decide⟩ ⟨Nat.zero_le _, Nat.zero_le _⟩ rfl rfl (Nat.le_of_ble_eq_true rfl) dM_act_44 ?_
      refine G.goto 55 F dM_act_47 rfl ?_
      have hr9 : f_m_act t m = ((f_m_insert t m).1, (f_m_insert t m).2) := (if_neg h1).trans (if_pos h2)
      exact G.st (congrArg (fun z : Int32 × CS => mW Y K z.2) hr9) (hE _ _ ((f_m_insert t m).1) dM_act_55 rfl (congrArg Prod.fst hr9).symm)
  · skip
    refine G.aload_n 0 F dM_act_9 rfl rfl ?_
    refine G.gM 20 F (by decide) flM_59 rfl dM_act_10 ?_
    refine G.iload_n 1 F dM_act_13 rfl rfl ?_
    refine G.aload_n 0 F dM_act_14 rfl rfl ?_
    refine G.gM 18 F (by decide) flM_53 rfl dM_act_15 ?_
    refine G.iload_n 1 F dM_act_18 rfl rfl ?_
    refine G.ldMzn 14 F (by decide) rfl (k := t) rfl ht dM_act_19 ?_
    refine G.if_eq 27 F dM_act_20 rfl (fun h3 => ?_) (fun h3 => ?_)
    · skip
      refine G.iconst 0 F dM_act_27 (by decide) ?_
      refine G.stMn 16 F (by decide) rfl (k := t) rfl ht dM_act_28 ?_
      refine G.bipush 9 F dM_act_29 (by decide) ?_
      have hr9 : f_m_act t m = (9, (up2 m 16 t 0)) := (if_pos h1).trans (if_pos h3)
      exact G.st (congrArg (fun z : Int32 × CS => mW Y K z.2) hr9) (hE _ _ 9 dM_act_31 rfl (congrArg Prod.fst hr9).symm)
    · skip
      refine G.iconst 1 F dM_act_23 (by decide) ?_
      refine G.goto 28 F dM_act_24 rfl ?_
      refine G.stMn 16 F (by decide) rfl (k := t) rfl ht dM_act_28 ?_
      refine G.bipush 9 F dM_act_29 (by decide) ?_
      have hr9 : f_m_act t m = (9, (up2 m 16 t 1)) := (if_pos h1).trans (if_neg h3)
      exact G.st (congrArg (fun z : Int32 × CS => mW Y K z.2) hr9) (hE _ _ 9 dM_act_31 rfl (congrArg Prod.fst hr9).symm)

def f_m_hang (t : Nat) (m : CS) : Int32 × CS := (if f_m_linked t (f_m_lookBack t m) = 0 then (2, (f_m_lookBack t m)) else (9, (up2 (f_m_link ((f_m_lookBack t m) 9 t) ((f_m_lookBack t m) 15 t) (f_m_lookBack t m)) 16 t 1)))
theorem i_m_hang (t : Nat) (ht : t < 4) (m : CS) (hI : InvM m) : InvM (f_m_hang t m).2 := by
  unfold f_m_hang
  exact (ite_m2 (fun h1 => (i_m_lookBack t ht m hI)) (fun h1 => (InvM.upo (i_m_link ((f_m_lookBack t m) 9 t) ((i_m_lookBack t ht m hI) 9 _ rfl) ((f_m_lookBack t m) 15 t) ((i_m_lookBack t ht m hI) 15 _ rfl) (f_m_lookBack t m) (i_m_lookBack t ht m hI)) rfl)))
set_option maxRecDepth 100000 in
set_option maxHeartbeats 4000000 in
theorem k_m_hang (l : Launch) (D : va_G) (K : Nat → ClassId) (base : Nat) (Y : Nat → Nat) (t : Nat) (ht : t < 4) (m : CS) (hI : InvM m) : CtI l D K base yM_hang cM_hang 2 .int (rmD 2) [.ref (Y 0), .int (nI t)] (mW Y K m) (f_m_hang t m).1 (mW Y K (f_m_hang t m).2) := by
  refine CtI.enter (by decide) (Nat.le_of_ble_eq_true rfl) ?_
  intro κ A Q F hE
  show G κ l (rmD 2) A Q D 2 0 0 (mW Y K m) 0 [(0, .ref (Y 0)), (1, .int (nI t))] []
  refine G.aload_n 0 F dM_hang_0 rfl rfl ?_
  refine G.iload_n 1 F dM_hang_1 rfl rfl ?_
  refine G.callv F (k_m_lookBack l D K base Y t ht m hI) ckM_103 mW_m rfl rfl ⟨rfl, rfl⟩ ⟨by decide, by decide⟩ ⟨Nat.zero_le _, Nat.zero_le _⟩ rfl rfl (Nat.le_of_ble_eq_true rfl) dM_hang_2 ?_
  refine G.aload_n 0 F dM_hang_5 rfl rfl ?_
  refine G.iload_n 1 F dM_hang_6 rfl rfl ?_
  refine G.calli F (k_m_linked l D K base Y t ht (f_m_lookBack t m) (i_m_lookBack t ht m hI)) ckM_107 mW_m rfl rfl ⟨rfl, rfl⟩ ⟨by decide, by decide⟩ ⟨Nat.zero_le _, Nat.zero_le _⟩ rfl rfl (Nat.le_of_ble_eq_true rfl) dM_hang_7 ?_
  refine G.if_ne 15 F dM_hang_10 rfl (fun h1 => ?_) (fun h1 => ?_)
  · skip
    refine G.aload_n 0 F dM_hang_15 rfl rfl ?_
    refine G.aload_n 0 F dM_hang_16 rfl rfl ?_
    refine G.gM 13 F (by decide) flM_38 rfl dM_hang_17 ?_
    refine G.iload_n 1 F dM_hang_20 rfl rfl ?_
    refine G.ldMn 9 F (by decide) rfl (k := t) rfl ht dM_hang_21 ?_
    refine G.aload_n 0 F dM_hang_22 rfl rfl ?_
    refine G.gM 19 F (by decide) flM_56 rfl dM_hang_23 ?_
    refine G.iload_n 1 F dM_hang_26 rfl rfl ?_
    refine G.ldMn 15 F (by decide) rfl (k := t) rfl ht dM_hang_27 ?_
    refine G.iconst 0 F dM_hang_28 (by decide) ?_
    refine G.callv F (k_m_link l D K base Y ((f_m_lookBack t m) 9 t) ((i_m_lookBack t ht m hI) 9 _ rfl) ((f_m_lookBack t m) 15 t) ((i_m_lookBack t ht m hI) 15 _ rfl) (f_m_lookBack t m) (i_m_lookBack t ht m hI)) ckM_110 mW_m rfl rfl ⟨rfl, rfl⟩ ⟨by decide, by decide⟩ ⟨Nat.zero_le _, Nat.zero_le _⟩ rfl rfl (Nat.le_of_ble_eq_true rfl) dM_hang_29 ?_
    refine G.aload_n 0 F dM_hang_32 rfl rfl ?_
    refine G.gM 20 F (by decide) flM_59 rfl dM_hang_33 ?_
    refine G.iload_n 1 F dM_hang_36 rfl rfl ?_
    refine G.iconst 1 F dM_hang_37 (by decide) ?_
    refine G.stMn 16 F (by decide) rfl (k := t) rfl ht dM_hang_38 ?_
    refine G.bipush 9 F dM_hang_39 (by decide) ?_
    have hr9 : f_m_hang t m = (9, (up2 (f_m_link ((f_m_lookBack t m) 9 t) ((f_m_lookBack t m) 15 t) (f_m_lookBack t m)) 16 t 1)) := (if_neg h1)
    exact G.st (congrArg (fun z : Int32 × CS => mW Y K z.2) hr9) (hE _ _ 9 dM_hang_41 rfl (congrArg Prod.fst hr9).symm)
  · skip
    refine G.iconst 2 F dM_hang_13 (by decide) ?_
    have hr9 : f_m_hang t m = (2, (f_m_lookBack t m)) := (if_pos h1)
    exact G.st (congrArg (fun z : Int32 × CS => mW Y K z.2) hr9) (hE _ _ 2 dM_hang_14 rfl (congrArg Prod.fst hr9).symm)

def f_m_scang (t : Nat) (m : CS) : Int32 × CS := (if m 20 1 = 1 then ((f_m_sweep t (up2 m 20 0 0)).1, (f_m_sweep t (up2 m 20 0 0)).2) else (0, (up2 m 20 0 2)))
theorem i_m_scang (t : Nat) (ht : t < 4) (m : CS) (hI : InvM m) : InvM (f_m_scang t m).2 := by
  unfold f_m_scang
  exact (ite_m2 (fun h1 => (i_m_sweep t ht (up2 m 20 0 0) (InvM.upo hI rfl))) (fun h1 => (InvM.upo hI rfl)))
set_option maxRecDepth 100000 in
set_option maxHeartbeats 4000000 in
theorem k_m_scang (l : Launch) (D : va_G) (K : Nat → ClassId) (base : Nat) (Y : Nat → Nat) (t : Nat) (ht : t < 4) (m : CS) (hI : InvM m) : CtI l D K base yM_scan cM_scan 2 .int (rmD 2) [.ref (Y 0), .int (nI t)] (mW Y K m) (f_m_scang t m).1 (mW Y K (f_m_scang t m).2) := by
  refine CtI.enter (by decide) (Nat.le_of_ble_eq_true rfl) ?_
  intro κ A Q F hE
  show G κ l (rmD 2) A Q D 2 0 0 (mW Y K m) 0 [(0, .ref (Y 0)), (1, .int (nI t))] []
  refine G.aload_n 0 F dM_scan_0 rfl rfl ?_
  refine G.iload_n 1 F dM_scan_1 rfl rfl ?_
  refine G.callsi F (k_m_isThread l D K base Y (nI t) m hI) ckM_78 ⟨rfl, rfl⟩ ⟨by decide, by decide⟩ ⟨Nat.zero_le _, Nat.zero_le _⟩ rfl rfl (Nat.le_of_ble_eq_true rfl) dM_scan_2 ?_
  refine G.if_ne 12 F dM_scan_5 rfl (fun _ => ?_) (fun h9 => absurd h9 (isT ht m))
  refine G.aload_n 0 F dM_scan_12 rfl rfl ?_
  refine G.gM 1 F (by decide) flM_71 rfl dM_scan_13 ?_
  refine G.iconst 1 F dM_scan_16 (by decide) ?_
  refine G.icmp_eq 24 F dM_scan_17 rfl (fun h1 => ?_) (fun h1 => ?_)
  · skip
    refine G.iconst 0 F dM_scan_24 (by decide) ?_
    refine G.pM 0 F (by decide) flM_75 dM_scan_25 ?_
    refine G.aload_n 0 F dM_scan_28 rfl rfl ?_
    refine G.gM 0 F (by decide) flM_75 rfl dM_scan_29 ?_
    refine G.tope (y := 0) (up2_eq _ _ _ _) ?_
    refine G.if_le 39 F dM_scan_32 rfl (fun _ => ?_) (fun h9 => absurd (by decide) h9)
    refine G.aload_n 0 F dM_scan_39 rfl rfl ?_
    refine G.iload_n 1 F dM_scan_40 rfl rfl ?_
    refine G.calli F (k_m_sweep l D K base Y t ht (up2 m 20 0 0) (InvM.upo hI rfl)) ckM_88 mW_m rfl rfl ⟨rfl, rfl⟩ ⟨by decide, by decide⟩ ⟨Nat.zero_le _, Nat.zero_le _⟩ rfl rfl (Nat.le_of_ble_eq_true rfl) dM_scan_41 ?_
    have hr9 : f_m_scang t m = ((f_m_sweep t (up2 m 20 0 0)).1, (f_m_sweep t (up2 m 20 0 0)).2) := (if_pos h1)
    exact G.st (congrArg (fun z : Int32 × CS => mW Y K z.2) hr9) (hE _ _ ((f_m_sweep t (up2 m 20 0 0)).1) dM_scan_44 rfl (congrArg Prod.fst hr9).symm)
  · skip
    refine G.iconst 2 F dM_scan_20 (by decide) ?_
    refine G.goto 25 F dM_scan_21 rfl ?_
    refine G.pM 0 F (by decide) flM_75 dM_scan_25 ?_
    refine G.aload_n 0 F dM_scan_28 rfl rfl ?_
    refine G.gM 0 F (by decide) flM_75 rfl dM_scan_29 ?_
    refine G.tope (y := 2) (up2_eq _ _ _ _) ?_
    refine G.if_le 39 F dM_scan_32 rfl (fun h9 => absurd h9 (by decide)) (fun _ => ?_)
    refine G.iconst 0 F dM_scan_35 (by decide) ?_
    refine G.goto 44 F dM_scan_36 rfl ?_
    have hr9 : f_m_scang t m = (0, (up2 m 20 0 2)) := (if_neg h1)
    exact G.st (congrArg (fun z : Int32 × CS => mW Y K z.2) hr9) (hE _ _ 0 dM_scan_44 rfl (congrArg Prod.fst hr9).symm)

def f_m_scanb (v : Int32) (m : CS) : Int32 × CS := (0, (up2 m 20 0 1))
theorem i_m_scanb (v : Int32) (m : CS) (hI : InvM m) (hv : f_m_isThread v m = 0) : InvM (f_m_scanb v m).2 := by
  unfold f_m_scanb
  exact (InvM.upo hI rfl)
set_option maxRecDepth 100000 in
set_option maxHeartbeats 4000000 in
theorem k_m_scanb (l : Launch) (D : va_G) (K : Nat → ClassId) (base : Nat) (Y : Nat → Nat) (v : Int32) (m : CS) (hI : InvM m) (hv : f_m_isThread v m = 0) : CtI l D K base yM_scan cM_scan 2 .int (rmD 2) [.ref (Y 0), .int v] (mW Y K m) (f_m_scanb v m).1 (mW Y K (f_m_scanb v m).2) := by
  refine CtI.enter (by decide) (Nat.le_of_ble_eq_true rfl) ?_
  intro κ A Q F hE
  show G κ l (rmD 2) A Q D 2 0 0 (mW Y K m) 0 [(0, .ref (Y 0)), (1, .int v)] []
  refine G.aload_n 0 F dM_scan_0 rfl rfl ?_
  refine G.iload_n 1 F dM_scan_1 rfl rfl ?_
  refine G.callsi F (k_m_isThread l D K base Y v m hI) ckM_78 ⟨rfl, rfl⟩ ⟨by decide, by decide⟩ ⟨Nat.zero_le _, Nat.zero_le _⟩ rfl rfl (Nat.le_of_ble_eq_true rfl) dM_scan_2 ?_
  refine G.if_ne 12 F dM_scan_5 rfl (fun h9 => absurd hv h9) (fun _ => ?_)
  refine G.iconst 1 F dM_scan_8 (by decide) ?_
  refine G.goto 25 F dM_scan_9 rfl ?_
  refine G.pM 0 F (by decide) flM_75 dM_scan_25 ?_
  refine G.aload_n 0 F dM_scan_28 rfl rfl ?_
  refine G.gM 0 F (by decide) flM_75 rfl dM_scan_29 ?_
  refine G.tope (y := 1) (up2_eq _ _ _ _) ?_
  refine G.if_le 39 F dM_scan_32 rfl (fun h9 => absurd h9 (by decide)) (fun _ => ?_)
  refine G.iconst 0 F dM_scan_35 (by decide) ?_
  refine G.goto 44 F dM_scan_36 rfl ?_
  have hr9 : f_m_scanb v m = (0, (up2 m 20 0 1)) := rfl
  exact G.st (congrArg (fun z : Int32 × CS => mW Y K z.2) hr9) (hE _ _ 0 dM_scan_44 rfl (congrArg Prod.fst hr9).symm)

def f_m_cut (t : Nat) (m : CS) : Int32 × CS := (if f_m_linked t (f_m_lookBack t m) = 0 then (2, (f_m_lookBack t m)) else ((f_m_come t ((f_m_retire t ((f_m_link ((f_m_lookBack t m) 9 t) ((f_m_lookBack t m) 13 t) (f_m_lookBack t m)) 11 t) (f_m_link ((f_m_lookBack t m) 9 t) ((f_m_lookBack t m) 13 t) (f_m_lookBack t m))) 13 t) (f_m_retire t ((f_m_link ((f_m_lookBack t m) 9 t) ((f_m_lookBack t m) 13 t) (f_m_lookBack t m)) 11 t) (f_m_link ((f_m_lookBack t m) 9 t) ((f_m_lookBack t m) 13 t) (f_m_lookBack t m)))).1, (f_m_come t ((f_m_retire t ((f_m_link ((f_m_lookBack t m) 9 t) ((f_m_lookBack t m) 13 t) (f_m_lookBack t m)) 11 t) (f_m_link ((f_m_lookBack t m) 9 t) ((f_m_lookBack t m) 13 t) (f_m_lookBack t m))) 13 t) (f_m_retire t ((f_m_link ((f_m_lookBack t m) 9 t) ((f_m_lookBack t m) 13 t) (f_m_lookBack t m)) 11 t) (f_m_link ((f_m_lookBack t m) 9 t) ((f_m_lookBack t m) 13 t) (f_m_lookBack t m)))).2))
theorem i_m_cut (t : Nat) (ht : t < 4) (m : CS) (hI : InvM m) : InvM (f_m_cut t m).2 := by
  unfold f_m_cut
  exact (ite_m2 (fun h1 => (i_m_lookBack t ht m hI)) (fun h1 => (i_m_come t ht ((f_m_retire t ((f_m_link ((f_m_lookBack t m) 9 t) ((f_m_lookBack t m) 13 t) (f_m_lookBack t m)) 11 t) (f_m_link ((f_m_lookBack t m) 9 t) ((f_m_lookBack t m) 13 t) (f_m_lookBack t m))) 13 t) ((i_m_retire t ht ((f_m_link ((f_m_lookBack t m) 9 t) ((f_m_lookBack t m) 13 t) (f_m_lookBack t m)) 11 t) ((i_m_link ((f_m_lookBack t m) 9 t) ((i_m_lookBack t ht m hI) 9 _ rfl) ((f_m_lookBack t m) 13 t) ((i_m_lookBack t ht m hI) 13 _ rfl) (f_m_lookBack t m) (i_m_lookBack t ht m hI)) 11 _ rfl) (f_m_link ((f_m_lookBack t m) 9 t) ((f_m_lookBack t m) 13 t) (f_m_lookBack t m)) (i_m_link ((f_m_lookBack t m) 9 t) ((i_m_lookBack t ht m hI) 9 _ rfl) ((f_m_lookBack t m) 13 t) ((i_m_lookBack t ht m hI) 13 _ rfl) (f_m_lookBack t m) (i_m_lookBack t ht m hI))) 13 _ rfl) (f_m_retire t ((f_m_link ((f_m_lookBack t m) 9 t) ((f_m_lookBack t m) 13 t) (f_m_lookBack t m)) 11 t) (f_m_link ((f_m_lookBack t m) 9 t) ((f_m_lookBack t m) 13 t) (f_m_lookBack t m))) (i_m_retire t ht ((f_m_link ((f_m_lookBack t m) 9 t) ((f_m_lookBack t m) 13 t) (f_m_lookBack t m)) 11 t) ((i_m_link ((f_m_lookBack t m) 9 t) ((i_m_lookBack t ht m hI) 9 _ rfl) ((f_m_lookBack t m) 13 t) ((i_m_lookBack t ht m hI) 13 _ rfl) (f_m_lookBack t m) (i_m_lookBack t ht m hI)) 11 _ rfl) (f_m_link ((f_m_lookBack t m) 9 t) ((f_m_lookBack t m) 13 t) (f_m_lookBack t m)) (i_m_link ((f_m_lookBack t m) 9 t) ((i_m_lookBack t ht m hI) 9 _ rfl) ((f_m_lookBack t m) 13 t) ((i_m_lookBack t ht m hI) 13 _ rfl) (f_m_lookBack t m) (i_m_lookBack t ht m hI))))))
set_option maxRecDepth 100000 in
set_option maxHeartbeats 4000000 in
theorem k_m_cut (l : Launch) (D : va_G) (K : Nat → ClassId) (base : Nat) (Y : Nat → Nat) (t : Nat) (ht : t < 4) (m : CS) (hI : InvM m) : CtI l D K base yM_cut cM_cut 2 .int (rmD 3) [.ref (Y 0), .int (nI t)] (mW Y K m) (f_m_cut t m).1 (mW Y K (f_m_cut t m).2) := by
  refine CtI.enter (by decide) (Nat.le_of_ble_eq_true rfl) ?_
  intro κ A Q F hE
  show G κ l (rmD 3) A Q D 2 0 0 (mW Y K m) 0 [(0, .ref (Y 0)), (1, .int (nI t))] []
  refine G.aload_n 0 F dM_cut_0 rfl rfl ?_
  refine G.iload_n 1 F dM_cut_1 rfl rfl ?_
  refine G.callv F (k_m_lookBack l D K base Y t ht m hI) ckM_103 mW_m rfl rfl ⟨rfl, rfl⟩ ⟨by decide, by decide⟩ ⟨Nat.zero_le _, Nat.zero_le _⟩ rfl rfl (Nat.le_of_ble_eq_true rfl) dM_cut_2 ?_
  refine G.aload_n 0 F dM_cut_5 rfl rfl ?_
  refine G.iload_n 1 F dM_cut_6 rfl rfl ?_
  refine G.calli F (k_m_linked l D K base Y t ht (f_m_lookBack t m) (i_m_lookBack t ht m hI)) ckM_107 mW_m rfl rfl ⟨rfl, rfl⟩ ⟨by decide, by decide⟩ ⟨Nat.zero_le _, Nat.zero_le _⟩ rfl rfl (Nat.le_of_ble_eq_true rfl) dM_cut_7 ?_
  refine G.if_ne 15 F dM_cut_10 rfl (fun h1 => ?_) (fun h1 => ?_)
  · skip
    refine G.aload_n 0 F dM_cut_15 rfl rfl ?_
    refine G.aload_n 0 F dM_cut_16 rfl rfl ?_
    refine G.gM 13 F (by decide) flM_38 rfl dM_cut_17 ?_
    refine G.iload_n 1 F dM_cut_20 rfl rfl ?_
    refine G.ldMn 9 F (by decide) rfl (k := t) rfl ht dM_cut_21 ?_
    refine G.aload_n 0 F dM_cut_22 rfl rfl ?_
    refine G.gM 17 F (by decide) flM_50 rfl dM_cut_23 ?_
    refine G.iload_n 1 F dM_cut_26 rfl rfl ?_
    refine G.ldMn 13 F (by decide) rfl (k := t) rfl ht dM_cut_27 ?_
    refine G.iconst 0 F dM_cut_28 (by decide) ?_
    refine G.callv F (k_m_link l D K base Y ((f_m_lookBack t m) 9 t) ((i_m_lookBack t ht m hI) 9 _ rfl) ((f_m_lookBack t m) 13 t) ((i_m_lookBack t ht m hI) 13 _ rfl) (f_m_lookBack t m) (i_m_lookBack t ht m hI)) ckM_110 mW_m rfl rfl ⟨rfl, rfl⟩ ⟨by decide, by decide⟩ ⟨Nat.zero_le _, Nat.zero_le _⟩ rfl rfl (Nat.le_of_ble_eq_true rfl) dM_cut_29 ?_
    refine G.aload_n 0 F dM_cut_32 rfl rfl ?_
    refine G.iload_n 1 F dM_cut_33 rfl rfl ?_
    refine G.aload_n 0 F dM_cut_34 rfl rfl ?_
    refine G.gM 15 F (by decide) flM_44 rfl dM_cut_35 ?_
    refine G.iload_n 1 F dM_cut_38 rfl rfl ?_
    refine G.ldMn 11 F (by decide) rfl (k := t) rfl ht dM_cut_39 ?_
    refine G.callv F (k_m_retire l D K base Y t ht ((f_m_link ((f_m_lookBack t m) 9 t) ((f_m_lookBack t m) 13 t) (f_m_lookBack t m)) 11 t) ((i_m_link ((f_m_lookBack t m) 9 t) ((i_m_lookBack t ht m hI) 9 _ rfl) ((f_m_lookBack t m) 13 t) ((i_m_lookBack t ht m hI) 13 _ rfl) (f_m_lookBack t m) (i_m_lookBack t ht m hI)) 11 _ rfl) (f_m_link ((f_m_lookBack t m) 9 t) ((f_m_lookBack t m) 13 t) (f_m_lookBack t m)) (i_m_link ((f_m_lookBack t m) 9 t) ((i_m_lookBack t ht m hI) 9 _ rfl) ((f_m_lookBack t m) 13 t) ((i_m_lookBack t ht m hI) 13 _ rfl) (f_m_lookBack t m) (i_m_lookBack t ht m hI))) ckM_114 mW_m rfl rfl ⟨rfl, rfl⟩ ⟨by decide, by decide⟩ ⟨Nat.zero_le _, Nat.zero_le _⟩ rfl rfl (Nat.le_of_ble_eq_true rfl) dM_cut_40 ?_
    refine G.aload_n 0 F dM_cut_43 rfl rfl ?_
    refine G.iload_n 1 F dM_cut_44 rfl rfl ?_
    refine G.aload_n 0 F dM_cut_45 rfl rfl ?_
    refine G.gM 17 F (by decide) flM_50 rfl dM_cut_46 ?_
    refine G.iload_n 1 F dM_cut_49 rfl rfl ?_
    refine G.ldMn 13 F (by decide) rfl (k := t) rfl ht dM_cut_50 ?_
    refine G.calli F (k_m_come l D K base Y t ht ((f_m_retire t ((f_m_link ((f_m_lookBack t m) 9 t) ((f_m_lookBack t m) 13 t) (f_m_lookBack t m)) 11 t) (f_m_link ((f_m_lookBack t m) 9 t) ((f_m_lookBack t m) 13 t) (f_m_lookBack t m))) 13 t) ((i_m_retire t ht ((f_m_link ((f_m_lookBack t m) 9 t) ((f_m_lookBack t m) 13 t) (f_m_lookBack t m)) 11 t) ((i_m_link ((f_m_lookBack t m) 9 t) ((i_m_lookBack t ht m hI) 9 _ rfl) ((f_m_lookBack t m) 13 t) ((i_m_lookBack t ht m hI) 13 _ rfl) (f_m_lookBack t m) (i_m_lookBack t ht m hI)) 11 _ rfl) (f_m_link ((f_m_lookBack t m) 9 t) ((f_m_lookBack t m) 13 t) (f_m_lookBack t m)) (i_m_link ((f_m_lookBack t m) 9 t) ((i_m_lookBack t ht m hI) 9 _ rfl) ((f_m_lookBack t m) 13 t) ((i_m_lookBack t ht m hI) 13 _ rfl) (f_m_lookBack t m) (i_m_lookBack t ht m hI))) 13 _ rfl) (f_m_retire t ((f_m_link ((f_m_lookBack t m) 9 t) ((f_m_lookBack t m) 13 t) (f_m_lookBack t m)) 11 t) (f_m_link ((f_m_lookBack t m) 9 t) ((f_m_lookBack t m) 13 t) (f_m_lookBack t m))) (i_m_retire t ht ((f_m_link ((f_m_lookBack t m) 9 t) ((f_m_lookBack t m) 13 t) (f_m_lookBack t m)) 11 t) ((i_m_link ((f_m_lookBack t m) 9 t) ((i_m_lookBack t ht m hI) 9 _ rfl) ((f_m_lookBack t m) 13 t) ((i_m_lookBack t ht m hI) 13 _ rfl) (f_m_lookBack t m) (i_m_lookBack t ht m hI)) 11 _ rfl) (f_m_link ((f_m_lookBack t m) 9 t) ((f_m_lookBack t m) 13 t) (f_m_lookBack t m)) (i_m_link ((f_m_lookBack t m) 9 t) ((i_m_lookBack t ht m hI) 9 _ rfl) ((f_m_lookBack t m) 13 t) ((i_m_lookBack t ht m hI) 13 _ rfl) (f_m_lookBack t m) (i_m_lookBack t ht m hI)))) ckM_99 mW_m rfl rfl ⟨rfl, rfl⟩ ⟨by decide, by decide⟩ ⟨Nat.zero_le _, Nat.zero_le _⟩ rfl rfl (Nat.le_of_ble_eq_true rfl) dM_cut_51 ?_
    have hr9 : f_m_cut t m = ((f_m_come t ((f_m_retire t ((f_m_link ((f_m_lookBack t m) 9 t) ((f_m_lookBack t m) 13 t) (f_m_lookBack t m)) 11 t) (f_m_link ((f_m_lookBack t m) 9 t) ((f_m_lookBack t m) 13 t) (f_m_lookBack t m))) 13 t) (f_m_retire t ((f_m_link ((f_m_lookBack t m) 9 t) ((f_m_lookBack t m) 13 t) (f_m_lookBack t m)) 11 t) (f_m_link ((f_m_lookBack t m) 9 t) ((f_m_lookBack t m) 13 t) (f_m_lookBack t m)))).1, (f_m_come t ((f_m_retire t ((f_m_link ((f_m_lookBack t m) 9 t) ((f_m_lookBack t m) 13 t) (f_m_lookBack t m)) 11 t) (f_m_link ((f_m_lookBack t m) 9 t) ((f_m_lookBack t m) 13 t) (f_m_lookBack t m))) 13 t) (f_m_retire t ((f_m_link ((f_m_lookBack t m) 9 t) ((f_m_lookBack t m) 13 t) (f_m_lookBack t m)) 11 t) (f_m_link ((f_m_lookBack t m) 9 t) ((f_m_lookBack t m) 13 t) (f_m_lookBack t m)))).2) := (if_neg h1)
    exact G.st (congrArg (fun z : Int32 × CS => mW Y K z.2) hr9) (hE _ _ ((f_m_come t ((f_m_retire t ((f_m_link ((f_m_lookBack t m) 9 t) ((f_m_lookBack t m) 13 t) (f_m_lookBack t m)) 11 t) (f_m_link ((f_m_lookBack t m) 9 t) ((f_m_lookBack t m) 13 t) (f_m_lookBack t m))) 13 t) (f_m_retire t ((f_m_link ((f_m_lookBack t m) 9 t) ((f_m_lookBack t m) 13 t) (f_m_lookBack t m)) 11 t) (f_m_link ((f_m_lookBack t m) 9 t) ((f_m_lookBack t m) 13 t) (f_m_lookBack t m)))).1) dM_cut_54 rfl (congrArg Prod.fst hr9).symm)
  · skip
    refine G.iconst 2 F dM_cut_13 (by decide) ?_
    have hr9 : f_m_cut t m = (2, (f_m_lookBack t m)) := (if_pos h1)
    exact G.st (congrArg (fun z : Int32 × CS => mW Y K z.2) hr9) (hE _ _ 2 dM_cut_14 rfl (congrArg Prod.fst hr9).symm)

def f_m_unhang (t : Nat) (m : CS) : Int32 × CS := (if f_m_linked t (up2 (f_m_lookBack t m) 16 t 1) = 0 then (9, (up2 (f_m_lookBack t m) 16 t 1)) else (9, (f_m_retire t ((f_m_link ((f_m_lookBack t m) 9 t) ((f_m_lookBack t m) 13 t) (up2 (f_m_lookBack t m) 16 t 1)) 11 t) (f_m_link ((f_m_lookBack t m) 9 t) ((f_m_lookBack t m) 13 t) (up2 (f_m_lookBack t m) 16 t 1)))))
theorem i_m_unhang (t : Nat) (ht : t < 4) (m : CS) (hI : InvM m) : InvM (f_m_unhang t m).2 := by
  unfold f_m_unhang
  exact (ite_m2 (fun h1 => (InvM.upo (i_m_lookBack t ht m hI) rfl)) (fun h1 => (i_m_retire t ht ((f_m_link ((f_m_lookBack t m) 9 t) ((f_m_lookBack t m) 13 t) (up2 (f_m_lookBack t m) 16 t 1)) 11 t) ((i_m_link ((f_m_lookBack t m) 9 t) ((i_m_lookBack t ht m hI) 9 _ rfl) ((f_m_lookBack t m) 13 t) ((i_m_lookBack t ht m hI) 13 _ rfl) (up2 (f_m_lookBack t m) 16 t 1) (InvM.upo (i_m_lookBack t ht m hI) rfl)) 11 _ rfl) (f_m_link ((f_m_lookBack t m) 9 t) ((f_m_lookBack t m) 13 t) (up2 (f_m_lookBack t m) 16 t 1)) (i_m_link ((f_m_lookBack t m) 9 t) ((i_m_lookBack t ht m hI) 9 _ rfl) ((f_m_lookBack t m) 13 t) ((i_m_lookBack t ht m hI) 13 _ rfl) (up2 (f_m_lookBack t m) 16 t 1) (InvM.upo (i_m_lookBack t ht m hI) rfl)))))
set_option maxRecDepth 100000 in
set_option maxHeartbeats 4000000 in
theorem k_m_unhang (l : Launch) (D : va_G) (K : Nat → ClassId) (base : Nat) (Y : Nat → Nat) (t : Nat) (ht : t < 4) (m : CS) (hI : InvM m) : CtI l D K base yM_unhang cM_unhang 2 .int (rmD 3) [.ref (Y 0), .int (nI t)] (mW Y K m) (f_m_unhang t m).1 (mW Y K (f_m_unhang t m).2) := by
  refine CtI.enter (by decide) (Nat.le_of_ble_eq_true rfl) ?_
  intro κ A Q F hE
  show G κ l (rmD 3) A Q D 2 0 0 (mW Y K m) 0 [(0, .ref (Y 0)), (1, .int (nI t))] []
  refine G.aload_n 0 F dM_unhang_0 rfl rfl ?_
  refine G.iload_n 1 F dM_unhang_1 rfl rfl ?_
  refine G.callv F (k_m_lookBack l D K base Y t ht m hI) ckM_103 mW_m rfl rfl ⟨rfl, rfl⟩ ⟨by decide, by decide⟩ ⟨Nat.zero_le _, Nat.zero_le _⟩ rfl rfl (Nat.le_of_ble_eq_true rfl) dM_unhang_2 ?_
  refine G.aload_n 0 F dM_unhang_5 rfl rfl ?_
  refine G.gM 20 F (by decide) flM_59 rfl dM_unhang_6 ?_
  refine G.iload_n 1 F dM_unhang_9 rfl rfl ?_
  refine G.iconst 1 F dM_unhang_10 (by decide) ?_
  refine G.stMn 16 F (by decide) rfl (k := t) rfl ht dM_unhang_11 ?_
  refine G.aload_n 0 F dM_unhang_12 rfl rfl ?_
  refine G.iload_n 1 F dM_unhang_13 rfl rfl ?_
  refine G.calli F (k_m_linked l D K base Y t ht (up2 (f_m_lookBack t m) 16 t 1) (InvM.upo (i_m_lookBack t ht m hI) rfl)) ckM_107 mW_m rfl rfl ⟨rfl, rfl⟩ ⟨by decide, by decide⟩ ⟨Nat.zero_le _, Nat.zero_le _⟩ rfl rfl (Nat.le_of_ble_eq_true rfl) dM_unhang_14 ?_
  refine G.if_eq 48 F dM_unhang_17 rfl (fun h1 => ?_) (fun h1 => ?_)
  · skip
    refine G.bipush 9 F dM_unhang_48 (by decide) ?_
    have hr9 : f_m_unhang t m = (9, (up2 (f_m_lookBack t m) 16 t 1)) := (if_pos h1)
    exact G.st (congrArg (fun z : Int32 × CS => mW Y K z.2) hr9) (hE _ _ 9 dM_unhang_50 rfl (congrArg Prod.fst hr9).symm)
  · skip
    refine G.aload_n 0 F dM_unhang_20 rfl rfl ?_
    refine G.aload_n 0 F dM_unhang_21 rfl rfl ?_
    refine G.gM 13 F (by decide) flM_38 rfl dM_unhang_22 ?_
    refine G.iload_n 1 F dM_unhang_25 rfl rfl ?_
    refine G.ldMn 9 F (by decide) rfl (k := t) rfl ht dM_unhang_26 ?_
    refine G.tope (y := (f_m_lookBack t m) 9 t) (up2_f _ _ _ _ (by decide)) ?_
    refine G.aload_n 0 F dM_unhang_27 rfl rfl ?_
    refine G.gM 17 F (by decide) flM_50 rfl dM_unhang_28 ?_
    refine G.iload_n 1 F dM_unhang_31 rfl rfl ?_
    refine G.ldMn 13 F (by decide) rfl (k := t) rfl ht dM_unhang_32 ?_
    refine G.tope (y := (f_m_lookBack t m) 13 t) (up2_f _ _ _ _ (by decide)) ?_
    refine G.iconst 0 F dM_unhang_33 (by decide) ?_
    refine G.callv F (k_m_link l D K base Y ((f_m_lookBack t m) 9 t) ((i_m_lookBack t ht m hI) 9 _ rfl) ((f_m_lookBack t m) 13 t) ((i_m_lookBack t ht m hI) 13 _ rfl) (up2 (f_m_lookBack t m) 16 t 1) (InvM.upo (i_m_lookBack t ht m hI) rfl)) ckM_110 mW_m rfl rfl ⟨rfl, rfl⟩ ⟨by decide, by decide⟩ ⟨Nat.zero_le _, Nat.zero_le _⟩ rfl rfl (Nat.le_of_ble_eq_true rfl) dM_unhang_34 ?_
    refine G.aload_n 0 F dM_unhang_37 rfl rfl ?_
    refine G.iload_n 1 F dM_unhang_38 rfl rfl ?_
    refine G.aload_n 0 F dM_unhang_39 rfl rfl ?_
    refine G.gM 15 F (by decide) flM_44 rfl dM_unhang_40 ?_
    refine G.iload_n 1 F dM_unhang_43 rfl rfl ?_
    refine G.ldMn 11 F (by decide) rfl (k := t) rfl ht dM_unhang_44 ?_
    refine G.callv F (k_m_retire l D K base Y t ht ((f_m_link ((f_m_lookBack t m) 9 t) ((f_m_lookBack t m) 13 t) (up2 (f_m_lookBack t m) 16 t 1)) 11 t) ((i_m_link ((f_m_lookBack t m) 9 t) ((i_m_lookBack t ht m hI) 9 _ rfl) ((f_m_lookBack t m) 13 t) ((i_m_lookBack t ht m hI) 13 _ rfl) (up2 (f_m_lookBack t m) 16 t 1) (InvM.upo (i_m_lookBack t ht m hI) rfl)) 11 _ rfl) (f_m_link ((f_m_lookBack t m) 9 t) ((f_m_lookBack t m) 13 t) (up2 (f_m_lookBack t m) 16 t 1)) (i_m_link ((f_m_lookBack t m) 9 t) ((i_m_lookBack t ht m hI) 9 _ rfl) ((f_m_lookBack t m) 13 t) ((i_m_lookBack t ht m hI) 13 _ rfl) (up2 (f_m_lookBack t m) 16 t 1) (InvM.upo (i_m_lookBack t ht m hI) rfl))) ckM_114 mW_m rfl rfl ⟨rfl, rfl⟩ ⟨by decide, by decide⟩ ⟨Nat.zero_le _, Nat.zero_le _⟩ rfl rfl (Nat.le_of_ble_eq_true rfl) dM_unhang_45 ?_
    refine G.bipush 9 F dM_unhang_48 (by decide) ?_
    have hr9 : f_m_unhang t m = (9, (f_m_retire t ((f_m_link ((f_m_lookBack t m) 9 t) ((f_m_lookBack t m) 13 t) (up2 (f_m_lookBack t m) 16 t 1)) 11 t) (f_m_link ((f_m_lookBack t m) 9 t) ((f_m_lookBack t m) 13 t) (up2 (f_m_lookBack t m) 16 t 1)))) := (if_neg h1)
    exact G.st (congrArg (fun z : Int32 × CS => mW Y K z.2) hr9) (hE _ _ 9 dM_unhang_50 rfl (congrArg Prod.fst hr9).symm)

def f_m_advanceThread (t : Nat) (m : CS) : CS := (if m 6 t = 1 then (if m 20 1 = 0 then (up2 (up2 m 18 t (m 20 2)) 6 t 2) else (up2 (up2 m 18 t (-1)) 6 t 2)) else (if m 6 t = 2 then (up2 (f_m_head t m).2 6 t ((f_m_head t m).1)) else (if m 6 t = 3 then (up2 (f_m_name t m).2 6 t ((f_m_name t m).1)) else (if m 6 t = 4 then (up2 (f_m_check t m).2 6 t ((f_m_check t m).1)) else (if m 6 t = 5 then (up2 (f_m_read t m).2 6 t ((f_m_read t m).1)) else (if m 6 t = 6 then (up2 (f_m_cut t m).2 6 t ((f_m_cut t m).1)) else (if m 6 t = 7 then (up2 (f_m_act t m).2 6 t ((f_m_act t m).1)) else (if m 6 t = 8 then (up2 (f_m_hang t m).2 6 t ((f_m_hang t m).1)) else (if m 6 t = 9 then (up2 (f_m_end t m).2 6 t ((f_m_end t m).1)) else (up2 (f_m_unhang t m).2 6 t ((f_m_unhang t m).1)))))))))))
theorem i_m_advanceThread (t : Nat) (ht : t < 4) (m : CS) (hI : InvM m) : InvM (f_m_advanceThread t m) := by
  unfold f_m_advanceThread
  exact (ite_m (fun h1 => (ite_m (fun h2 => (InvM.upo (InvM.upo hI rfl) rfl)) (fun h2 => (InvM.upo (InvM.upo hI rfl) rfl)))) (fun h1 => (ite_m (fun h3 => (InvM.upo (i_m_head t ht m hI) rfl)) (fun h3 => (ite_m (fun h4 => (InvM.upo (i_m_name t ht m hI) rfl)) (fun h4 => (ite_m (fun h5 => (InvM.upo (i_m_check t ht m hI) rfl)) (fun h5 => (ite_m (fun h6 => (InvM.upo (i_m_read t ht m hI) rfl)) (fun h6 => (ite_m (fun h7 => (InvM.upo (i_m_cut t ht m hI) rfl)) (fun h7 => (ite_m (fun h8 => (InvM.upo (i_m_act t ht m hI) rfl)) (fun h8 => (ite_m (fun h9 => (InvM.upo (i_m_hang t ht m hI) rfl)) (fun h9 => (ite_m (fun h10 => (InvM.upo (i_m_end t ht m hI) rfl)) (fun h10 => (InvM.upo (i_m_unhang t ht m hI) rfl)))))))))))))))))))
set_option maxRecDepth 100000 in
set_option maxHeartbeats 4000000 in
theorem k_m_advanceThread (l : Launch) (D : va_G) (K : Nat → ClassId) (base : Nat) (Y : Nat → Nat) (t : Nat) (ht : t < 4) (m : CS) (hI : InvM m) : CtV l D K base yM_advanceThread cM_advanceThread 3 (rmD 4) [.ref (Y 0), .int (nI t)] (mW Y K m) (mW Y K (f_m_advanceThread t m)) := by
  refine CtV.enter (by decide) (Nat.le_of_ble_eq_true rfl) ?_
  intro κ A Q F hE
  show G κ l (rmD 4) A Q D 3 0 0 (mW Y K m) 0 [(0, .ref (Y 0)), (1, .int (nI t))] []
  refine G.aload_n 0 F dM_advanceThread_0 rfl rfl ?_
  refine G.gM 10 F (by decide) flM_29 rfl dM_advanceThread_1 ?_
  refine G.iload_n 1 F dM_advanceThread_4 rfl rfl ?_
  refine G.ldMn 6 F (by decide) rfl (k := t) rfl ht dM_advanceThread_5 ?_
  by_cases h1 : m 6 t = 1
  · skip
    refine G.tabIn 56 (off := 50) F dM_advanceThread_6 (sw_lo h1 (by decide)) (sw_hi h1 (by decide)) (sw_at h1 rfl) rfl ?_
    refine G.aload_n 0 F dM_advanceThread_56 rfl rfl ?_
    refine G.gM 22 F (by decide) flM_65 rfl dM_advanceThread_57 ?_
    refine G.iload_n 1 F dM_advanceThread_60 rfl rfl ?_
    refine G.aload_n 0 F dM_advanceThread_61 rfl rfl ?_
    refine G.gM 1 F (by decide) flM_71 rfl dM_advanceThread_62 ?_
    refine G.if_ne 75 F dM_advanceThread_65 rfl (fun h2 => ?_) (fun h2 => ?_)
    · skip
      refine G.iconst (-1) F dM_advanceThread_75 (by decide) ?_
      refine G.stMn 18 F (by decide) rfl (k := t) rfl ht dM_advanceThread_76 ?_
      refine G.iconst 2 F dM_advanceThread_77 (by decide) ?_
      refine G.istore_nN F dM_advanceThread_78 rfl (by decide) rfl ?_
      refine G.goto 160 F dM_advanceThread_79 rfl ?_
      refine G.aload_n 1 F dM_advanceThread_160 rfl rfl ?_
      refine G.gM 10 F (by decide) flM_29 rfl dM_advanceThread_161 ?_
      refine G.iload_n 2 F dM_advanceThread_164 rfl rfl ?_
      refine G.iload_n 0 F dM_advanceThread_165 rfl rfl ?_
      refine G.stMn 6 F (by decide) rfl (k := t) rfl ht dM_advanceThread_166 ?_
      exact G.st (congrArg (mW Y K) ((if_pos h1).trans (if_neg h2))) (hE _ _ dM_advanceThread_167)
    · skip
      refine G.aload_n 0 F dM_advanceThread_68 rfl rfl ?_
      refine G.gM 2 F (by decide) flM_85 rfl dM_advanceThread_69 ?_
      refine G.goto 76 F dM_advanceThread_72 rfl ?_
      refine G.stMn 18 F (by decide) rfl (k := t) rfl ht dM_advanceThread_76 ?_
      refine G.iconst 2 F dM_advanceThread_77 (by decide) ?_
      refine G.istore_nN F dM_advanceThread_78 rfl (by decide) rfl ?_
      refine G.goto 160 F dM_advanceThread_79 rfl ?_
      refine G.aload_n 1 F dM_advanceThread_160 rfl rfl ?_
      refine G.gM 10 F (by decide) flM_29 rfl dM_advanceThread_161 ?_
      refine G.iload_n 2 F dM_advanceThread_164 rfl rfl ?_
      refine G.iload_n 0 F dM_advanceThread_165 rfl rfl ?_
      refine G.stMn 6 F (by decide) rfl (k := t) rfl ht dM_advanceThread_166 ?_
      exact G.st (congrArg (mW Y K) ((if_pos h1).trans (if_pos h2))) (hE _ _ dM_advanceThread_167)
  by_cases h3 : m 6 t = 2
  · skip
    refine G.tabIn 82 (off := 76) F dM_advanceThread_6 (sw_lo h3 (by decide)) (sw_hi h3 (by decide)) (sw_at h3 rfl) rfl ?_
    refine G.aload_n 0 F dM_advanceThread_82 rfl rfl ?_
    refine G.iload_n 1 F dM_advanceThread_83 rfl rfl ?_
    refine G.calli F (k_m_head l D K base Y t ht m hI) ckM_123 mW_m rfl rfl ⟨rfl, rfl⟩ ⟨by decide, by decide⟩ ⟨Nat.zero_le _, Nat.zero_le _⟩ rfl rfl (Nat.le_of_ble_eq_true rfl) dM_advanceThread_84 ?_
    refine G.istore_nN F dM_advanceThread_87 rfl (by decide) rfl ?_
    refine G.goto 160 F dM_advanceThread_88 rfl ?_
    refine G.aload_n 1 F dM_advanceThread_160 rfl rfl ?_
    refine G.gM 10 F (by decide) flM_29 rfl dM_advanceThread_161 ?_
    refine G.iload_n 2 F dM_advanceThread_164 rfl rfl ?_
    refine G.iload_n 0 F dM_advanceThread_165 rfl rfl ?_
    refine G.stMn 6 F (by decide) rfl (k := t) rfl ht dM_advanceThread_166 ?_
    exact G.st (congrArg (mW Y K) ((if_neg h1).trans (if_pos h3))) (hE _ _ dM_advanceThread_167)
  by_cases h4 : m 6 t = 3
  · skip
    refine G.tabIn 91 (off := 85) F dM_advanceThread_6 (sw_lo h4 (by decide)) (sw_hi h4 (by decide)) (sw_at h4 rfl) rfl ?_
    refine G.aload_n 0 F dM_advanceThread_91 rfl rfl ?_
    refine G.iload_n 1 F dM_advanceThread_92 rfl rfl ?_
    refine G.calli F (k_m_name l D K base Y t ht m hI) ckM_126 mW_m rfl rfl ⟨rfl, rfl⟩ ⟨by decide, by decide⟩ ⟨Nat.zero_le _, Nat.zero_le _⟩ rfl rfl (Nat.le_of_ble_eq_true rfl) dM_advanceThread_93 ?_
    refine G.istore_nN F dM_advanceThread_96 rfl (by decide) rfl ?_
    refine G.goto 160 F dM_advanceThread_97 rfl ?_
    refine G.aload_n 1 F dM_advanceThread_160 rfl rfl ?_
    refine G.gM 10 F (by decide) flM_29 rfl dM_advanceThread_161 ?_
    refine G.iload_n 2 F dM_advanceThread_164 rfl rfl ?_
    refine G.iload_n 0 F dM_advanceThread_165 rfl rfl ?_
    refine G.stMn 6 F (by decide) rfl (k := t) rfl ht dM_advanceThread_166 ?_
    exact G.st (congrArg (mW Y K) ((if_neg h1).trans ((if_neg h3).trans (if_pos h4)))) (hE _ _ dM_advanceThread_167)
  by_cases h5 : m 6 t = 4
  · skip
    refine G.tabIn 100 (off := 94) F dM_advanceThread_6 (sw_lo h5 (by decide)) (sw_hi h5 (by decide)) (sw_at h5 rfl) rfl ?_
    refine G.aload_n 0 F dM_advanceThread_100 rfl rfl ?_
    refine G.iload_n 1 F dM_advanceThread_101 rfl rfl ?_
    refine G.calli F (k_m_check l D K base Y t ht m hI) ckM_129 mW_m rfl rfl ⟨rfl, rfl⟩ ⟨by decide, by decide⟩ ⟨Nat.zero_le _, Nat.zero_le _⟩ rfl rfl (Nat.le_of_ble_eq_true rfl) dM_advanceThread_102 ?_
    refine G.istore_nN F dM_advanceThread_105 rfl (by decide) rfl ?_
    refine G.goto 160 F dM_advanceThread_106 rfl ?_
    refine G.aload_n 1 F dM_advanceThread_160 rfl rfl ?_
    refine G.gM 10 F (by decide) flM_29 rfl dM_advanceThread_161 ?_
    refine G.iload_n 2 F dM_advanceThread_164 rfl rfl ?_
    refine G.iload_n 0 F dM_advanceThread_165 rfl rfl ?_
    refine G.stMn 6 F (by decide) rfl (k := t) rfl ht dM_advanceThread_166 ?_
    exact G.st (congrArg (mW Y K) ((if_neg h1).trans ((if_neg h3).trans ((if_neg h4).trans (if_pos h5))))) (hE _ _ dM_advanceThread_167)
  by_cases h6 : m 6 t = 5
  · skip
    refine G.tabIn 109 (off := 103) F dM_advanceThread_6 (sw_lo h6 (by decide)) (sw_hi h6 (by decide)) (sw_at h6 rfl) rfl ?_
    refine G.aload_n 0 F dM_advanceThread_109 rfl rfl ?_
    refine G.iload_n 1 F dM_advanceThread_110 rfl rfl ?_
    refine G.calli F (k_m_read l D K base Y t ht m hI) ckM_132 mW_m rfl rfl ⟨rfl, rfl⟩ ⟨by decide, by decide⟩ ⟨Nat.zero_le _, Nat.zero_le _⟩ rfl rfl (Nat.le_of_ble_eq_true rfl) dM_advanceThread_111 ?_
    refine G.istore_nN F dM_advanceThread_114 rfl (by decide) rfl ?_
    refine G.goto 160 F dM_advanceThread_115 rfl ?_
    refine G.aload_n 1 F dM_advanceThread_160 rfl rfl ?_
    refine G.gM 10 F (by decide) flM_29 rfl dM_advanceThread_161 ?_
    refine G.iload_n 2 F dM_advanceThread_164 rfl rfl ?_
    refine G.iload_n 0 F dM_advanceThread_165 rfl rfl ?_
    refine G.stMn 6 F (by decide) rfl (k := t) rfl ht dM_advanceThread_166 ?_
    exact G.st (congrArg (mW Y K) ((if_neg h1).trans ((if_neg h3).trans ((if_neg h4).trans ((if_neg h5).trans (if_pos h6)))))) (hE _ _ dM_advanceThread_167)
  by_cases h7 : m 6 t = 6
  · skip
    refine G.tabIn 118 (off := 112) F dM_advanceThread_6 (sw_lo h7 (by decide)) (sw_hi h7 (by decide)) (sw_at h7 rfl) rfl ?_
    refine G.aload_n 0 F dM_advanceThread_118 rfl rfl ?_
    refine G.iload_n 1 F dM_advanceThread_119 rfl rfl ?_
    refine G.calli F (k_m_cut l D K base Y t ht m hI) ckM_135 mW_m rfl rfl ⟨rfl, rfl⟩ ⟨by decide, by decide⟩ ⟨Nat.zero_le _, Nat.zero_le _⟩ rfl rfl (Nat.le_of_ble_eq_true rfl) dM_advanceThread_120 ?_
    refine G.istore_nN F dM_advanceThread_123 rfl (by decide) rfl ?_
    refine G.goto 160 F dM_advanceThread_124 rfl ?_
    refine G.aload_n 1 F dM_advanceThread_160 rfl rfl ?_
    refine G.gM 10 F (by decide) flM_29 rfl dM_advanceThread_161 ?_
    refine G.iload_n 2 F dM_advanceThread_164 rfl rfl ?_
    refine G.iload_n 0 F dM_advanceThread_165 rfl rfl ?_
    refine G.stMn 6 F (by decide) rfl (k := t) rfl ht dM_advanceThread_166 ?_
    exact G.st (congrArg (mW Y K) ((if_neg h1).trans ((if_neg h3).trans ((if_neg h4).trans ((if_neg h5).trans ((if_neg h6).trans (if_pos h7))))))) (hE _ _ dM_advanceThread_167)
  by_cases h8 : m 6 t = 7
  · skip
    refine G.tabIn 127 (off := 121) F dM_advanceThread_6 (sw_lo h8 (by decide)) (sw_hi h8 (by decide)) (sw_at h8 rfl) rfl ?_
    refine G.aload_n 0 F dM_advanceThread_127 rfl rfl ?_
    refine G.iload_n 1 F dM_advanceThread_128 rfl rfl ?_
    refine G.calli F (k_m_act l D K base Y t ht m hI) ckM_138 mW_m rfl rfl ⟨rfl, rfl⟩ ⟨by decide, by decide⟩ ⟨Nat.zero_le _, Nat.zero_le _⟩ rfl rfl (Nat.le_of_ble_eq_true rfl) dM_advanceThread_129 ?_
    refine G.istore_nN F dM_advanceThread_132 rfl (by decide) rfl ?_
    refine G.goto 160 F dM_advanceThread_133 rfl ?_
    refine G.aload_n 1 F dM_advanceThread_160 rfl rfl ?_
    refine G.gM 10 F (by decide) flM_29 rfl dM_advanceThread_161 ?_
    refine G.iload_n 2 F dM_advanceThread_164 rfl rfl ?_
    refine G.iload_n 0 F dM_advanceThread_165 rfl rfl ?_
    refine G.stMn 6 F (by decide) rfl (k := t) rfl ht dM_advanceThread_166 ?_
    exact G.st (congrArg (mW Y K) ((if_neg h1).trans ((if_neg h3).trans ((if_neg h4).trans ((if_neg h5).trans ((if_neg h6).trans ((if_neg h7).trans (if_pos h8)))))))) (hE _ _ dM_advanceThread_167)
  by_cases h9 : m 6 t = 8
  · skip
    refine G.tabIn 136 (off := 130) F dM_advanceThread_6 (sw_lo h9 (by decide)) (sw_hi h9 (by decide)) (sw_at h9 rfl) rfl ?_
    refine G.aload_n 0 F dM_advanceThread_136 rfl rfl ?_
    refine G.iload_n 1 F dM_advanceThread_137 rfl rfl ?_
    refine G.calli F (k_m_hang l D K base Y t ht m hI) ckM_141 mW_m rfl rfl ⟨rfl, rfl⟩ ⟨by decide, by decide⟩ ⟨Nat.zero_le _, Nat.zero_le _⟩ rfl rfl (Nat.le_of_ble_eq_true rfl) dM_advanceThread_138 ?_
    refine G.istore_nN F dM_advanceThread_141 rfl (by decide) rfl ?_
    refine G.goto 160 F dM_advanceThread_142 rfl ?_
    refine G.aload_n 1 F dM_advanceThread_160 rfl rfl ?_
    refine G.gM 10 F (by decide) flM_29 rfl dM_advanceThread_161 ?_
    refine G.iload_n 2 F dM_advanceThread_164 rfl rfl ?_
    refine G.iload_n 0 F dM_advanceThread_165 rfl rfl ?_
    refine G.stMn 6 F (by decide) rfl (k := t) rfl ht dM_advanceThread_166 ?_
    exact G.st (congrArg (mW Y K) ((if_neg h1).trans ((if_neg h3).trans ((if_neg h4).trans ((if_neg h5).trans ((if_neg h6).trans ((if_neg h7).trans ((if_neg h8).trans (if_pos h9))))))))) (hE _ _ dM_advanceThread_167)
  by_cases h10 : m 6 t = 9
  · skip
    refine G.tabIn 145 (off := 139) F dM_advanceThread_6 (sw_lo h10 (by decide)) (sw_hi h10 (by decide)) (sw_at h10 rfl) rfl ?_
    refine G.aload_n 0 F dM_advanceThread_145 rfl rfl ?_
    refine G.iload_n 1 F dM_advanceThread_146 rfl rfl ?_
    refine G.calli F (k_m_end l D K base Y t ht m hI) ckM_144 mW_m rfl rfl ⟨rfl, rfl⟩ ⟨by decide, by decide⟩ ⟨Nat.zero_le _, Nat.zero_le _⟩ rfl rfl (Nat.le_of_ble_eq_true rfl) dM_advanceThread_147 ?_
    refine G.istore_nN F dM_advanceThread_150 rfl (by decide) rfl ?_
    refine G.goto 160 F dM_advanceThread_151 rfl ?_
    refine G.aload_n 1 F dM_advanceThread_160 rfl rfl ?_
    refine G.gM 10 F (by decide) flM_29 rfl dM_advanceThread_161 ?_
    refine G.iload_n 2 F dM_advanceThread_164 rfl rfl ?_
    refine G.iload_n 0 F dM_advanceThread_165 rfl rfl ?_
    refine G.stMn 6 F (by decide) rfl (k := t) rfl ht dM_advanceThread_166 ?_
    exact G.st (congrArg (mW Y K) ((if_neg h1).trans ((if_neg h3).trans ((if_neg h4).trans ((if_neg h5).trans ((if_neg h6).trans ((if_neg h7).trans ((if_neg h8).trans ((if_neg h9).trans (if_pos h10)))))))))) (hE _ _ dM_advanceThread_167)
  refine G.tabOut 154 F dM_advanceThread_6 (by have e0 := lv_neT h1 (show (1 : Int32).toInt = 1 from rfl); have e1 := lv_neT h3 (show (2 : Int32).toInt = 2 from rfl); have e2 := lv_neT h4 (show (3 : Int32).toInt = 3 from rfl); have e3 := lv_neT h5 (show (4 : Int32).toInt = 4 from rfl); have e4 := lv_neT h6 (show (5 : Int32).toInt = 5 from rfl); have e5 := lv_neT h7 (show (6 : Int32).toInt = 6 from rfl); have e6 := lv_neT h8 (show (7 : Int32).toInt = 7 from rfl); have e7 := lv_neT h9 (show (8 : Int32).toInt = 8 from rfl); have e8 := lv_neT h10 (show (9 : Int32).toInt = 9 from rfl); omega) rfl ?_
  refine G.aload_n 0 F dM_advanceThread_154 rfl rfl ?_
  refine G.iload_n 1 F dM_advanceThread_155 rfl rfl ?_
  refine G.calli F (k_m_unhang l D K base Y t ht m hI) ckM_147 mW_m rfl rfl ⟨rfl, rfl⟩ ⟨by decide, by decide⟩ ⟨Nat.zero_le _, Nat.zero_le _⟩ rfl rfl (Nat.le_of_ble_eq_true rfl) dM_advanceThread_156 ?_
  refine G.istore_nN F dM_advanceThread_159 rfl (by decide) rfl ?_
  refine G.aload_n 1 F dM_advanceThread_160 rfl rfl ?_
  refine G.gM 10 F (by decide) flM_29 rfl dM_advanceThread_161 ?_
  refine G.iload_n 2 F dM_advanceThread_164 rfl rfl ?_
  refine G.iload_n 0 F dM_advanceThread_165 rfl rfl ?_
  refine G.stMn 6 F (by decide) rfl (k := t) rfl ht dM_advanceThread_166 ?_
  exact G.st (congrArg (mW Y K) ((if_neg h1).trans ((if_neg h3).trans ((if_neg h4).trans ((if_neg h5).trans ((if_neg h6).trans ((if_neg h7).trans ((if_neg h8).trans ((if_neg h9).trans (if_neg h10)))))))))) (hE _ _ dM_advanceThread_167)

def f_m_stepg (t : Nat) (m : CS) : Int32 × CS := (if m 6 t = 0 then (0, (up2 m 20 0 2)) else ((f_m_advanceThread t (up2 m 20 0 0)) 6 t, (f_m_advanceThread t (up2 m 20 0 0))))
theorem i_m_stepg (t : Nat) (ht : t < 4) (m : CS) (hI : InvM m) : InvM (f_m_stepg t m).2 := by
  unfold f_m_stepg
  exact (ite_m2 (fun h1 => (InvM.upo hI rfl)) (fun h1 => (i_m_advanceThread t ht (up2 m 20 0 0) (InvM.upo hI rfl))))
set_option maxRecDepth 100000 in
set_option maxHeartbeats 4000000 in
theorem k_m_stepg (l : Launch) (D : va_G) (K : Nat → ClassId) (base : Nat) (Y : Nat → Nat) (t : Nat) (ht : t < 4) (m : CS) (hI : InvM m) : CtI l D K base yM_step cM_step 2 .int (rmD 5) [.ref (Y 0), .int (nI t)] (mW Y K m) (f_m_stepg t m).1 (mW Y K (f_m_stepg t m).2) := by
  refine CtI.enter (by decide) (Nat.le_of_ble_eq_true rfl) ?_
  intro κ A Q F hE
  show G κ l (rmD 5) A Q D 2 0 0 (mW Y K m) 0 [(0, .ref (Y 0)), (1, .int (nI t))] []
  refine G.aload_n 0 F dM_step_0 rfl rfl ?_
  refine G.iload_n 1 F dM_step_1 rfl rfl ?_
  refine G.callsi F (k_m_isThread l D K base Y (nI t) m hI) ckM_78 ⟨rfl, rfl⟩ ⟨by decide, by decide⟩ ⟨Nat.zero_le _, Nat.zero_le _⟩ rfl rfl (Nat.le_of_ble_eq_true rfl) dM_step_2 ?_
  refine G.if_ne 12 F dM_step_5 rfl (fun _ => ?_) (fun h9 => absurd h9 (isT ht m))
  refine G.aload_n 0 F dM_step_12 rfl rfl ?_
  refine G.gM 10 F (by decide) flM_29 rfl dM_step_13 ?_
  refine G.iload_n 1 F dM_step_16 rfl rfl ?_
  refine G.ldMn 6 F (by decide) rfl (k := t) rfl ht dM_step_17 ?_
  refine G.if_ne 25 F dM_step_18 rfl (fun h1 => ?_) (fun h1 => ?_)
  · skip
    refine G.iconst 0 F dM_step_25 (by decide) ?_
    refine G.pM 0 F (by decide) flM_75 dM_step_26 ?_
    refine G.aload_n 0 F dM_step_29 rfl rfl ?_
    refine G.gM 0 F (by decide) flM_75 rfl dM_step_30 ?_
    refine G.tope (y := 0) (up2_eq _ _ _ _) ?_
    refine G.if_le 38 F dM_step_33 rfl (fun _ => ?_) (fun h9 => absurd (by decide) h9)
    refine G.aload_n 0 F dM_step_38 rfl rfl ?_
    refine G.iload_n 1 F dM_step_39 rfl rfl ?_
    refine G.callv F (k_m_advanceThread l D K base Y t ht (up2 m 20 0 0) (InvM.upo hI rfl)) ckM_150 mW_m rfl rfl ⟨rfl, rfl⟩ ⟨by decide, by decide⟩ ⟨Nat.zero_le _, Nat.zero_le _⟩ rfl rfl (Nat.le_of_ble_eq_true rfl) dM_step_40 ?_
    refine G.aload_n 0 F dM_step_43 rfl rfl ?_
    refine G.gM 10 F (by decide) flM_29 rfl dM_step_44 ?_
    refine G.iload_n 1 F dM_step_47 rfl rfl ?_
    refine G.ldMn 6 F (by decide) rfl (k := t) rfl ht dM_step_48 ?_
    have hr9 : f_m_stepg t m = ((f_m_advanceThread t (up2 m 20 0 0)) 6 t, (f_m_advanceThread t (up2 m 20 0 0))) := (if_neg h1)
    exact G.st (congrArg (fun z : Int32 × CS => mW Y K z.2) hr9) (hE _ _ ((f_m_advanceThread t (up2 m 20 0 0)) 6 t) dM_step_49 rfl (congrArg Prod.fst hr9).symm)
  · skip
    refine G.iconst 2 F dM_step_21 (by decide) ?_
    refine G.goto 26 F dM_step_22 rfl ?_
    refine G.pM 0 F (by decide) flM_75 dM_step_26 ?_
    refine G.aload_n 0 F dM_step_29 rfl rfl ?_
    refine G.gM 0 F (by decide) flM_75 rfl dM_step_30 ?_
    refine G.tope (y := 2) (up2_eq _ _ _ _) ?_
    refine G.if_le 38 F dM_step_33 rfl (fun h9 => absurd h9 (by decide)) (fun _ => ?_)
    refine G.iconst 0 F dM_step_36 (by decide) ?_
    have hr9 : f_m_stepg t m = (0, (up2 m 20 0 2)) := (if_pos h1)
    exact G.st (congrArg (fun z : Int32 × CS => mW Y K z.2) hr9) (hE _ _ 0 dM_step_37 rfl (congrArg Prod.fst hr9).symm)

def fl_m_finishg_40 (t : Nat) : Nat → Nat → CS → Int32 × CS
  | 0, _, m9 => (if m9 6 t = 0 then (nI 300, m9) else (nI 300, m9))
  | n + 1, k, m9 => (if m9 6 t = 0 then (nI k, m9) else (fl_m_finishg_40 t n (k + 1) (f_m_advanceThread t m9)))
def f_m_finishg (t : Nat) (m : CS) : Int32 × CS := (if m 6 t = 0 then (0, (up2 m 20 0 2)) else (fl_m_finishg_40 t 300 0 (up2 m 20 0 0)))
theorem i_fl_m_finishg_40 (t : Nat) (ht : t < 4) : ∀ (n k : Nat) (m9 : CS), k + n = 300 → InvM m9 → InvM (fl_m_finishg_40 t n k m9).2 := by
  intro n
  induction n with
  | zero =>
    intro k m9 hkn hI9
    exact (ite_m2 (fun h2 => hI9) (fun h2 => hI9))
  | succ n ih =>
    intro k m9 hkn hI9
    have hk : k < 300 := by omega
    unfold fl_m_finishg_40
    exact (ite_m2 (fun h3 => hI9) (fun h3 => (ih (k + 1) _ (by omega) (i_m_advanceThread t ht m9 hI9))))
theorem i_m_finishg (t : Nat) (ht : t < 4) (m : CS) (hI : InvM m) : InvM (f_m_finishg t m).2 := by
  unfold f_m_finishg
  exact (ite_m2 (fun h1 => (InvM.upo hI rfl)) (fun h1 => (i_fl_m_finishg_40 t ht 300 0 _ (by decide) (InvM.upo hI rfl))))
set_option maxRecDepth 100000 in
set_option maxHeartbeats 4000000 in
theorem k_m_finishg (l : Launch) (D : va_G) (K : Nat → ClassId) (base : Nat) (Y : Nat → Nat) (t : Nat) (ht : t < 4) (m : CS) (hI : InvM m) : CtI l D K base yM_finish cM_finish 3 .int (rmD 5) [.ref (Y 0), .int (nI t)] (mW Y K m) (f_m_finishg t m).1 (mW Y K (f_m_finishg t m).2) := by
  refine CtI.enter (by decide) (Nat.le_of_ble_eq_true rfl) ?_
  intro κ A Q F hE
  show G κ l (rmD 5) A Q D 3 0 0 (mW Y K m) 0 [(0, .ref (Y 0)), (1, .int (nI t))] []
  have hloop40 : ∀ (n k : Nat) (m9 : CS), k + n = 300 → InvM m9 → f_m_finishg t m = fl_m_finishg_40 t n k m9 → G κ l (rmD 5) A Q D 3 0 0 (mW Y K m9) 40 [(2, .int (nI k)), (0, .ref (Y 0)), (1, .int (nI t))] [] := by
    intro n
    induction n with
    | zero =>
      intro k m9 hkn hI9 hρ
      obtain rfl : k = 300 := by omega
      refine G.aload_n 1 F dM_finish_40 rfl rfl ?_
      refine G.gM 10 F (by decide) flM_29 rfl dM_finish_41 ?_
      refine G.iload_n 2 F dM_finish_44 rfl rfl ?_
      refine G.ldMn 6 F (by decide) rfl (k := t) rfl ht dM_finish_45 ?_
      refine G.if_eq 67 F dM_finish_46 rfl (fun h2 => ?_) (fun h2 => ?_)
      · skip
        refine G.iload_n 0 F dM_finish_67 rfl rfl ?_
        have hr9 : f_m_finishg t m = (nI 300, m9) := hρ.trans (if_pos h2)
        exact G.st (congrArg (fun z : Int32 × CS => mW Y K z.2) hr9) (hE _ _ (nI 300) dM_finish_68 rfl (congrArg Prod.fst hr9).symm)
      · skip
        refine G.iload_n 0 F dM_finish_49 rfl rfl ?_
        refine G.sipush 300 F dM_finish_50 (by decide) ?_
        refine G.icmp_ge 67 F dM_finish_53 rfl (fun _ => ?_) (fun h9 => absurd (by decide) h9)
        refine G.iload_n 0 F dM_finish_67 rfl rfl ?_
        have hr9 : f_m_finishg t m = (nI 300, m9) := hρ.trans (if_neg h2)
        exact G.st (congrArg (fun z : Int32 × CS => mW Y K z.2) hr9) (hE _ _ (nI 300) dM_finish_68 rfl (congrArg Prod.fst hr9).symm)
    | succ n ih =>
      intro k m9 hkn hI9 hρ
      have hk : k < 300 := by omega
      refine G.aload_n 1 F dM_finish_40 rfl rfl ?_
      refine G.gM 10 F (by decide) flM_29 rfl dM_finish_41 ?_
      refine G.iload_n 2 F dM_finish_44 rfl rfl ?_
      refine G.ldMn 6 F (by decide) rfl (k := t) rfl ht dM_finish_45 ?_
      refine G.if_eq 67 F dM_finish_46 rfl (fun h3 => ?_) (fun h3 => ?_)
      · skip
        refine G.iload_n 0 F dM_finish_67 rfl rfl ?_
        have hr9 : f_m_finishg t m = (nI k, m9) := hρ.trans (if_pos h3)
        exact G.st (congrArg (fun z : Int32 × CS => mW Y K z.2) hr9) (hE _ _ (nI k) dM_finish_68 rfl (congrArg Prod.fst hr9).symm)
      · skip
        refine G.iload_n 0 F dM_finish_49 rfl rfl ?_
        refine G.sipush 300 F dM_finish_50 (by decide) ?_
        refine G.icmp_ge 67 F dM_finish_53 rfl (fun h9 => absurd h9 (nI_ge (b := 300) (Nat.lt_of_lt_of_le hk (by decide)) (by decide))) (fun _ => ?_)
        refine G.aload_n 1 F dM_finish_56 rfl rfl ?_
        refine G.iload_n 2 F dM_finish_57 rfl rfl ?_
        refine G.callv F (k_m_advanceThread l D K base Y t ht m9 hI9) ckM_150 mW_m rfl rfl ⟨rfl, rfl⟩ ⟨by decide, by decide⟩ ⟨Nat.zero_le _, Nat.zero_le _⟩ rfl rfl (Nat.le_of_ble_eq_true rfl) dM_finish_58 ?_
        refine G.iinc 0 (nI (k + 1)) F dM_finish_61 rfl (nI_succ k).symm (by decide) rfl ?_
        refine G.goto 40 F dM_finish_64 rfl ?_
        exact ih (k + 1) _ (by omega) (i_m_advanceThread t ht m9 hI9) (hρ.trans (if_neg h3))
  refine G.aload_n 0 F dM_finish_0 rfl rfl ?_
  refine G.iload_n 1 F dM_finish_1 rfl rfl ?_
  refine G.callsi F (k_m_isThread l D K base Y (nI t) m hI) ckM_78 ⟨rfl, rfl⟩ ⟨by decide, by decide⟩ ⟨Nat.zero_le _, Nat.zero_le _⟩ rfl rfl (Nat.le_of_ble_eq_true rfl) dM_finish_2 ?_
  refine G.if_ne 12 F dM_finish_5 rfl (fun _ => ?_) (fun h9 => absurd h9 (isT ht m))
  refine G.aload_n 0 F dM_finish_12 rfl rfl ?_
  refine G.gM 10 F (by decide) flM_29 rfl dM_finish_13 ?_
  refine G.iload_n 1 F dM_finish_16 rfl rfl ?_
  refine G.ldMn 6 F (by decide) rfl (k := t) rfl ht dM_finish_17 ?_
  refine G.if_ne 25 F dM_finish_18 rfl (fun h1 => ?_) (fun h1 => ?_)
  · skip
    refine G.iconst 0 F dM_finish_25 (by decide) ?_
    refine G.pM 0 F (by decide) flM_75 dM_finish_26 ?_
    refine G.aload_n 0 F dM_finish_29 rfl rfl ?_
    refine G.gM 0 F (by decide) flM_75 rfl dM_finish_30 ?_
    refine G.tope (y := 0) (up2_eq _ _ _ _) ?_
    refine G.if_le 38 F dM_finish_33 rfl (fun _ => ?_) (fun h9 => absurd (by decide) h9)
    refine G.iconst 0 F dM_finish_38 (by decide) ?_
    refine G.istore_nN F dM_finish_39 rfl (by decide) rfl ?_
    exact hloop40 300 0 _ (by decide) (InvM.upo hI rfl) (if_neg h1)
  · skip
    refine G.iconst 2 F dM_finish_21 (by decide) ?_
    refine G.goto 26 F dM_finish_22 rfl ?_
    refine G.pM 0 F (by decide) flM_75 dM_finish_26 ?_
    refine G.aload_n 0 F dM_finish_29 rfl rfl ?_
    refine G.gM 0 F (by decide) flM_75 rfl dM_finish_30 ?_
    refine G.tope (y := 2) (up2_eq _ _ _ _) ?_
    refine G.if_le 38 F dM_finish_33 rfl (fun h9 => absurd h9 (by decide)) (fun _ => ?_)
    refine G.iconst 0 F dM_finish_36 (by decide) ?_
    have hr9 : f_m_finishg t m = (0, (up2 m 20 0 2)) := (if_pos h1)
    exact G.st (congrArg (fun z : Int32 × CS => mW Y K z.2) hr9) (hE _ _ 0 dM_finish_37 rfl (congrArg Prod.fst hr9).symm)

def f_m_stepb (v : Int32) (m : CS) : Int32 × CS := (0, (up2 m 20 0 1))
theorem i_m_stepb (v : Int32) (m : CS) (hI : InvM m) (hv : f_m_isThread v m = 0) : InvM (f_m_stepb v m).2 := by
  unfold f_m_stepb
  exact (InvM.upo hI rfl)
set_option maxRecDepth 100000 in
set_option maxHeartbeats 4000000 in
theorem k_m_stepb (l : Launch) (D : va_G) (K : Nat → ClassId) (base : Nat) (Y : Nat → Nat) (v : Int32) (m : CS) (hI : InvM m) (hv : f_m_isThread v m = 0) : CtI l D K base yM_step cM_step 2 .int (rmD 5) [.ref (Y 0), .int v] (mW Y K m) (f_m_stepb v m).1 (mW Y K (f_m_stepb v m).2) := by
  refine CtI.enter (by decide) (Nat.le_of_ble_eq_true rfl) ?_
  intro κ A Q F hE
  show G κ l (rmD 5) A Q D 2 0 0 (mW Y K m) 0 [(0, .ref (Y 0)), (1, .int v)] []
  refine G.aload_n 0 F dM_step_0 rfl rfl ?_
  refine G.iload_n 1 F dM_step_1 rfl rfl ?_
  refine G.callsi F (k_m_isThread l D K base Y v m hI) ckM_78 ⟨rfl, rfl⟩ ⟨by decide, by decide⟩ ⟨Nat.zero_le _, Nat.zero_le _⟩ rfl rfl (Nat.le_of_ble_eq_true rfl) dM_step_2 ?_
  refine G.if_ne 12 F dM_step_5 rfl (fun h9 => absurd hv h9) (fun _ => ?_)
  refine G.iconst 1 F dM_step_8 (by decide) ?_
  refine G.goto 26 F dM_step_9 rfl ?_
  refine G.pM 0 F (by decide) flM_75 dM_step_26 ?_
  refine G.aload_n 0 F dM_step_29 rfl rfl ?_
  refine G.gM 0 F (by decide) flM_75 rfl dM_step_30 ?_
  refine G.tope (y := 1) (up2_eq _ _ _ _) ?_
  refine G.if_le 38 F dM_step_33 rfl (fun h9 => absurd h9 (by decide)) (fun _ => ?_)
  refine G.iconst 0 F dM_step_36 (by decide) ?_
  have hr9 : f_m_stepb v m = (0, (up2 m 20 0 1)) := rfl
  exact G.st (congrArg (fun z : Int32 × CS => mW Y K z.2) hr9) (hE _ _ 0 dM_step_37 rfl (congrArg Prod.fst hr9).symm)

def f_m_finishb (v : Int32) (m : CS) : Int32 × CS := (0, (up2 m 20 0 1))
theorem i_m_finishb (v : Int32) (m : CS) (hI : InvM m) (hv : f_m_isThread v m = 0) : InvM (f_m_finishb v m).2 := by
  unfold f_m_finishb
  exact (InvM.upo hI rfl)
set_option maxRecDepth 100000 in
set_option maxHeartbeats 4000000 in
theorem k_m_finishb (l : Launch) (D : va_G) (K : Nat → ClassId) (base : Nat) (Y : Nat → Nat) (v : Int32) (m : CS) (hI : InvM m) (hv : f_m_isThread v m = 0) : CtI l D K base yM_finish cM_finish 3 .int (rmD 5) [.ref (Y 0), .int v] (mW Y K m) (f_m_finishb v m).1 (mW Y K (f_m_finishb v m).2) := by
  refine CtI.enter (by decide) (Nat.le_of_ble_eq_true rfl) ?_
  intro κ A Q F hE
  show G κ l (rmD 5) A Q D 3 0 0 (mW Y K m) 0 [(0, .ref (Y 0)), (1, .int v)] []
  refine G.aload_n 0 F dM_finish_0 rfl rfl ?_
  refine G.iload_n 1 F dM_finish_1 rfl rfl ?_
  refine G.callsi F (k_m_isThread l D K base Y v m hI) ckM_78 ⟨rfl, rfl⟩ ⟨by decide, by decide⟩ ⟨Nat.zero_le _, Nat.zero_le _⟩ rfl rfl (Nat.le_of_ble_eq_true rfl) dM_finish_2 ?_
  refine G.if_ne 12 F dM_finish_5 rfl (fun h9 => absurd hv h9) (fun _ => ?_)
  refine G.iconst 1 F dM_finish_8 (by decide) ?_
  refine G.goto 26 F dM_finish_9 rfl ?_
  refine G.pM 0 F (by decide) flM_75 dM_finish_26 ?_
  refine G.aload_n 0 F dM_finish_29 rfl rfl ?_
  refine G.gM 0 F (by decide) flM_75 rfl dM_finish_30 ?_
  refine G.tope (y := 1) (up2_eq _ _ _ _) ?_
  refine G.if_le 38 F dM_finish_33 rfl (fun h9 => absurd h9 (by decide)) (fun _ => ?_)
  refine G.iconst 0 F dM_finish_36 (by decide) ?_
  have hr9 : f_m_finishb v m = (0, (up2 m 20 0 1)) := rfl
  exact G.st (congrArg (fun z : Int32 × CS => mW Y K z.2) hr9) (hE _ _ 0 dM_finish_37 rfl (congrArg Prod.fst hr9).symm)
end
section
set_option maxRecDepth 100000 in
theorem tw_begin_16 : TW RS 33 35 37 "java/lang/IllegalArgumentException" "no such operation" ["java/lang/RuntimeException", "java/lang/Exception"] := ⟨by decide +kernel, by decide +kernel, WSg_in (List.mem_of_getElem? (i := 300) (by decide +kernel)) rfl, WSg_in (List.mem_of_getElem? (i := 67) (by decide +kernel)) rfl, by decide +kernel, by decide +kernel, by decide +kernel⟩
set_option maxRecDepth 100000 in
theorem tw_begin_36 : TW RS 33 40 37 "java/lang/IllegalArgumentException" "no such key" ["java/lang/RuntimeException", "java/lang/Exception"] := ⟨by decide +kernel, by decide +kernel, WSg_in (List.mem_of_getElem? (i := 300) (by decide +kernel)) rfl, WSg_in (List.mem_of_getElem? (i := 67) (by decide +kernel)) rfl, by decide +kernel, by decide +kernel, by decide +kernel⟩
set_option maxRecDepth 100000 in
theorem tw_begin_54 : TW RS 45 47 49 "java/lang/IllegalStateException" "the thread is not idle" ["java/lang/RuntimeException", "java/lang/Exception"] := ⟨by decide +kernel, by decide +kernel, WSg_in (List.mem_of_getElem? (i := 317) (by decide +kernel)) rfl, WSg_in (List.mem_of_getElem? (i := 68) (by decide +kernel)) rfl, by decide +kernel, by decide +kernel, by decide +kernel⟩
set_option maxRecDepth 100000 in
theorem tw_known_56 : TW RS 86 88 90 "java/lang/IndexOutOfBoundsException" "no such thing is known" ["java/lang/RuntimeException", "java/lang/Exception"] := ⟨by decide +kernel, by decide +kernel, WSg_in (List.mem_of_getElem? (i := 230) (by decide +kernel)) rfl, WSg_in (List.mem_of_getElem? (i := 66) (by decide +kernel)) rfl, by decide +kernel, by decide +kernel, by decide +kernel⟩
set_option maxRecDepth 100000 in
theorem tw_says_47 : TW RS 86 100 90 "java/lang/IndexOutOfBoundsException" "no such thing is said" ["java/lang/RuntimeException", "java/lang/Exception"] := ⟨by decide +kernel, by decide +kernel, WSg_in (List.mem_of_getElem? (i := 230) (by decide +kernel)) rfl, WSg_in (List.mem_of_getElem? (i := 66) (by decide +kernel)) rfl, by decide +kernel, by decide +kernel, by decide +kernel⟩
set_option maxRecDepth 100000 in
theorem tw_advance_7 : TW RS 102 104 106 "java/lang/UnsupportedOperationException" "epochs are for scheme 0" ["java/lang/RuntimeException", "java/lang/Exception"] := ⟨by decide +kernel, by decide +kernel, WSg_in (List.mem_of_getElem? (i := 531) (by decide +kernel)) rfl, WSg_in (List.mem_of_getElem? (i := 70) (by decide +kernel)) rfl, by decide +kernel, by decide +kernel, by decide +kernel⟩
set_option maxRecDepth 100000 in
theorem tw_scan_14 : TW RS 102 117 106 "java/lang/UnsupportedOperationException" "scans are for scheme 1" ["java/lang/RuntimeException", "java/lang/Exception"] := ⟨by decide +kernel, by decide +kernel, WSg_in (List.mem_of_getElem? (i := 531) (by decide +kernel)) rfl, WSg_in (List.mem_of_getElem? (i := 70) (by decide +kernel)) rfl, by decide +kernel, by decide +kernel, by decide +kernel⟩
set_option maxRecDepth 100000 in
theorem tw_block_10 : TW RS 86 123 90 "java/lang/IndexOutOfBoundsException" "no such block" ["java/lang/RuntimeException", "java/lang/Exception"] := ⟨by decide +kernel, by decide +kernel, WSg_in (List.mem_of_getElem? (i := 230) (by decide +kernel)) rfl, WSg_in (List.mem_of_getElem? (i := 66) (by decide +kernel)) rfl, by decide +kernel, by decide +kernel, by decide +kernel⟩
set_option maxRecDepth 100000 in
theorem tw_block_29 : TW RS 86 125 90 "java/lang/IndexOutOfBoundsException" "nothing such of a block" ["java/lang/RuntimeException", "java/lang/Exception"] := ⟨by decide +kernel, by decide +kernel, WSg_in (List.mem_of_getElem? (i := 230) (by decide +kernel)) rfl, WSg_in (List.mem_of_getElem? (i := 66) (by decide +kernel)) rfl, by decide +kernel, by decide +kernel, by decide +kernel⟩
set_option maxRecDepth 100000 in
theorem tw_workerOf_9 : TW RS 86 142 90 "java/lang/IndexOutOfBoundsException" "no such thread" ["java/lang/RuntimeException", "java/lang/Exception"] := ⟨by decide +kernel, by decide +kernel, WSg_in (List.mem_of_getElem? (i := 230) (by decide +kernel)) rfl, WSg_in (List.mem_of_getElem? (i := 66) (by decide +kernel)) rfl, by decide +kernel, by decide +kernel, by decide +kernel⟩
set_option maxRecDepth 100000 in
theorem tw_busyWorkerOf_13 : TW RS 45 144 49 "java/lang/IllegalStateException" "the thread is idle" ["java/lang/RuntimeException", "java/lang/Exception"] := ⟨by decide +kernel, by decide +kernel, WSg_in (List.mem_of_getElem? (i := 317) (by decide +kernel)) rfl, WSg_in (List.mem_of_getElem? (i := 68) (by decide +kernel)) rfl, by decide +kernel, by decide +kernel, by decide +kernel⟩
theorem cmL_103 : Cond.methodLink RL 103 yS_size ∈ WSg := WSg_in (List.mem_of_getElem? (i := 197) (by decide +kernel)) rfl
theorem cmL_107 : Cond.methodLink RL 107 yS_has ∈ WSg := WSg_in (List.mem_of_getElem? (i := 201) (by decide +kernel)) rfl
theorem cmL_112 : Cond.methodLink RL 112 yS_faults ∈ WSg := WSg_in (List.mem_of_getElem? (i := 205) (by decide +kernel)) rfl
theorem cmL_116 : Cond.methodLink RL 116 yS_epoch ∈ WSg := WSg_in (List.mem_of_getElem? (i := 209) (by decide +kernel)) rfl
theorem cmL_7 : Cond.methodLink RL 7 yS_begin ∈ WSg := WSg_in (List.mem_of_getElem? (i := 222) (by decide +kernel)) rfl
theorem cmS_29 : Cond.methodLink RS 29 yS_workerOf ∈ WSg := WSg_in (List.mem_of_getElem? (i := 226) (by decide +kernel)) rfl
theorem cmL_19 : Cond.methodLink RL 19 yS_step ∈ WSg := WSg_in (List.mem_of_getElem? (i := 340) (by decide +kernel)) rfl
theorem cmS_59 : Cond.methodLink RS 59 yS_busyWorkerOf ∈ WSg := WSg_in (List.mem_of_getElem? (i := 344) (by decide +kernel)) rfl
theorem cmS_62 : Cond.methodLink RS 62 yS_perform ∈ WSg := WSg_in (List.mem_of_getElem? (i := 349) (by decide +kernel)) rfl
theorem cmS_146 : Cond.methodLink RS 146 yS_startWork ∈ WSg := WSg_in (List.mem_of_getElem? (i := 353) (by decide +kernel)) rfl
theorem cmS_149 : Cond.methodLink RS 149 yS_goToHead ∈ WSg := WSg_in (List.mem_of_getElem? (i := 357) (by decide +kernel)) rfl
theorem cmS_179 : Cond.methodLink RS 179 yS_moveHereTo ∈ WSg := WSg_in (List.mem_of_getElem? (i := 361) (by decide +kernel)) rfl
theorem cmS_152 : Cond.methodLink RS 152 yS_nameHere ∈ WSg := WSg_in (List.mem_of_getElem? (i := 365) (by decide +kernel)) rfl
theorem cmS_155 : Cond.methodLink RS 155 yS_checkBack ∈ WSg := WSg_in (List.mem_of_getElem? (i := 369) (by decide +kernel)) rfl
theorem cmS_183 : Cond.methodLink RS 183 yS_lookAtBack ∈ WSg := WSg_in (List.mem_of_getElem? (i := 373) (by decide +kernel)) rfl
theorem cmS_231 : Cond.methodLink RS 231 yS_countFault ∈ WSg := WSg_in (List.mem_of_getElem? (i := 377) (by decide +kernel)) rfl
theorem cmS_158 : Cond.methodLink RS 158 yS_readHere ∈ WSg := WSg_in (List.mem_of_getElem? (i := 385) (by decide +kernel)) rfl
theorem cmS_193 : Cond.methodLink RS 193 yS_lookAtHere ∈ WSg := WSg_in (List.mem_of_getElem? (i := 389) (by decide +kernel)) rfl
theorem cmS_161 : Cond.methodLink RS 161 yS_cutHere ∈ WSg := WSg_in (List.mem_of_getElem? (i := 393) (by decide +kernel)) rfl
theorem cmS_199 : Cond.methodLink RS 199 yS_takeOutHere ∈ WSg := WSg_in (List.mem_of_getElem? (i := 397) (by decide +kernel)) rfl
theorem cmS_228 : Cond.methodLink RS 228 yS_retireHere ∈ WSg := WSg_in (List.mem_of_getElem? (i := 405) (by decide +kernel)) rfl
theorem cmS_247 : Cond.methodLink RS 247 yS_countRetiredBy ∈ WSg := WSg_in (List.mem_of_getElem? (i := 417) (by decide +kernel)) rfl
theorem cmS_253 : Cond.methodLink RS 253 yS_isRetiredBy ∈ WSg := WSg_in (List.mem_of_getElem? (i := 421) (by decide +kernel)) rfl
theorem cmS_119 : Cond.methodLink RS 119 yS_freeUnnamed ∈ WSg := WSg_in (List.mem_of_getElem? (i := 425) (by decide +kernel)) rfl
theorem cmS_257 : Cond.methodLink RS 257 yS_isNamed ∈ WSg := WSg_in (List.mem_of_getElem? (i := 429) (by decide +kernel)) rfl
theorem cmS_164 : Cond.methodLink RS 164 yS_doOperation ∈ WSg := WSg_in (List.mem_of_getElem? (i := 433) (by decide +kernel)) rfl
theorem cmS_203 : Cond.methodLink RS 203 yS_prepareInsert ∈ WSg := WSg_in (List.mem_of_getElem? (i := 437) (by decide +kernel)) rfl
theorem cmS_212 : Cond.methodLink RS 212 yS_giveNewBlockBack ∈ WSg := WSg_in (List.mem_of_getElem? (i := 441) (by decide +kernel)) rfl
theorem cmS_209 : Cond.methodLink RS 209 yS_conclude ∈ WSg := WSg_in (List.mem_of_getElem? (i := 445) (by decide +kernel)) rfl
theorem cmS_215 : Cond.methodLink RS 215 yS_takeFreeBlock ∈ WSg := WSg_in (List.mem_of_getElem? (i := 449) (by decide +kernel)) rfl
theorem cmS_206 : Cond.methodLink RS 206 yS_markForRemoval ∈ WSg := WSg_in (List.mem_of_getElem? (i := 453) (by decide +kernel)) rfl
theorem cmS_167 : Cond.methodLink RS 167 yS_hangNewBlock ∈ WSg := WSg_in (List.mem_of_getElem? (i := 457) (by decide +kernel)) rfl
theorem cmS_170 : Cond.methodLink RS 170 yS_endWork ∈ WSg := WSg_in (List.mem_of_getElem? (i := 461) (by decide +kernel)) rfl
theorem cmS_173 : Cond.methodLink RS 173 yS_unhangHere ∈ WSg := WSg_in (List.mem_of_getElem? (i := 465) (by decide +kernel)) rfl
theorem cmL_23 : Cond.methodLink RL 23 yS_finish ∈ WSg := WSg_in (List.mem_of_getElem? (i := 472) (by decide +kernel)) rfl
theorem cmL_26 : Cond.methodLink RL 26 yS_result ∈ WSg := WSg_in (List.mem_of_getElem? (i := 480) (by decide +kernel)) rfl
theorem cmL_31 : Cond.methodLink RL 31 yS_at ∈ WSg := WSg_in (List.mem_of_getElem? (i := 503) (by decide +kernel)) rfl
theorem cmL_34 : Cond.methodLink RL 34 yS_known ∈ WSg := WSg_in (List.mem_of_getElem? (i := 510) (by decide +kernel)) rfl
theorem cmL_38 : Cond.methodLink RL 38 yS_says ∈ WSg := WSg_in (List.mem_of_getElem? (i := 518) (by decide +kernel)) rfl
theorem cmL_41 : Cond.methodLink RL 41 yS_advance ∈ WSg := WSg_in (List.mem_of_getElem? (i := 527) (by decide +kernel)) rfl
theorem cmS_107 : Cond.methodLink RS 107 yS_allAnnounceCurrentEpoch ∈ WSg := WSg_in (List.mem_of_getElem? (i := 547) (by decide +kernel)) rfl
theorem cmS_114 : Cond.methodLink RS 114 yS_freeOldEpochs ∈ WSg := WSg_in (List.mem_of_getElem? (i := 551) (by decide +kernel)) rfl
theorem cmL_47 : Cond.methodLink RL 47 yS_scan ∈ WSg := WSg_in (List.mem_of_getElem? (i := 558) (by decide +kernel)) rfl
theorem cmL_50 : Cond.methodLink RL 50 yS_block ∈ WSg := WSg_in (List.mem_of_getElem? (i := 566) (by decide +kernel)) rfl
end
section
set_option maxRecDepth 100000 in
set_option maxHeartbeats 4000000 in
theorem kx_workerOf_l (l : Launch) (hl : l.stackTraces = false) (D : va_G) (K : Nat → ClassId) (base : Nat) (X : Nat → Nat) (v : Int32) (c : CS) (hI : Inv c) (hv : v < 0) : CtX l D K base yS_workerOf cS_workerOf 2 (some (.object "SteppedList$Worker")) (rmX 0) [.ref (X 0), .int v] (cW X K c) "java/lang/IndexOutOfBoundsException" := by
  refine CtX.enter (by decide) (Nat.le_of_ble_eq_true rfl) ⟨rfl, rfl⟩ ?_
  intro κ F htab
  show G κ l (rmX 0) (va_A (cW X K c) κ.2.2.1.heap.size) (Qx κ D (cW X K c) "java/lang/IndexOutOfBoundsException") D 2 0 0 (cW X K c) 0 [(0, .ref (X 0)), (1, .int v)] []
  refine G.iload_n 1 F dS_workerOf_0 rfl rfl ?_
  refine G.if_lt 9 F dS_workerOf_1 rfl (fun _ => ?_) (fun h9 => absurd hv h9)
  exact G.throwS F htab hl tw_workerOf_9 dS_workerOf_9 dS_workerOf_12 dS_workerOf_13 dS_workerOf_15 dS_workerOf_18 ⟨by decide, Nat.le_of_ble_eq_true rfl, by decide, by decide⟩

set_option maxRecDepth 100000 in
set_option maxHeartbeats 4000000 in
theorem kx_workerOf_h (l : Launch) (hl : l.stackTraces = false) (D : va_G) (K : Nat → ClassId) (base : Nat) (X : Nat → Nat) (v : Int32) (c : CS) (hI : Inv c) (hv : ¬ v < 0) (hv2 : ¬ v < 4) : CtX l D K base yS_workerOf cS_workerOf 2 (some (.object "SteppedList$Worker")) (rmX 0) [.ref (X 0), .int v] (cW X K c) "java/lang/IndexOutOfBoundsException" := by
  refine CtX.enter (by decide) (Nat.le_of_ble_eq_true rfl) ⟨rfl, rfl⟩ ?_
  intro κ F htab
  show G κ l (rmX 0) (va_A (cW X K c) κ.2.2.1.heap.size) (Qx κ D (cW X K c) "java/lang/IndexOutOfBoundsException") D 2 0 0 (cW X K c) 0 [(0, .ref (X 0)), (1, .int v)] []
  refine G.iload_n 1 F dS_workerOf_0 rfl rfl ?_
  refine G.if_lt 9 F dS_workerOf_1 rfl (fun h9 => absurd h9 hv) (fun _ => ?_)
  refine G.iload_n 1 F dS_workerOf_4 rfl rfl ?_
  refine G.iconst 4 F dS_workerOf_5 (by decide) ?_
  refine G.icmp_lt 19 F dS_workerOf_6 rfl (fun h9 => absurd h9 hv2) (fun _ => ?_)
  exact G.throwS F htab hl tw_workerOf_9 dS_workerOf_9 dS_workerOf_12 dS_workerOf_13 dS_workerOf_15 dS_workerOf_18 ⟨by decide, Nat.le_of_ble_eq_true rfl, by decide, by decide⟩
theorem kx_workerOf (l : Launch) (hl : l.stackTraces = false) (D : va_G) (K : Nat → ClassId) (base : Nat) (X : Nat → Nat) (v : Int32) (c : CS) (hI : Inv c) (hv : v < 0 ∨ ¬ v < 4) : CtX l D K base yS_workerOf cS_workerOf 2 (some (.object "SteppedList$Worker")) (rmX 0) [.ref (X 0), .int v] (cW X K c) "java/lang/IndexOutOfBoundsException" := by
  by_cases h0 : v < 0
  · exact kx_workerOf_l l hl D K base X v c hI h0
  · exact kx_workerOf_h l hl D K base X v c hI h0 (hv.resolve_left h0)

set_option maxRecDepth 100000 in
set_option maxHeartbeats 4000000 in
theorem kx_busyWorkerOf_x (l : Launch) (hl : l.stackTraces = false) (D : va_G) (K : Nat → ClassId) (base : Nat) (X : Nat → Nat) (v : Int32) (c : CS) (hI : Inv c) (hv : v < 0 ∨ ¬ v < 4) : CtX l D K base yS_busyWorkerOf cS_busyWorkerOf 3 (some (.object "SteppedList$Worker")) (rmX 1) [.ref (X 0), .int v] (cW X K c) "java/lang/IndexOutOfBoundsException" := by
  refine CtX.enter (by decide) (Nat.le_of_ble_eq_true rfl) ⟨rfl, rfl⟩ ?_
  intro κ F htab
  show G κ l (rmX 1) (va_A (cW X K c) κ.2.2.1.heap.size) (Qx κ D (cW X K c) "java/lang/IndexOutOfBoundsException") D 3 0 0 (cW X K c) 0 [(0, .ref (X 0)), (1, .int v)] []
  refine G.aload_n 0 F dS_busyWorkerOf_0 rfl rfl ?_
  refine G.iload_n 1 F dS_busyWorkerOf_1 rfl rfl ?_
  exact G.callXo F htab (kx_workerOf l hl D K base X v c hI hv) ckS_29 cmS_29 cW_x rfl rfl ⟨rfl, rfl⟩ ⟨by decide, by decide⟩ ⟨by decide, by decide⟩ rfl rfl (Nat.le_of_ble_eq_true rfl) dS_busyWorkerOf_2

set_option maxRecDepth 100000 in
set_option maxHeartbeats 4000000 in
theorem kx_busyWorkerOf_i (l : Launch) (hl : l.stackTraces = false) (D : va_G) (K : Nat → ClassId) (base : Nat) (X : Nat → Nat) (t : Nat) (ht : t < 4) (c : CS) (hI : Inv c) (hb : c 7 t = 0) : CtX l D K base yS_busyWorkerOf cS_busyWorkerOf 3 (some (.object "SteppedList$Worker")) (rmX 1) [.ref (X 0), .int (nI t)] (cW X K c) "java/lang/IllegalStateException" := by
  refine CtX.enter (by decide) (Nat.le_of_ble_eq_true rfl) ⟨rfl, rfl⟩ ?_
  intro κ F htab
  show G κ l (rmX 1) (va_A (cW X K c) κ.2.2.1.heap.size) (Qx κ D (cW X K c) "java/lang/IllegalStateException") D 3 0 0 (cW X K c) 0 [(0, .ref (X 0)), (1, .int (nI t))] []
  refine G.aload_n 0 F dS_busyWorkerOf_0 rfl rfl ?_
  refine G.iload_n 1 F dS_busyWorkerOf_1 rfl rfl ?_
  refine G.callr F (k_workerOf l D K base X t ht c hI) ckS_29 cW_x rfl rfl ⟨rfl, rfl⟩ ⟨by decide, by decide⟩ ⟨Nat.zero_le _, Nat.zero_le _⟩ rfl rfl (Nat.le_of_ble_eq_true rfl) dS_busyWorkerOf_2 ?_
  refine G.astore_nN F dS_busyWorkerOf_5 rfl (by decide) rfl ?_
  refine G.aload_n 0 F dS_busyWorkerOf_6 rfl rfl ?_
  refine G.gT 1 7 F rfl ht (by decide) flS_42 dS_busyWorkerOf_7 ?_
  refine G.if_ne 23 F dS_busyWorkerOf_10 rfl (fun h9 => absurd hb h9) (fun _ => ?_)
  exact G.throwS F htab hl tw_busyWorkerOf_13 dS_busyWorkerOf_13 dS_busyWorkerOf_16 dS_busyWorkerOf_17 dS_busyWorkerOf_19 dS_busyWorkerOf_22 ⟨by decide, Nat.le_of_ble_eq_true rfl, by decide, by decide⟩

set_option maxRecDepth 100000 in
set_option maxHeartbeats 4000000 in
theorem kx_begin_x (l : Launch) (hl : l.stackTraces = false) (D : va_G) (K : Nat → ClassId) (base : Nat) (X : Nat → Nat) (v : Int32) (o : Int32) (y : Int32) (c : CS) (hI : Inv c) (hv : v < 0 ∨ ¬ v < 4) : CtX l D K base yS_begin cS_begin 5 none (rmX 1) [.ref (X 0), .int v, .int o, .int y] (cW X K c) "java/lang/IndexOutOfBoundsException" := by
  refine CtX.enter (by decide) (Nat.le_of_ble_eq_true rfl) ⟨rfl, rfl⟩ ?_
  intro κ F htab
  show G κ l (rmX 1) (va_A (cW X K c) κ.2.2.1.heap.size) (Qx κ D (cW X K c) "java/lang/IndexOutOfBoundsException") D 5 0 0 (cW X K c) 0 [(0, .ref (X 0)), (1, .int v), (2, .int o), (3, .int y)] []
  refine G.aload_n 0 F dS_begin_0 rfl rfl ?_
  refine G.iload_n 1 F dS_begin_1 rfl rfl ?_
  exact G.callXo F htab (kx_workerOf l hl D K base X v c hI hv) ckS_29 cmS_29 cW_x rfl rfl ⟨rfl, rfl⟩ ⟨by decide, by decide⟩ ⟨by decide, by decide⟩ rfl rfl (Nat.le_of_ble_eq_true rfl) dS_begin_2

set_option maxRecDepth 100000 in
set_option maxHeartbeats 4000000 in
theorem kx_begin_ol (l : Launch) (hl : l.stackTraces = false) (D : va_G) (K : Nat → ClassId) (base : Nat) (X : Nat → Nat) (t : Nat) (ht : t < 4) (o : Int32) (y : Int32) (c : CS) (hI : Inv c) (ho : o < 0) : CtX l D K base yS_begin cS_begin 5 none (rmX 1) [.ref (X 0), .int (nI t), .int o, .int y] (cW X K c) "java/lang/IllegalArgumentException" := by
  refine CtX.enter (by decide) (Nat.le_of_ble_eq_true rfl) ⟨rfl, rfl⟩ ?_
  intro κ F htab
  show G κ l (rmX 1) (va_A (cW X K c) κ.2.2.1.heap.size) (Qx κ D (cW X K c) "java/lang/IllegalArgumentException") D 5 0 0 (cW X K c) 0 [(0, .ref (X 0)), (1, .int (nI t)), (2, .int o), (3, .int y)] []
  refine G.aload_n 0 F dS_begin_0 rfl rfl ?_
  refine G.iload_n 1 F dS_begin_1 rfl rfl ?_
  refine G.callr F (k_workerOf l D K base X t ht c hI) ckS_29 cW_x rfl rfl ⟨rfl, rfl⟩ ⟨by decide, by decide⟩ ⟨Nat.zero_le _, Nat.zero_le _⟩ rfl rfl (Nat.le_of_ble_eq_true rfl) dS_begin_2 ?_
  refine G.astoreN F dS_begin_5 (by decide) rfl ?_
  refine G.iload_n 3 F dS_begin_7 rfl rfl ?_
  refine G.if_lt 16 F dS_begin_8 rfl (fun _ => ?_) (fun h9 => absurd ho h9)
  exact G.throwS F htab hl tw_begin_16 dS_begin_16 dS_begin_19 dS_begin_20 dS_begin_22 dS_begin_25 ⟨by decide, Nat.le_of_ble_eq_true rfl, by decide, by decide⟩

set_option maxRecDepth 100000 in
set_option maxHeartbeats 4000000 in
theorem kx_begin_oh (l : Launch) (hl : l.stackTraces = false) (D : va_G) (K : Nat → ClassId) (base : Nat) (X : Nat → Nat) (t : Nat) (ht : t < 4) (o : Int32) (y : Int32) (c : CS) (hI : Inv c) (ho : ¬ o < 0) (ho2 : ¬ o ≤ 2) : CtX l D K base yS_begin cS_begin 5 none (rmX 1) [.ref (X 0), .int (nI t), .int o, .int y] (cW X K c) "java/lang/IllegalArgumentException" := by
  refine CtX.enter (by decide) (Nat.le_of_ble_eq_true rfl) ⟨rfl, rfl⟩ ?_
  intro κ F htab
  show G κ l (rmX 1) (va_A (cW X K c) κ.2.2.1.heap.size) (Qx κ D (cW X K c) "java/lang/IllegalArgumentException") D 5 0 0 (cW X K c) 0 [(0, .ref (X 0)), (1, .int (nI t)), (2, .int o), (3, .int y)] []
  refine G.aload_n 0 F dS_begin_0 rfl rfl ?_
  refine G.iload_n 1 F dS_begin_1 rfl rfl ?_
  refine G.callr F (k_workerOf l D K base X t ht c hI) ckS_29 cW_x rfl rfl ⟨rfl, rfl⟩ ⟨by decide, by decide⟩ ⟨Nat.zero_le _, Nat.zero_le _⟩ rfl rfl (Nat.le_of_ble_eq_true rfl) dS_begin_2 ?_
  refine G.astoreN F dS_begin_5 (by decide) rfl ?_
  refine G.iload_n 3 F dS_begin_7 rfl rfl ?_
  refine G.if_lt 16 F dS_begin_8 rfl (fun h9 => absurd h9 ho) (fun _ => ?_)
  refine G.iload_n 3 F dS_begin_11 rfl rfl ?_
  refine G.iconst 2 F dS_begin_12 (by decide) ?_
  refine G.icmp_le 26 F dS_begin_13 rfl (fun h9 => absurd h9 ho2) (fun _ => ?_)
  exact G.throwS F htab hl tw_begin_16 dS_begin_16 dS_begin_19 dS_begin_20 dS_begin_22 dS_begin_25 ⟨by decide, Nat.le_of_ble_eq_true rfl, by decide, by decide⟩

set_option maxRecDepth 100000 in
set_option maxHeartbeats 4000000 in
theorem kx_begin_yl (l : Launch) (hl : l.stackTraces = false) (D : va_G) (K : Nat → ClassId) (base : Nat) (X : Nat → Nat) (t : Nat) (ht : t < 4) (o : Int32) (y : Int32) (c : CS) (hI : Inv c) (ho : ¬ o < 0) (ho2 : o ≤ 2) (hy : y < 0) : CtX l D K base yS_begin cS_begin 5 none (rmX 1) [.ref (X 0), .int (nI t), .int o, .int y] (cW X K c) "java/lang/IllegalArgumentException" := by
  refine CtX.enter (by decide) (Nat.le_of_ble_eq_true rfl) ⟨rfl, rfl⟩ ?_
  intro κ F htab
  show G κ l (rmX 1) (va_A (cW X K c) κ.2.2.1.heap.size) (Qx κ D (cW X K c) "java/lang/IllegalArgumentException") D 5 0 0 (cW X K c) 0 [(0, .ref (X 0)), (1, .int (nI t)), (2, .int o), (3, .int y)] []
  refine G.aload_n 0 F dS_begin_0 rfl rfl ?_
  refine G.iload_n 1 F dS_begin_1 rfl rfl ?_
  refine G.callr F (k_workerOf l D K base X t ht c hI) ckS_29 cW_x rfl rfl ⟨rfl, rfl⟩ ⟨by decide, by decide⟩ ⟨Nat.zero_le _, Nat.zero_le _⟩ rfl rfl (Nat.le_of_ble_eq_true rfl) dS_begin_2 ?_
  refine G.astoreN F dS_begin_5 (by decide) rfl ?_
  refine G.iload_n 3 F dS_begin_7 rfl rfl ?_
  refine G.if_lt 16 F dS_begin_8 rfl (fun h9 => absurd h9 ho) (fun _ => ?_)
  refine G.iload_n 3 F dS_begin_11 rfl rfl ?_
  refine G.iconst 2 F dS_begin_12 (by decide) ?_
  refine G.icmp_le 26 F dS_begin_13 rfl (fun _ => ?_) (fun h9 => absurd ho2 h9)
  refine G.iload_n 4 F dS_begin_26 rfl rfl ?_
  refine G.if_lt 36 F dS_begin_27 rfl (fun _ => ?_) (fun h9 => absurd hy h9)
  exact G.throwS F htab hl tw_begin_36 dS_begin_36 dS_begin_39 dS_begin_40 dS_begin_42 dS_begin_45 ⟨by decide, Nat.le_of_ble_eq_true rfl, by decide, by decide⟩

set_option maxRecDepth 100000 in
set_option maxHeartbeats 4000000 in
theorem kx_begin_yh (l : Launch) (hl : l.stackTraces = false) (D : va_G) (K : Nat → ClassId) (base : Nat) (X : Nat → Nat) (t : Nat) (ht : t < 4) (o : Int32) (y : Int32) (c : CS) (hI : Inv c) (ho : ¬ o < 0) (ho2 : o ≤ 2) (hy : ¬ y < 0) (hy2 : ¬ y < 32) : CtX l D K base yS_begin cS_begin 5 none (rmX 1) [.ref (X 0), .int (nI t), .int o, .int y] (cW X K c) "java/lang/IllegalArgumentException" := by
  refine CtX.enter (by decide) (Nat.le_of_ble_eq_true rfl) ⟨rfl, rfl⟩ ?_
  intro κ F htab
  show G κ l (rmX 1) (va_A (cW X K c) κ.2.2.1.heap.size) (Qx κ D (cW X K c) "java/lang/IllegalArgumentException") D 5 0 0 (cW X K c) 0 [(0, .ref (X 0)), (1, .int (nI t)), (2, .int o), (3, .int y)] []
  refine G.aload_n 0 F dS_begin_0 rfl rfl ?_
  refine G.iload_n 1 F dS_begin_1 rfl rfl ?_
  refine G.callr F (k_workerOf l D K base X t ht c hI) ckS_29 cW_x rfl rfl ⟨rfl, rfl⟩ ⟨by decide, by decide⟩ ⟨Nat.zero_le _, Nat.zero_le _⟩ rfl rfl (Nat.le_of_ble_eq_true rfl) dS_begin_2 ?_
  refine G.astoreN F dS_begin_5 (by decide) rfl ?_
  refine G.iload_n 3 F dS_begin_7 rfl rfl ?_
  refine G.if_lt 16 F dS_begin_8 rfl (fun h9 => absurd h9 ho) (fun _ => ?_)
  refine G.iload_n 3 F dS_begin_11 rfl rfl ?_
  refine G.iconst 2 F dS_begin_12 (by decide) ?_
  refine G.icmp_le 26 F dS_begin_13 rfl (fun _ => ?_) (fun h9 => absurd ho2 h9)
  refine G.iload_n 4 F dS_begin_26 rfl rfl ?_
  refine G.if_lt 36 F dS_begin_27 rfl (fun h9 => absurd h9 hy) (fun _ => ?_)
  refine G.iload_n 4 F dS_begin_30 rfl rfl ?_
  refine G.bipush 32 F dS_begin_31 (by decide) ?_
  refine G.icmp_lt 46 F dS_begin_33 rfl (fun h9 => absurd h9 hy2) (fun _ => ?_)
  exact G.throwS F htab hl tw_begin_36 dS_begin_36 dS_begin_39 dS_begin_40 dS_begin_42 dS_begin_45 ⟨by decide, Nat.le_of_ble_eq_true rfl, by decide, by decide⟩

set_option maxRecDepth 100000 in
set_option maxHeartbeats 4000000 in
theorem kx_begin_i (l : Launch) (hl : l.stackTraces = false) (D : va_G) (K : Nat → ClassId) (base : Nat) (X : Nat → Nat) (t : Nat) (ht : t < 4) (o : Int32) (y : Int32) (c : CS) (hI : Inv c) (ho : ¬ o < 0) (ho2 : o ≤ 2) (hy : ¬ y < 0) (hy2 : y < 32) (hb : ¬ c 7 t = 0) : CtX l D K base yS_begin cS_begin 5 none (rmX 1) [.ref (X 0), .int (nI t), .int o, .int y] (cW X K c) "java/lang/IllegalStateException" := by
  refine CtX.enter (by decide) (Nat.le_of_ble_eq_true rfl) ⟨rfl, rfl⟩ ?_
  intro κ F htab
  show G κ l (rmX 1) (va_A (cW X K c) κ.2.2.1.heap.size) (Qx κ D (cW X K c) "java/lang/IllegalStateException") D 5 0 0 (cW X K c) 0 [(0, .ref (X 0)), (1, .int (nI t)), (2, .int o), (3, .int y)] []
  refine G.aload_n 0 F dS_begin_0 rfl rfl ?_
  refine G.iload_n 1 F dS_begin_1 rfl rfl ?_
  refine G.callr F (k_workerOf l D K base X t ht c hI) ckS_29 cW_x rfl rfl ⟨rfl, rfl⟩ ⟨by decide, by decide⟩ ⟨Nat.zero_le _, Nat.zero_le _⟩ rfl rfl (Nat.le_of_ble_eq_true rfl) dS_begin_2 ?_
  refine G.astoreN F dS_begin_5 (by decide) rfl ?_
  refine G.iload_n 3 F dS_begin_7 rfl rfl ?_
  refine G.if_lt 16 F dS_begin_8 rfl (fun h9 => absurd h9 ho) (fun _ => ?_)
  refine G.iload_n 3 F dS_begin_11 rfl rfl ?_
  refine G.iconst 2 F dS_begin_12 (by decide) ?_
  refine G.icmp_le 26 F dS_begin_13 rfl (fun _ => ?_) (fun h9 => absurd ho2 h9)
  refine G.iload_n 4 F dS_begin_26 rfl rfl ?_
  refine G.if_lt 36 F dS_begin_27 rfl (fun h9 => absurd h9 hy) (fun _ => ?_)
  refine G.iload_n 4 F dS_begin_30 rfl rfl ?_
  refine G.bipush 32 F dS_begin_31 (by decide) ?_
  refine G.icmp_lt 46 F dS_begin_33 rfl (fun _ => ?_) (fun h9 => absurd hy2 h9)
  refine G.aload 0 F dS_begin_46 rfl ?_
  refine G.gT 1 7 F rfl ht (by decide) flS_42 dS_begin_48 ?_
  refine G.if_eq 64 F dS_begin_51 rfl (fun h9 => absurd h9 hb) (fun _ => ?_)
  exact G.throwS F htab hl tw_begin_54 dS_begin_54 dS_begin_57 dS_begin_58 dS_begin_60 dS_begin_63 ⟨by decide, Nat.le_of_ble_eq_true rfl, by decide, by decide⟩

set_option maxRecDepth 100000 in
set_option maxHeartbeats 4000000 in
theorem kx_step_x (l : Launch) (hl : l.stackTraces = false) (D : va_G) (K : Nat → ClassId) (base : Nat) (X : Nat → Nat) (v : Int32) (c : CS) (hI : Inv c) (hv : v < 0 ∨ ¬ v < 4) : CtX l D K base yS_step cS_step 3 (some .int) (rmX 2) [.ref (X 0), .int v] (cW X K c) "java/lang/IndexOutOfBoundsException" := by
  refine CtX.enter (by decide) (Nat.le_of_ble_eq_true rfl) ⟨rfl, rfl⟩ ?_
  intro κ F htab
  show G κ l (rmX 2) (va_A (cW X K c) κ.2.2.1.heap.size) (Qx κ D (cW X K c) "java/lang/IndexOutOfBoundsException") D 3 0 0 (cW X K c) 0 [(0, .ref (X 0)), (1, .int v)] []
  refine G.aload_n 0 F dS_step_0 rfl rfl ?_
  refine G.iload_n 1 F dS_step_1 rfl rfl ?_
  exact G.callXo F htab (kx_busyWorkerOf_x l hl D K base X v c hI hv) ckS_59 cmS_59 cW_x rfl rfl ⟨rfl, rfl⟩ ⟨by decide, by decide⟩ ⟨by decide, by decide⟩ rfl rfl (Nat.le_of_ble_eq_true rfl) dS_step_2

set_option maxRecDepth 100000 in
set_option maxHeartbeats 4000000 in
theorem kx_step_i (l : Launch) (hl : l.stackTraces = false) (D : va_G) (K : Nat → ClassId) (base : Nat) (X : Nat → Nat) (t : Nat) (ht : t < 4) (c : CS) (hI : Inv c) (hb : c 7 t = 0) : CtX l D K base yS_step cS_step 3 (some .int) (rmX 2) [.ref (X 0), .int (nI t)] (cW X K c) "java/lang/IllegalStateException" := by
  refine CtX.enter (by decide) (Nat.le_of_ble_eq_true rfl) ⟨rfl, rfl⟩ ?_
  intro κ F htab
  show G κ l (rmX 2) (va_A (cW X K c) κ.2.2.1.heap.size) (Qx κ D (cW X K c) "java/lang/IllegalStateException") D 3 0 0 (cW X K c) 0 [(0, .ref (X 0)), (1, .int (nI t))] []
  refine G.aload_n 0 F dS_step_0 rfl rfl ?_
  refine G.iload_n 1 F dS_step_1 rfl rfl ?_
  exact G.callXo F htab (kx_busyWorkerOf_i l hl D K base X t ht c hI hb) ckS_59 cmS_59 cW_x rfl rfl ⟨rfl, rfl⟩ ⟨by decide, by decide⟩ ⟨by decide, by decide⟩ rfl rfl (Nat.le_of_ble_eq_true rfl) dS_step_2

set_option maxRecDepth 100000 in
set_option maxHeartbeats 4000000 in
theorem kx_finish_x (l : Launch) (hl : l.stackTraces = false) (D : va_G) (K : Nat → ClassId) (base : Nat) (X : Nat → Nat) (v : Int32) (c : CS) (hI : Inv c) (hv : v < 0 ∨ ¬ v < 4) : CtX l D K base yS_finish cS_finish 4 (some .int) (rmX 2) [.ref (X 0), .int v] (cW X K c) "java/lang/IndexOutOfBoundsException" := by
  refine CtX.enter (by decide) (Nat.le_of_ble_eq_true rfl) ⟨rfl, rfl⟩ ?_
  intro κ F htab
  show G κ l (rmX 2) (va_A (cW X K c) κ.2.2.1.heap.size) (Qx κ D (cW X K c) "java/lang/IndexOutOfBoundsException") D 4 0 0 (cW X K c) 0 [(0, .ref (X 0)), (1, .int v)] []
  refine G.aload_n 0 F dS_finish_0 rfl rfl ?_
  refine G.iload_n 1 F dS_finish_1 rfl rfl ?_
  exact G.callXo F htab (kx_busyWorkerOf_x l hl D K base X v c hI hv) ckS_59 cmS_59 cW_x rfl rfl ⟨rfl, rfl⟩ ⟨by decide, by decide⟩ ⟨by decide, by decide⟩ rfl rfl (Nat.le_of_ble_eq_true rfl) dS_finish_2

set_option maxRecDepth 100000 in
set_option maxHeartbeats 4000000 in
theorem kx_finish_i (l : Launch) (hl : l.stackTraces = false) (D : va_G) (K : Nat → ClassId) (base : Nat) (X : Nat → Nat) (t : Nat) (ht : t < 4) (c : CS) (hI : Inv c) (hb : c 7 t = 0) : CtX l D K base yS_finish cS_finish 4 (some .int) (rmX 2) [.ref (X 0), .int (nI t)] (cW X K c) "java/lang/IllegalStateException" := by
  refine CtX.enter (by decide) (Nat.le_of_ble_eq_true rfl) ⟨rfl, rfl⟩ ?_
  intro κ F htab
  show G κ l (rmX 2) (va_A (cW X K c) κ.2.2.1.heap.size) (Qx κ D (cW X K c) "java/lang/IllegalStateException") D 4 0 0 (cW X K c) 0 [(0, .ref (X 0)), (1, .int (nI t))] []
  refine G.aload_n 0 F dS_finish_0 rfl rfl ?_
  refine G.iload_n 1 F dS_finish_1 rfl rfl ?_
  exact G.callXo F htab (kx_busyWorkerOf_i l hl D K base X t ht c hI hb) ckS_59 cmS_59 cW_x rfl rfl ⟨rfl, rfl⟩ ⟨by decide, by decide⟩ ⟨by decide, by decide⟩ rfl rfl (Nat.le_of_ble_eq_true rfl) dS_finish_2

set_option maxRecDepth 100000 in
set_option maxHeartbeats 4000000 in
theorem kx_result_x (l : Launch) (hl : l.stackTraces = false) (D : va_G) (K : Nat → ClassId) (base : Nat) (X : Nat → Nat) (v : Int32) (c : CS) (hI : Inv c) (hv : v < 0 ∨ ¬ v < 4) : CtX l D K base yS_result cS_result 3 (some .int) (rmX 1) [.ref (X 0), .int v] (cW X K c) "java/lang/IndexOutOfBoundsException" := by
  refine CtX.enter (by decide) (Nat.le_of_ble_eq_true rfl) ⟨rfl, rfl⟩ ?_
  intro κ F htab
  show G κ l (rmX 1) (va_A (cW X K c) κ.2.2.1.heap.size) (Qx κ D (cW X K c) "java/lang/IndexOutOfBoundsException") D 3 0 0 (cW X K c) 0 [(0, .ref (X 0)), (1, .int v)] []
  refine G.aload_n 0 F dS_result_0 rfl rfl ?_
  refine G.iload_n 1 F dS_result_1 rfl rfl ?_
  exact G.callXo F htab (kx_workerOf l hl D K base X v c hI hv) ckS_29 cmS_29 cW_x rfl rfl ⟨rfl, rfl⟩ ⟨by decide, by decide⟩ ⟨by decide, by decide⟩ rfl rfl (Nat.le_of_ble_eq_true rfl) dS_result_2

set_option maxRecDepth 100000 in
set_option maxHeartbeats 4000000 in
theorem kx_at_x (l : Launch) (hl : l.stackTraces = false) (D : va_G) (K : Nat → ClassId) (base : Nat) (X : Nat → Nat) (v : Int32) (c : CS) (hI : Inv c) (hv : v < 0 ∨ ¬ v < 4) : CtX l D K base yS_at cS_at 2 (some .int) (rmX 1) [.ref (X 0), .int v] (cW X K c) "java/lang/IndexOutOfBoundsException" := by
  refine CtX.enter (by decide) (Nat.le_of_ble_eq_true rfl) ⟨rfl, rfl⟩ ?_
  intro κ F htab
  show G κ l (rmX 1) (va_A (cW X K c) κ.2.2.1.heap.size) (Qx κ D (cW X K c) "java/lang/IndexOutOfBoundsException") D 2 0 0 (cW X K c) 0 [(0, .ref (X 0)), (1, .int v)] []
  refine G.aload_n 0 F dS_at_0 rfl rfl ?_
  refine G.iload_n 1 F dS_at_1 rfl rfl ?_
  exact G.callXo F htab (kx_workerOf l hl D K base X v c hI hv) ckS_29 cmS_29 cW_x rfl rfl ⟨rfl, rfl⟩ ⟨by decide, by decide⟩ ⟨by decide, by decide⟩ rfl rfl (Nat.le_of_ble_eq_true rfl) dS_at_2

set_option maxRecDepth 100000 in
set_option maxHeartbeats 4000000 in
theorem kx_known_x (l : Launch) (hl : l.stackTraces = false) (D : va_G) (K : Nat → ClassId) (base : Nat) (X : Nat → Nat) (v : Int32) (w : Int32) (c : CS) (hI : Inv c) (hv : v < 0 ∨ ¬ v < 4) : CtX l D K base yS_known cS_known 4 (some .int) (rmX 1) [.ref (X 0), .int v, .int w] (cW X K c) "java/lang/IndexOutOfBoundsException" := by
  refine CtX.enter (by decide) (Nat.le_of_ble_eq_true rfl) ⟨rfl, rfl⟩ ?_
  intro κ F htab
  show G κ l (rmX 1) (va_A (cW X K c) κ.2.2.1.heap.size) (Qx κ D (cW X K c) "java/lang/IndexOutOfBoundsException") D 4 0 0 (cW X K c) 0 [(0, .ref (X 0)), (1, .int v), (2, .int w)] []
  refine G.aload_n 0 F dS_known_0 rfl rfl ?_
  refine G.iload_n 1 F dS_known_1 rfl rfl ?_
  exact G.callXo F htab (kx_workerOf l hl D K base X v c hI hv) ckS_29 cmS_29 cW_x rfl rfl ⟨rfl, rfl⟩ ⟨by decide, by decide⟩ ⟨by decide, by decide⟩ rfl rfl (Nat.le_of_ble_eq_true rfl) dS_known_2

set_option maxRecDepth 100000 in
set_option maxHeartbeats 4000000 in
theorem kx_known_w (l : Launch) (hl : l.stackTraces = false) (D : va_G) (K : Nat → ClassId) (base : Nat) (X : Nat → Nat) (t : Nat) (ht : t < 4) (w : Int32) (c : CS) (hI : Inv c) (hw : w.toInt < 0 ∨ 3 < w.toInt) : CtX l D K base yS_known cS_known 4 (some .int) (rmX 1) [.ref (X 0), .int (nI t), .int w] (cW X K c) "java/lang/IndexOutOfBoundsException" := by
  refine CtX.enter (by decide) (Nat.le_of_ble_eq_true rfl) ⟨rfl, rfl⟩ ?_
  intro κ F htab
  show G κ l (rmX 1) (va_A (cW X K c) κ.2.2.1.heap.size) (Qx κ D (cW X K c) "java/lang/IndexOutOfBoundsException") D 4 0 0 (cW X K c) 0 [(0, .ref (X 0)), (1, .int (nI t)), (2, .int w)] []
  refine G.aload_n 0 F dS_known_0 rfl rfl ?_
  refine G.iload_n 1 F dS_known_1 rfl rfl ?_
  refine G.callr F (k_workerOf l D K base X t ht c hI) ckS_29 cW_x rfl rfl ⟨rfl, rfl⟩ ⟨by decide, by decide⟩ ⟨Nat.zero_le _, Nat.zero_le _⟩ rfl rfl (Nat.le_of_ble_eq_true rfl) dS_known_2 ?_
  refine G.astore_nN F dS_known_5 rfl (by decide) rfl ?_
  refine G.iload_n 3 F dS_known_6 rfl rfl ?_
  refine G.tabOut 56 F dS_known_7 hw rfl ?_
  exact G.throwS F htab hl tw_known_56 dS_known_56 dS_known_59 dS_known_60 dS_known_62 dS_known_65 ⟨by decide, Nat.le_of_ble_eq_true rfl, by decide, by decide⟩

set_option maxRecDepth 100000 in
set_option maxHeartbeats 4000000 in
theorem kx_says_x (l : Launch) (hl : l.stackTraces = false) (D : va_G) (K : Nat → ClassId) (base : Nat) (X : Nat → Nat) (v : Int32) (w : Int32) (c : CS) (hI : Inv c) (hv : v < 0 ∨ ¬ v < 4) : CtX l D K base yS_says cS_says 4 (some .int) (rmX 1) [.ref (X 0), .int v, .int w] (cW X K c) "java/lang/IndexOutOfBoundsException" := by
  refine CtX.enter (by decide) (Nat.le_of_ble_eq_true rfl) ⟨rfl, rfl⟩ ?_
  intro κ F htab
  show G κ l (rmX 1) (va_A (cW X K c) κ.2.2.1.heap.size) (Qx κ D (cW X K c) "java/lang/IndexOutOfBoundsException") D 4 0 0 (cW X K c) 0 [(0, .ref (X 0)), (1, .int v), (2, .int w)] []
  refine G.aload_n 0 F dS_says_0 rfl rfl ?_
  refine G.iload_n 1 F dS_says_1 rfl rfl ?_
  exact G.callXo F htab (kx_workerOf l hl D K base X v c hI hv) ckS_29 cmS_29 cW_x rfl rfl ⟨rfl, rfl⟩ ⟨by decide, by decide⟩ ⟨by decide, by decide⟩ rfl rfl (Nat.le_of_ble_eq_true rfl) dS_says_2

set_option maxRecDepth 100000 in
set_option maxHeartbeats 4000000 in
theorem kx_says_w (l : Launch) (hl : l.stackTraces = false) (D : va_G) (K : Nat → ClassId) (base : Nat) (X : Nat → Nat) (t : Nat) (ht : t < 4) (w : Int32) (c : CS) (hI : Inv c) (hw : w.toInt < 0 ∨ 2 < w.toInt) : CtX l D K base yS_says cS_says 4 (some .int) (rmX 1) [.ref (X 0), .int (nI t), .int w] (cW X K c) "java/lang/IndexOutOfBoundsException" := by
  refine CtX.enter (by decide) (Nat.le_of_ble_eq_true rfl) ⟨rfl, rfl⟩ ?_
  intro κ F htab
  show G κ l (rmX 1) (va_A (cW X K c) κ.2.2.1.heap.size) (Qx κ D (cW X K c) "java/lang/IndexOutOfBoundsException") D 4 0 0 (cW X K c) 0 [(0, .ref (X 0)), (1, .int (nI t)), (2, .int w)] []
  refine G.aload_n 0 F dS_says_0 rfl rfl ?_
  refine G.iload_n 1 F dS_says_1 rfl rfl ?_
  refine G.callr F (k_workerOf l D K base X t ht c hI) ckS_29 cW_x rfl rfl ⟨rfl, rfl⟩ ⟨by decide, by decide⟩ ⟨Nat.zero_le _, Nat.zero_le _⟩ rfl rfl (Nat.le_of_ble_eq_true rfl) dS_says_2 ?_
  refine G.astore_nN F dS_says_5 rfl (by decide) rfl ?_
  refine G.iload_n 3 F dS_says_6 rfl rfl ?_
  refine G.tabOut 47 F dS_says_7 hw rfl ?_
  exact G.throwS F htab hl tw_says_47 dS_says_47 dS_says_50 dS_says_51 dS_says_53 dS_says_56 ⟨by decide, Nat.le_of_ble_eq_true rfl, by decide, by decide⟩

set_option maxRecDepth 100000 in
set_option maxHeartbeats 4000000 in
theorem kx_advance_x (l : Launch) (hl : l.stackTraces = false) (D : va_G) (K : Nat → ClassId) (base : Nat) (X : Nat → Nat)  (c : CS) (hI : Inv c) (hb : ¬ c 22 0 = 0) : CtX l D K base yS_advance cS_advance 1 (some .boolean) (rmX 1) [.ref (X 0)] (cW X K c) "java/lang/UnsupportedOperationException" := by
  refine CtX.enter (by decide) (Nat.le_of_ble_eq_true rfl) ⟨rfl, rfl⟩ ?_
  intro κ F htab
  show G κ l (rmX 1) (va_A (cW X K c) κ.2.2.1.heap.size) (Qx κ D (cW X K c) "java/lang/UnsupportedOperationException") D 1 0 0 (cW X K c) 0 [(0, .ref (X 0))] []
  refine G.aload_n 0 F dS_advance_0 rfl rfl ?_
  refine G.gX 0 F (by decide) flS_9 rfl dS_advance_1 ?_
  refine G.if_eq 17 F dS_advance_4 rfl (fun h9 => absurd h9 hb) (fun _ => ?_)
  exact G.throwS F htab hl tw_advance_7 dS_advance_7 dS_advance_10 dS_advance_11 dS_advance_13 dS_advance_16 ⟨by decide, Nat.le_of_ble_eq_true rfl, by decide, by decide⟩

set_option maxRecDepth 100000 in
set_option maxHeartbeats 4000000 in
theorem kx_scan_x (l : Launch) (hl : l.stackTraces = false) (D : va_G) (K : Nat → ClassId) (base : Nat) (X : Nat → Nat) (v : Int32) (c : CS) (hI : Inv c) (hv : v < 0 ∨ ¬ v < 4) : CtX l D K base yS_scan cS_scan 3 (some .int) (rmX 1) [.ref (X 0), .int v] (cW X K c) "java/lang/IndexOutOfBoundsException" := by
  refine CtX.enter (by decide) (Nat.le_of_ble_eq_true rfl) ⟨rfl, rfl⟩ ?_
  intro κ F htab
  show G κ l (rmX 1) (va_A (cW X K c) κ.2.2.1.heap.size) (Qx κ D (cW X K c) "java/lang/IndexOutOfBoundsException") D 3 0 0 (cW X K c) 0 [(0, .ref (X 0)), (1, .int v)] []
  refine G.aload_n 0 F dS_scan_0 rfl rfl ?_
  refine G.iload_n 1 F dS_scan_1 rfl rfl ?_
  exact G.callXo F htab (kx_workerOf l hl D K base X v c hI hv) ckS_29 cmS_29 cW_x rfl rfl ⟨rfl, rfl⟩ ⟨by decide, by decide⟩ ⟨by decide, by decide⟩ rfl rfl (Nat.le_of_ble_eq_true rfl) dS_scan_2

set_option maxRecDepth 100000 in
set_option maxHeartbeats 4000000 in
theorem kx_scan_s (l : Launch) (hl : l.stackTraces = false) (D : va_G) (K : Nat → ClassId) (base : Nat) (X : Nat → Nat) (t : Nat) (ht : t < 4) (c : CS) (hI : Inv c) (hb : ¬ c 22 0 = 1) : CtX l D K base yS_scan cS_scan 3 (some .int) (rmX 1) [.ref (X 0), .int (nI t)] (cW X K c) "java/lang/UnsupportedOperationException" := by
  refine CtX.enter (by decide) (Nat.le_of_ble_eq_true rfl) ⟨rfl, rfl⟩ ?_
  intro κ F htab
  show G κ l (rmX 1) (va_A (cW X K c) κ.2.2.1.heap.size) (Qx κ D (cW X K c) "java/lang/UnsupportedOperationException") D 3 0 0 (cW X K c) 0 [(0, .ref (X 0)), (1, .int (nI t))] []
  refine G.aload_n 0 F dS_scan_0 rfl rfl ?_
  refine G.iload_n 1 F dS_scan_1 rfl rfl ?_
  refine G.callr F (k_workerOf l D K base X t ht c hI) ckS_29 cW_x rfl rfl ⟨rfl, rfl⟩ ⟨by decide, by decide⟩ ⟨Nat.zero_le _, Nat.zero_le _⟩ rfl rfl (Nat.le_of_ble_eq_true rfl) dS_scan_2 ?_
  refine G.astore_nN F dS_scan_5 rfl (by decide) rfl ?_
  refine G.aload_n 1 F dS_scan_6 rfl rfl ?_
  refine G.gX 0 F (by decide) flS_9 rfl dS_scan_7 ?_
  refine G.iconst 1 F dS_scan_10 (by decide) ?_
  refine G.icmp_eq 24 F dS_scan_11 rfl (fun h9 => absurd h9 hb) (fun _ => ?_)
  exact G.throwS F htab hl tw_scan_14 dS_scan_14 dS_scan_17 dS_scan_18 dS_scan_20 dS_scan_23 ⟨by decide, Nat.le_of_ble_eq_true rfl, by decide, by decide⟩

set_option maxRecDepth 100000 in
set_option maxHeartbeats 4000000 in
theorem kx_block_bl (l : Launch) (hl : l.stackTraces = false) (D : va_G) (K : Nat → ClassId) (base : Nat) (X : Nat → Nat) (v : Int32) (w : Int32) (c : CS) (hI : Inv c) (hv : v < 0) : CtX l D K base yS_block cS_block 3 (some .int) (rmX 1) [.ref (X 0), .int v, .int w] (cW X K c) "java/lang/IndexOutOfBoundsException" := by
  refine CtX.enter (by decide) (Nat.le_of_ble_eq_true rfl) ⟨rfl, rfl⟩ ?_
  intro κ F htab
  show G κ l (rmX 1) (va_A (cW X K c) κ.2.2.1.heap.size) (Qx κ D (cW X K c) "java/lang/IndexOutOfBoundsException") D 3 0 0 (cW X K c) 0 [(0, .ref (X 0)), (1, .int v), (2, .int w)] []
  refine G.iload_n 1 F dS_block_0 rfl rfl ?_
  refine G.if_lt 10 F dS_block_1 rfl (fun _ => ?_) (fun h9 => absurd hv h9)
  exact G.throwS F htab hl tw_block_10 dS_block_10 dS_block_13 dS_block_14 dS_block_16 dS_block_19 ⟨by decide, Nat.le_of_ble_eq_true rfl, by decide, by decide⟩

set_option maxRecDepth 100000 in
set_option maxHeartbeats 4000000 in
theorem kx_block_bh (l : Launch) (hl : l.stackTraces = false) (D : va_G) (K : Nat → ClassId) (base : Nat) (X : Nat → Nat) (v : Int32) (w : Int32) (c : CS) (hI : Inv c) (hv : ¬ v < 0) (hv2 : ¬ v ≤ 20) : CtX l D K base yS_block cS_block 3 (some .int) (rmX 1) [.ref (X 0), .int v, .int w] (cW X K c) "java/lang/IndexOutOfBoundsException" := by
  refine CtX.enter (by decide) (Nat.le_of_ble_eq_true rfl) ⟨rfl, rfl⟩ ?_
  intro κ F htab
  show G κ l (rmX 1) (va_A (cW X K c) κ.2.2.1.heap.size) (Qx κ D (cW X K c) "java/lang/IndexOutOfBoundsException") D 3 0 0 (cW X K c) 0 [(0, .ref (X 0)), (1, .int v), (2, .int w)] []
  refine G.iload_n 1 F dS_block_0 rfl rfl ?_
  refine G.if_lt 10 F dS_block_1 rfl (fun h9 => absurd h9 hv) (fun _ => ?_)
  refine G.iload_n 1 F dS_block_4 rfl rfl ?_
  refine G.bipush 20 F dS_block_5 (by decide) ?_
  refine G.icmp_le 20 F dS_block_7 rfl (fun h9 => absurd h9 hv2) (fun _ => ?_)
  exact G.throwS F htab hl tw_block_10 dS_block_10 dS_block_13 dS_block_14 dS_block_16 dS_block_19 ⟨by decide, Nat.le_of_ble_eq_true rfl, by decide, by decide⟩

set_option maxRecDepth 100000 in
set_option maxHeartbeats 4000000 in
theorem kx_block_wl (l : Launch) (hl : l.stackTraces = false) (D : va_G) (K : Nat → ClassId) (base : Nat) (X : Nat → Nat) (v : Int32) (w : Int32) (c : CS) (hI : Inv c) (hv : ¬ v < 0) (hv2 : v ≤ 20) (hw : w < 0) : CtX l D K base yS_block cS_block 3 (some .int) (rmX 1) [.ref (X 0), .int v, .int w] (cW X K c) "java/lang/IndexOutOfBoundsException" := by
  refine CtX.enter (by decide) (Nat.le_of_ble_eq_true rfl) ⟨rfl, rfl⟩ ?_
  intro κ F htab
  show G κ l (rmX 1) (va_A (cW X K c) κ.2.2.1.heap.size) (Qx κ D (cW X K c) "java/lang/IndexOutOfBoundsException") D 3 0 0 (cW X K c) 0 [(0, .ref (X 0)), (1, .int v), (2, .int w)] []
  refine G.iload_n 1 F dS_block_0 rfl rfl ?_
  refine G.if_lt 10 F dS_block_1 rfl (fun h9 => absurd h9 hv) (fun _ => ?_)
  refine G.iload_n 1 F dS_block_4 rfl rfl ?_
  refine G.bipush 20 F dS_block_5 (by decide) ?_
  refine G.icmp_le 20 F dS_block_7 rfl (fun _ => ?_) (fun h9 => absurd hv2 h9)
  refine G.iload_n 2 F dS_block_20 rfl rfl ?_
  refine G.if_lt 29 F dS_block_21 rfl (fun _ => ?_) (fun h9 => absurd hw h9)
  exact G.throwS F htab hl tw_block_29 dS_block_29 dS_block_32 dS_block_33 dS_block_35 dS_block_38 ⟨by decide, Nat.le_of_ble_eq_true rfl, by decide, by decide⟩

set_option maxRecDepth 100000 in
set_option maxHeartbeats 4000000 in
theorem kx_block_wh (l : Launch) (hl : l.stackTraces = false) (D : va_G) (K : Nat → ClassId) (base : Nat) (X : Nat → Nat) (v : Int32) (w : Int32) (c : CS) (hI : Inv c) (hv : ¬ v < 0) (hv2 : v ≤ 20) (hw : ¬ w < 0) (hw2 : ¬ w ≤ 5) : CtX l D K base yS_block cS_block 3 (some .int) (rmX 1) [.ref (X 0), .int v, .int w] (cW X K c) "java/lang/IndexOutOfBoundsException" := by
  refine CtX.enter (by decide) (Nat.le_of_ble_eq_true rfl) ⟨rfl, rfl⟩ ?_
  intro κ F htab
  show G κ l (rmX 1) (va_A (cW X K c) κ.2.2.1.heap.size) (Qx κ D (cW X K c) "java/lang/IndexOutOfBoundsException") D 3 0 0 (cW X K c) 0 [(0, .ref (X 0)), (1, .int v), (2, .int w)] []
  refine G.iload_n 1 F dS_block_0 rfl rfl ?_
  refine G.if_lt 10 F dS_block_1 rfl (fun h9 => absurd h9 hv) (fun _ => ?_)
  refine G.iload_n 1 F dS_block_4 rfl rfl ?_
  refine G.bipush 20 F dS_block_5 (by decide) ?_
  refine G.icmp_le 20 F dS_block_7 rfl (fun _ => ?_) (fun h9 => absurd hv2 h9)
  refine G.iload_n 2 F dS_block_20 rfl rfl ?_
  refine G.if_lt 29 F dS_block_21 rfl (fun h9 => absurd h9 hw) (fun _ => ?_)
  refine G.iload_n 2 F dS_block_24 rfl rfl ?_
  refine G.iconst 5 F dS_block_25 (by decide) ?_
  refine G.icmp_le 39 F dS_block_26 rfl (fun h9 => absurd h9 hw2) (fun _ => ?_)
  exact G.throwS F htab hl tw_block_29 dS_block_29 dS_block_32 dS_block_33 dS_block_35 dS_block_38 ⟨by decide, Nat.le_of_ble_eq_true rfl, by decide, by decide⟩
end
section
-- ===== the law's own methods =====
def oW (o : Nat) (K : Nat → ClassId) (v : Nat → Int64) : va_W := [(o, .inl (K 4, 1, .inr (.inl v)))]
/-- a static method with handlers, an int its answer -/
def CtIW (l : Launch) (D : va_G) (K : Nat → ClassId) (base : Nat) (y : MethodName) (b : ByteArray) (n : Nat) (hh : List (Nat × Nat × Nat × Nat)) (rm : Room) (av : List Value) (σ : va_W) (r : Int32) (σ' : va_W) : Prop :=
  ∀ sz, Met l y (.codeWith y b n (some .int) hh :: WSg) rm (va_Pc av (PreC D K base σ sz)) (va_Qi (fun (x : Int32) (_ : Unit) => x = r) (fun _ => PostC D σ σ' sz) (va_A σ sz)) rm.cells rm.slots (va_A σ sz)
section LAW
variable {κ : KM} {l : Launch} {R : Room} {A : Nat → Prop} {Q : State → Prop} {D : va_G} {K : Nat → ClassId} {base : Nat} {cc : ByteArray} {own E : String} {nL cells slots pc : Nat} {σ σ' α ρ ω ω' : va_W} {L : List (Nat × Value)} {S : List Value}
variable {y : MethodName} {b : ByteArray} {n np idx a : Nat} {ret : Option FieldType} {rm : Room} {av As rest : List Value} {H : Heap} {locs : List Loc} {ls : Array Slot} {hh : List (Nat × Nat × Nat × Nat)} {r : Int32}
theorem CtIW.enter (hy : plainName y.cls = true) (hn : (lg_sl av).length ≤ n)
    (body : ∀ (κ : KM) (A : Nat → Prop) (Q : State → Prop), Fx κ A D K base b y.cls n → κ.2.2.2.2.2.2.2.exceptionTable.toList = tableOf hh → (∀ pc L v, decode b pc = .ok (.ireturn, 1) → v = r → G κ l rm A Q D n rm.cells rm.slots σ' pc L [.int v]) → G κ l rm A Q D n 0 0 σ 0 (lv_args 0 av) []) : CtIW l D K base y b n hh rm av σ r σ' := by
  intro sz
  refine va_MetW (hh := hh) (cc := b) (maxL := n) (ret := some .int) hy rfl ?_
  intro p e s m args below meth c s₁ B hml hv
  obtain ⟨rfl, hsz, hP, hD0, hbz, hE⟩ := hv
  subst hsz
  have hts := atoms_spec (ws := .codeWith y b n (some .int) hh :: WSg) B.pre
  have htab := vx_table B (hts _ List.mem_cons_self)
  have hl := lv_entry av (n := n) hn
  rw [lg_entry_eq]
  refine body (p, e, s, m, av.toArray, below, meth, c) (va_A σ s.heap.size) _ ⟨B.exec, B.bytes, hml, findClass_of_methodNamed B.named, fun w hw => hts w (List.mem_cons_of_mem _ hw), hE, A_base hD0 hbz, fun q h => Or.inr h, B.notSynchronized, hbz⟩ htab ?_ s.heap [] _ hP hD0.self va_S.rf hl
  intro pc L v hd hv H locs ls hP hD hS hl
  exact W.iret B.exec B.bytes B.returns (fun t ht hW => ⟨⟨v, (), rfl, hv, by rw [ht]; exact hP, hD⟩, hS.F ht⟩) hS.2.2 hd B.notSynchronized
/-- calls with a frame -/
theorem G.callFv {q0 ci : Nat} {fs : List Value} {r : vw_C} (α ρ : va_W) (F : Fx κ A D K base cc own nL) (h : CtV l D K base y b n rm (.ref a :: As) σ σ') (hω : ω = α ++ (σ ++ ρ)) (hω' : α ++ (σ' ++ ρ) = ω') (ck : CK own idx y b n none np) (hq : σ[q0]? = some (a, .inr (ci, fs))) (hc : cl4[ci]? = some r) (hr : r.1 = y.cls) (hz : rm.cells = 0 ∧ rm.slots = 0) (hR : rm.frames + 1 ≤ R.frames ∧ 8 + (n + 11) + rm.locals ≤ R.locals) (hf : cells ≤ R.cells ∧ slots ≤ R.slots) (hn : As.length = np) (hst : S = As.reverse ++ .ref a :: rest) (hW : (rest.map fun v => v.category).sum ≤ 8) (hd : decode cc pc = .ok (.invokevirtual idx, 3))
    (kk : G κ l R A Q D nL cells slots ω' (pc + 3) L rest) : G κ l R A Q D nL cells slots ω pc L S := by
  subst hω; subst hω'
  intro H locs ls hP hD hS hl
  have hP0 := P_mid hP
  have hD0 := D_mid hD
  have hF := F.free hD0 hS
  have hM := h H.size
  rw [hz.1, hz.2] at hM
  refine va_callv (F.run (np := np) (a := a) (As := As) (rest := rest) ck hM hz.1 hz.2 hR ⟨PreC.blind, F.recv hP0 hq hc hr, F.pre hP0 hD0 hS⟩ hn hl.1 hst hW hd hf) hS (fun q _ h => hF q h) hF (fun u t H1 locs1 ht hvm hp hB hz1 hk1 hS1 => ?_)
  obtain ⟨hP1, hD1⟩ := hB
  rw [ht] at hP1
  obtain ⟨hPj, hDj⟩ := frame_join hP hD hk1 hF hP1 hD1
  exact kk H1 locs1 ls hPj hDj hS1 hl
theorem G.callFi {q0 ci : Nat} {fs : List Value} {r : vw_C} {ty : FieldType} {v : Int32} (α ρ : va_W) (F : Fx κ A D K base cc own nL) (h : CtI l D K base y b n ty rm (.ref a :: As) σ v σ') (hω : ω = α ++ (σ ++ ρ)) (hω' : α ++ (σ' ++ ρ) = ω') (ck : CK own idx y b n (some ty) np) (hq : σ[q0]? = some (a, .inr (ci, fs))) (hc : cl4[ci]? = some r) (hr : r.1 = y.cls) (hz : rm.cells = 0 ∧ rm.slots = 0) (hR : rm.frames + 1 ≤ R.frames ∧ 8 + (n + 11) + rm.locals ≤ R.locals) (hf : cells ≤ R.cells ∧ slots ≤ R.slots) (hn : As.length = np) (hst : S = As.reverse ++ .ref a :: rest) (hW : (rest.map fun v => v.category).sum ≤ 8) (hd : decode cc pc = .ok (.invokevirtual idx, 3))
    (kk : G κ l R A Q D nL cells slots ω' (pc + 3) L (.int v :: rest)) : G κ l R A Q D nL cells slots ω pc L S := by
  subst hω; subst hω'
  intro H locs ls hP hD hS hl
  have hP0 := P_mid hP
  have hD0 := D_mid hD
  have hF := F.free hD0 hS
  have hM := h H.size
  rw [hz.1, hz.2] at hM
  refine va_calli (F.run (np := np) (a := a) (As := As) (rest := rest) ck hM hz.1 hz.2 hR ⟨PreC.blind, F.recv hP0 hq hc hr, F.pre hP0 hD0 hS⟩ hn hl.1 hst hW hd hf) hS (fun q _ h => hF q h) hF (fun x u t H1 locs1 ht hvm hp hB hz1 hk1 hS1 => ?_)
  obtain ⟨hP1, hD1⟩ := hB
  rw [ht] at hP1
  subst hp
  obtain ⟨hPj, hDj⟩ := frame_join hP hD hk1 hF hP1 hD1
  exact kk H1 locs1 ls hPj hDj hS1 hl
/-- what the tables say of a call of the law's own method y with handlers -/
def CKw (own : String) (idx : Nat) (y : MethodName) (b : ByteArray) (n : Nat) (hh : List (Nat × Nat × Nat × Nat)) (np : Nat) : Prop :=
  Cond.codeWith y b n (some .int) hh ∈ WSg ∧ Cond.initialized y.cls ∈ WSg ∧ Cond.static y ∈ WSg ∧ Cond.methodLink own idx y ∈ WSg ∧ (y.cls ≠ "java/lang/invoke/MethodHandle" ∧ y.cls ≠ "java/lang/invoke/VarHandle") ∧ (parseMethodDescriptor y.desc).map (fun d => d.parameters.length) = some np
theorem Fx.payw (F : Fx κ A D K base cc own nL) (hc : Cond.codeWith y b n (some .int) hh ∈ WSg) : ∀ w ∈ Cond.codeWith y b n (some .int) hh :: WSg, ∀ (a' : Array Value) (U : State), κ.2.2.1.WarmedH U.vm → w.before a' U = true := by
  intro w hw a' U hW
  have h : w ∈ WSg := by
    rcases List.mem_cons.mp hw with rfl | h
    · exact hc
    · exact h
  exact word_at hW (WSg_good h) (F.ts w h)
theorem G.callW {v : Int32} (α ρ : va_W) (F : Fx κ A D K base cc own nL) (h : CtIW l D K base y b n hh rm As σ v σ') (hω : ω = α ++ (σ ++ ρ)) (hω' : α ++ (σ' ++ ρ) = ω') (ck : CKw own idx y b n hh np) (hR : rm.frames + 1 ≤ R.frames ∧ 8 + (n + 11) + rm.locals ≤ R.locals) (hf : cells + rm.cells ≤ R.cells ∧ slots + rm.slots ≤ R.slots) (hn : As.length = np) (hst : S = As.reverse ++ rest) (hW : (rest.map fun v => v.category).sum ≤ 8) (hd : decode cc pc = .ok (.invokestatic idx, 3))
    (kk : G κ l R A Q D nL (cells + rm.cells) (slots + rm.slots) ω' (pc + 3) L (.int v :: rest)) : G κ l R A Q D nL cells slots ω pc L S := by
  subst hω; subst hω'
  obtain ⟨c1, c2, c3, c5, c6, c7⟩ := ck
  have hlen : ∀ sig, parseMethodDescriptor y.desc = some sig → np = sig.parameters.length := fun sig h => by
    rw [h] at c7
    exact (Option.some.inj c7).symm
  intro H locs ls hP hD hS hl
  have hP0 := P_mid hP
  have hD0 := D_mid hD
  have hF := F.free hD0 hS
  have hM := h H.size
  refine va_calli (vx_runSW (cc := cc) (nL := nL) (Ts := WSg) (own := own) (As := As) (rest := rest) (n := np) ⟨F.ex, F.hb, F.ml, F.ow, F.ts⟩ hM ⟨⟨rfl, rfl, hR.1, hR.2, F.payw c1, List.mem_cons_self⟩, F.ts _ c1, F.ts _ c2, c6, hlen, F.ts _ c5, F.ts _ c3⟩ ⟨PreC.blind, F.pre hP0 hD0 hS⟩ rfl hn hl.1 hst (lv_room hW) hd hf) hS (fun q _ h => hF q h) hF (fun x u t H1 locs1 ht hvm hp hB hz1 hk1 hS1 => ?_)
  obtain ⟨hP1, hD1⟩ := hB
  rw [ht] at hP1
  subst hp
  obtain ⟨hPj, hDj⟩ := frame_join hP hD hk1 hF hP1 hD1
  exact kk H1 locs1 ls hPj hDj hS1 hl
/-- a call that throws, caught by the row x of the method's own table -/
theorem G.callXc {q0 ci : Nat} {fs : List Value} {r : vw_C} {name : String} (α ρ : va_W) (pre : List ExceptionTableEntry) (x : ExceptionTableEntry) (suf : List ExceptionTableEntry) (F : Fx κ A D K base cc own nL) (h : CtX l D K base y b n ret rm (.ref a :: As) σ E) (hω : ω = α ++ (σ ++ ρ)) (ck : CK own idx y b n ret np) (hlk : Cond.methodLink own idx y ∈ WSg)
    (hsplit : κ.2.2.2.2.2.2.2.exceptionTable.toList = pre ++ x :: suf) (hpass : ∀ z ∈ pre, z.catchType ≠ 0 ∧ ∃ nm : String, Cond.classLink own z.catchType nm ∈ WSg ∧ (E, nm) ∈ NCl) (hx : covers x pc = true) (h0 : x.catchType ≠ 0) (hlink : Cond.classLink own x.catchType name ∈ WSg) (hcast : Cond.castable E name ∈ NWl)
    (hq : σ[q0]? = some (a, .inr (ci, fs))) (hc : cl4[ci]? = some r) (hr : r.1 = y.cls) (hz : rm.cells = 1 ∧ rm.slots = 6) (hR : rm.frames + 1 ≤ R.frames ∧ 8 + (n + 11) + rm.locals ≤ R.locals) (hf : cells + 1 ≤ R.cells ∧ slots + 6 ≤ R.slots) (hn : As.length = np) (hst : S = As.reverse ++ .ref a :: rest) (hW : (rest.map fun v => v.category).sum ≤ 8) (hd : decode cc pc = .ok (.invokevirtual idx, 3))
    (kk : ∀ q : Nat, G κ l R A Q D nL (cells + 1) (slots + 6) ω x.handlerPc L [.ref q]) : G κ l R A Q D nL cells slots ω pc L S := by
  subst hω
  refine G.callX (α := α) (ρ := ρ) (rest := rest) F h ck hlk hq hc hr hz hR hf hn hst hW hd ?_
  intro H locs ls q ce hP hD hS hl hce hcv hcl
  exact vx_catch (own := own) (name := name) (E := E) F.ow pre x suf hsplit (fun z hz => by
    obtain ⟨h1, nm, h2, h3⟩ := hpass z hz
    exact Or.inr ⟨h1, nm, F.ts _ h2, F.ev.2.2.2.1 _ h3⟩) hx h0 (F.ts _ hlink) (va_Nw.use rfl (F.ev.2.1 _ hcast)) hce hcv hcl (kk q H locs ls hP hD hS hl)
/-- out[0] -/
theorem G.stO {o : Nat} {v : Nat → Int64} {x : Int64} {i : Int32} (α : va_W) (q0 : Nat) (F : Fx κ A D K base cc own nL) (hω : ω = α ++ oW o K v) (hω' : α ++ oW o K (vp_updL v 0 x) = ω') (hq : α.length = q0) (hi : i = 0) (hd : decode cc pc = .ok (.lastore, 1))
    (kk : G κ l R A Q D nL cells slots ω' (pc + 1) L S) : G κ l R A Q D nL cells slots ω pc L (.long x :: .int i :: .ref o :: S) := by
  subst hω; subst hω'; subst hi
  intro H locs ls hP hD hS hl
  have he : (α ++ oW o K v)[q0]? = some (o, .inl (K 4, 1, .inr (.inl v))) := by
    rw [List.getElem?_append_right (by omega), hq, Nat.sub_self]; rfl
  refine va_last F.ex F.hb F.ev.1 hP hD hS q0 4 he rfl (by unfold vp_in; decide) hd (fun H1 locs1 hP1 hD1 hS1 => ?_)
  have e1 : (α ++ oW o K v).set q0 (o, .inl (K 4, 1, .inr (.inl (vp_updL v (0 : Int32).toNatClampNeg x)))) = α ++ oW o K (vp_updL v 0 x) := by
    rw [List.set_append_right _ _ (by omega), hq, Nat.sub_self]
    rfl
  rw [e1] at hP1 hD1
  exact kk H1 locs1 ls hP1 hD1 hS1 hl
theorem G.ldO {o : Nat} {v : Nat → Int64} {i : Int32} (α : va_W) (q0 : Nat) (F : Fx κ A D K base cc own nL) (hω : ω = α ++ oW o K v) (hq : α.length = q0) (hi : i = 0) (hd : decode cc pc = .ok (.laload, 1))
    (kk : G κ l R A Q D nL cells slots ω (pc + 1) L (.long (v 0) :: S)) : G κ l R A Q D nL cells slots ω pc L (.int i :: .ref o :: S) := by
  subst hω; subst hi
  intro H locs ls hP hD hS hl
  have he : (α ++ oW o K v)[q0]? = some (o, .inl (K 4, 1, .inr (.inl v))) := by
    rw [List.getElem?_append_right (by omega), hq, Nat.sub_self]; rfl
  exact va_lald F.ex F.hb F.ev.1 hP q0 4 he rfl (by unfold vp_in; decide) hd (kk H locs ls hP hD hS hl)
theorem G.topl {x : Int64} (y : Int64) (h : x = y) (kk : G κ l R A Q D nL cells slots ω pc L (.long y :: S)) : G κ l R A Q D nL cells slots ω pc L (.long x :: S) := h ▸ kk
end LAW
end

set_option maxRecDepth 100000 in
theorem tw_begin_16 : TW RS 33 35 37 "java/lang/IllegalArgumentException" "no such operation" ["java/lang/RuntimeException", "java/lang/Exception"] := ⟨by decide +kernel, by decide +kernel, WSg_in (List.mem_of_getElem? (i := 300) (by decide +kernel)) rfl, WSg_in (List.mem_of_getElem? (i := 67) (by decide +kernel)) rfl, by decide +kernel, by decide +kernel, by decide +kernel⟩
set_option maxRecDepth 100000 in
theorem tw_begin_36 : TW RS 33 40 37 "java/lang/IllegalArgumentException" "no such key" ["java/lang/RuntimeException", "java/lang/Exception"] := ⟨by decide +kernel, by decide +kernel, WSg_in (List.mem_of_getElem? (i := 300) (by decide +kernel)) rfl, WSg_in (List.mem_of_getElem? (i := 67) (by decide +kernel)) rfl, by decide +kernel, by decide +kernel, by decide +kernel⟩
set_option maxRecDepth 100000 in
theorem tw_begin_54 : TW RS 45 47 49 "java/lang/IllegalStateException" "the thread is not idle" ["java/lang/RuntimeException", "java/lang/Exception"] := ⟨by decide +kernel, by decide +kernel, WSg_in (List.mem_of_getElem? (i := 317) (by decide +kernel)) rfl, WSg_in (List.mem_of_getElem? (i := 68) (by decide +kernel)) rfl, by decide +kernel, by decide +kernel, by decide +kernel⟩
set_option maxRecDepth 100000 in
theorem tw_known_56 : TW RS 86 88 90 "java/lang/IndexOutOfBoundsException" "no such thing is known" ["java/lang/RuntimeException", "java/lang/Exception"] := ⟨by decide +kernel, by decide +kernel, WSg_in (List.mem_of_getElem? (i := 230) (by decide +kernel)) rfl, WSg_in (List.mem_of_getElem? (i := 66) (by decide +kernel)) rfl, by decide +kernel, by decide +kernel, by decide +kernel⟩
set_option maxRecDepth 100000 in
theorem tw_says_47 : TW RS 86 100 90 "java/lang/IndexOutOfBoundsException" "no such thing is said" ["java/lang/RuntimeException", "java/lang/Exception"] := ⟨by decide +kernel, by decide +kernel, WSg_in (List.mem_of_getElem? (i := 230) (by decide +kernel)) rfl, WSg_in (List.mem_of_getElem? (i := 66) (by decide +kernel)) rfl, by decide +kernel, by decide +kernel, by decide +kernel⟩
set_option maxRecDepth 100000 in
theorem tw_advance_7 : TW RS 102 104 106 "java/lang/UnsupportedOperationException" "epochs are for scheme 0" ["java/lang/RuntimeException", "java/lang/Exception"] := ⟨by decide +kernel, by decide +kernel, WSg_in (List.mem_of_getElem? (i := 531) (by decide +kernel)) rfl, WSg_in (List.mem_of_getElem? (i := 70) (by decide +kernel)) rfl, by decide +kernel, by decide +kernel, by decide +kernel⟩
set_option maxRecDepth 100000 in
theorem tw_scan_14 : TW RS 102 117 106 "java/lang/UnsupportedOperationException" "scans are for scheme 1" ["java/lang/RuntimeException", "java/lang/Exception"] := ⟨by decide +kernel, by decide +kernel, WSg_in (List.mem_of_getElem? (i := 531) (by decide +kernel)) rfl, WSg_in (List.mem_of_getElem? (i := 70) (by decide +kernel)) rfl, by decide +kernel, by decide +kernel, by decide +kernel⟩
set_option maxRecDepth 100000 in
theorem tw_block_10 : TW RS 86 123 90 "java/lang/IndexOutOfBoundsException" "no such block" ["java/lang/RuntimeException", "java/lang/Exception"] := ⟨by decide +kernel, by decide +kernel, WSg_in (List.mem_of_getElem? (i := 230) (by decide +kernel)) rfl, WSg_in (List.mem_of_getElem? (i := 66) (by decide +kernel)) rfl, by decide +kernel, by decide +kernel, by decide +kernel⟩
set_option maxRecDepth 100000 in
theorem tw_block_29 : TW RS 86 125 90 "java/lang/IndexOutOfBoundsException" "nothing such of a block" ["java/lang/RuntimeException", "java/lang/Exception"] := ⟨by decide +kernel, by decide +kernel, WSg_in (List.mem_of_getElem? (i := 230) (by decide +kernel)) rfl, WSg_in (List.mem_of_getElem? (i := 66) (by decide +kernel)) rfl, by decide +kernel, by decide +kernel, by decide +kernel⟩
set_option maxRecDepth 100000 in
theorem tw_workerOf_9 : TW RS 86 142 90 "java/lang/IndexOutOfBoundsException" "no such thread" ["java/lang/RuntimeException", "java/lang/Exception"] := ⟨by decide +kernel, by decide +kernel, WSg_in (List.mem_of_getElem? (i := 230) (by decide +kernel)) rfl, WSg_in (List.mem_of_getElem? (i := 66) (by decide +kernel)) rfl, by decide +kernel, by decide +kernel, by decide +kernel⟩
set_option maxRecDepth 100000 in
theorem tw_busyWorkerOf_13 : TW RS 45 144 49 "java/lang/IllegalStateException" "the thread is idle" ["java/lang/RuntimeException", "java/lang/Exception"] := ⟨by decide +kernel, by decide +kernel, WSg_in (List.mem_of_getElem? (i := 317) (by decide +kernel)) rfl, WSg_in (List.mem_of_getElem? (i := 68) (by decide +kernel)) rfl, by decide +kernel, by decide +kernel, by decide +kernel⟩
theorem cmL_103 : Cond.methodLink RL 103 yS_size ∈ WSg := WSg_in (List.mem_of_getElem? (i := 197) (by decide +kernel)) rfl
theorem cmL_107 : Cond.methodLink RL 107 yS_has ∈ WSg := WSg_in (List.mem_of_getElem? (i := 201) (by decide +kernel)) rfl
theorem cmL_112 : Cond.methodLink RL 112 yS_faults ∈ WSg := WSg_in (List.mem_of_getElem? (i := 205) (by decide +kernel)) rfl
theorem cmL_116 : Cond.methodLink RL 116 yS_epoch ∈ WSg := WSg_in (List.mem_of_getElem? (i := 209) (by decide +kernel)) rfl
theorem cmL_7 : Cond.methodLink RL 7 yS_begin ∈ WSg := WSg_in (List.mem_of_getElem? (i := 222) (by decide +kernel)) rfl
theorem cmS_29 : Cond.methodLink RS 29 yS_workerOf ∈ WSg := WSg_in (List.mem_of_getElem? (i := 226) (by decide +kernel)) rfl
theorem cmL_19 : Cond.methodLink RL 19 yS_step ∈ WSg := WSg_in (List.mem_of_getElem? (i := 340) (by decide +kernel)) rfl
theorem cmS_59 : Cond.methodLink RS 59 yS_busyWorkerOf ∈ WSg := WSg_in (List.mem_of_getElem? (i := 344) (by decide +kernel)) rfl
theorem cmS_62 : Cond.methodLink RS 62 yS_perform ∈ WSg := WSg_in (List.mem_of_getElem? (i := 349) (by decide +kernel)) rfl
theorem cmS_146 : Cond.methodLink RS 146 yS_startWork ∈ WSg := WSg_in (List.mem_of_getElem? (i := 353) (by decide +kernel)) rfl
theorem cmS_149 : Cond.methodLink RS 149 yS_goToHead ∈ WSg := WSg_in (List.mem_of_getElem? (i := 357) (by decide +kernel)) rfl
theorem cmS_179 : Cond.methodLink RS 179 yS_moveHereTo ∈ WSg := WSg_in (List.mem_of_getElem? (i := 361) (by decide +kernel)) rfl
theorem cmS_152 : Cond.methodLink RS 152 yS_nameHere ∈ WSg := WSg_in (List.mem_of_getElem? (i := 365) (by decide +kernel)) rfl
theorem cmS_155 : Cond.methodLink RS 155 yS_checkBack ∈ WSg := WSg_in (List.mem_of_getElem? (i := 369) (by decide +kernel)) rfl
theorem cmS_183 : Cond.methodLink RS 183 yS_lookAtBack ∈ WSg := WSg_in (List.mem_of_getElem? (i := 373) (by decide +kernel)) rfl
theorem cmS_231 : Cond.methodLink RS 231 yS_countFault ∈ WSg := WSg_in (List.mem_of_getElem? (i := 377) (by decide +kernel)) rfl
theorem cmS_158 : Cond.methodLink RS 158 yS_readHere ∈ WSg := WSg_in (List.mem_of_getElem? (i := 385) (by decide +kernel)) rfl
theorem cmS_193 : Cond.methodLink RS 193 yS_lookAtHere ∈ WSg := WSg_in (List.mem_of_getElem? (i := 389) (by decide +kernel)) rfl
theorem cmS_161 : Cond.methodLink RS 161 yS_cutHere ∈ WSg := WSg_in (List.mem_of_getElem? (i := 393) (by decide +kernel)) rfl
theorem cmS_199 : Cond.methodLink RS 199 yS_takeOutHere ∈ WSg := WSg_in (List.mem_of_getElem? (i := 397) (by decide +kernel)) rfl
theorem cmS_228 : Cond.methodLink RS 228 yS_retireHere ∈ WSg := WSg_in (List.mem_of_getElem? (i := 405) (by decide +kernel)) rfl
theorem cmS_247 : Cond.methodLink RS 247 yS_countRetiredBy ∈ WSg := WSg_in (List.mem_of_getElem? (i := 417) (by decide +kernel)) rfl
theorem cmS_253 : Cond.methodLink RS 253 yS_isRetiredBy ∈ WSg := WSg_in (List.mem_of_getElem? (i := 421) (by decide +kernel)) rfl
theorem cmS_119 : Cond.methodLink RS 119 yS_freeUnnamed ∈ WSg := WSg_in (List.mem_of_getElem? (i := 425) (by decide +kernel)) rfl
theorem cmS_257 : Cond.methodLink RS 257 yS_isNamed ∈ WSg := WSg_in (List.mem_of_getElem? (i := 429) (by decide +kernel)) rfl
theorem cmS_164 : Cond.methodLink RS 164 yS_doOperation ∈ WSg := WSg_in (List.mem_of_getElem? (i := 433) (by decide +kernel)) rfl
theorem cmS_203 : Cond.methodLink RS 203 yS_prepareInsert ∈ WSg := WSg_in (List.mem_of_getElem? (i := 437) (by decide +kernel)) rfl
theorem cmS_212 : Cond.methodLink RS 212 yS_giveNewBlockBack ∈ WSg := WSg_in (List.mem_of_getElem? (i := 441) (by decide +kernel)) rfl
theorem cmS_209 : Cond.methodLink RS 209 yS_conclude ∈ WSg := WSg_in (List.mem_of_getElem? (i := 445) (by decide +kernel)) rfl
theorem cmS_215 : Cond.methodLink RS 215 yS_takeFreeBlock ∈ WSg := WSg_in (List.mem_of_getElem? (i := 449) (by decide +kernel)) rfl
theorem cmS_206 : Cond.methodLink RS 206 yS_markForRemoval ∈ WSg := WSg_in (List.mem_of_getElem? (i := 453) (by decide +kernel)) rfl
theorem cmS_167 : Cond.methodLink RS 167 yS_hangNewBlock ∈ WSg := WSg_in (List.mem_of_getElem? (i := 457) (by decide +kernel)) rfl
theorem cmS_170 : Cond.methodLink RS 170 yS_endWork ∈ WSg := WSg_in (List.mem_of_getElem? (i := 461) (by decide +kernel)) rfl
theorem cmS_173 : Cond.methodLink RS 173 yS_unhangHere ∈ WSg := WSg_in (List.mem_of_getElem? (i := 465) (by decide +kernel)) rfl
theorem cmL_23 : Cond.methodLink RL 23 yS_finish ∈ WSg := WSg_in (List.mem_of_getElem? (i := 472) (by decide +kernel)) rfl
theorem cmL_26 : Cond.methodLink RL 26 yS_result ∈ WSg := WSg_in (List.mem_of_getElem? (i := 480) (by decide +kernel)) rfl
theorem cmL_31 : Cond.methodLink RL 31 yS_at ∈ WSg := WSg_in (List.mem_of_getElem? (i := 503) (by decide +kernel)) rfl
theorem cmL_34 : Cond.methodLink RL 34 yS_known ∈ WSg := WSg_in (List.mem_of_getElem? (i := 510) (by decide +kernel)) rfl
theorem cmL_38 : Cond.methodLink RL 38 yS_says ∈ WSg := WSg_in (List.mem_of_getElem? (i := 518) (by decide +kernel)) rfl
theorem cmL_41 : Cond.methodLink RL 41 yS_advance ∈ WSg := WSg_in (List.mem_of_getElem? (i := 527) (by decide +kernel)) rfl
theorem cmS_107 : Cond.methodLink RS 107 yS_allAnnounceCurrentEpoch ∈ WSg := WSg_in (List.mem_of_getElem? (i := 547) (by decide +kernel)) rfl
theorem cmS_114 : Cond.methodLink RS 114 yS_freeOldEpochs ∈ WSg := WSg_in (List.mem_of_getElem? (i := 551) (by decide +kernel)) rfl
theorem cmL_47 : Cond.methodLink RL 47 yS_scan ∈ WSg := WSg_in (List.mem_of_getElem? (i := 558) (by decide +kernel)) rfl
theorem cmL_50 : Cond.methodLink RL 50 yS_block ∈ WSg := WSg_in (List.mem_of_getElem? (i := 566) (by decide +kernel)) rfl

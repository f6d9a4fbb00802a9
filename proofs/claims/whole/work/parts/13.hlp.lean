theorem clL_8 : Cond.classLink RL 8 "SteppedList" ∈ WSg := WSg_in (List.mem_of_getElem? (i := 71) (by decide +kernel)) rfl
theorem cwL_65 : CKw RL 65 yL_begin cL_begin 5 [(0, 7, 10, 13), (0, 7, 14, 15), (0, 7, 18, 17)] 4 := ⟨WSg_in (List.mem_of_getElem? (i := 218) (by decide +kernel)) rfl, WSg_in (List.mem_of_getElem? (i := 58) (by decide +kernel)) rfl, WSg_in (List.mem_of_getElem? (i := 217) (by decide +kernel)) rfl, WSg_in (List.mem_of_getElem? (i := 216) (by decide +kernel)) rfl, ⟨by decide, by decide⟩, by decide +kernel⟩
theorem clL_13 : Cond.classLink RL 13 "java/lang/IndexOutOfBoundsException" ∈ WSg := WSg_in (List.mem_of_getElem? (i := 219) (by decide +kernel)) rfl
theorem clL_15 : Cond.classLink RL 15 "java/lang/IllegalArgumentException" ∈ WSg := WSg_in (List.mem_of_getElem? (i := 220) (by decide +kernel)) rfl
theorem clL_17 : Cond.classLink RL 17 "java/lang/IllegalStateException" ∈ WSg := WSg_in (List.mem_of_getElem? (i := 221) (by decide +kernel)) rfl
theorem ca_IOOB : Cond.castable "java/lang/IndexOutOfBoundsException" "java/lang/IndexOutOfBoundsException" ∈ NWl := NWl_in (List.mem_of_getElem? (i := 232) (by decide +kernel)) rfl
theorem ca_IAE : Cond.castable "java/lang/IllegalArgumentException" "java/lang/IllegalArgumentException" ∈ NWl := NWl_in (List.mem_of_getElem? (i := 302) (by decide +kernel)) rfl
theorem ca_ISE : Cond.castable "java/lang/IllegalStateException" "java/lang/IllegalStateException" ∈ NWl := NWl_in (List.mem_of_getElem? (i := 319) (by decide +kernel)) rfl
theorem cwL_73 : CKw RL 73 yL_step cL_step 4 [(0, 9, 12, 13), (0, 9, 15, 17)] 3 := ⟨WSg_in (List.mem_of_getElem? (i := 339) (by decide +kernel)) rfl, WSg_in (List.mem_of_getElem? (i := 58) (by decide +kernel)) rfl, WSg_in (List.mem_of_getElem? (i := 338) (by decide +kernel)) rfl, WSg_in (List.mem_of_getElem? (i := 337) (by decide +kernel)) rfl, ⟨by decide, by decide⟩, by decide +kernel⟩
theorem cwL_77 : CKw RL 77 yL_finish cL_finish 4 [(0, 9, 12, 13), (0, 9, 15, 17)] 3 := ⟨WSg_in (List.mem_of_getElem? (i := 471) (by decide +kernel)) rfl, WSg_in (List.mem_of_getElem? (i := 58) (by decide +kernel)) rfl, WSg_in (List.mem_of_getElem? (i := 470) (by decide +kernel)) rfl, WSg_in (List.mem_of_getElem? (i := 469) (by decide +kernel)) rfl, ⟨by decide, by decide⟩, by decide +kernel⟩
theorem cwL_80 : CKw RL 80 yL_result cL_result 4 [(0, 9, 12, 13), (0, 9, 15, 29)] 3 := ⟨WSg_in (List.mem_of_getElem? (i := 478) (by decide +kernel)) rfl, WSg_in (List.mem_of_getElem? (i := 58) (by decide +kernel)) rfl, WSg_in (List.mem_of_getElem? (i := 477) (by decide +kernel)) rfl, WSg_in (List.mem_of_getElem? (i := 476) (by decide +kernel)) rfl, ⟨by decide, by decide⟩, by decide +kernel⟩
theorem clL_29 : Cond.classLink RL 29 "java/util/NoSuchElementException" ∈ WSg := WSg_in (List.mem_of_getElem? (i := 479) (by decide +kernel)) rfl
theorem ca_NSE : Cond.castable "java/util/NoSuchElementException" "java/util/NoSuchElementException" ∈ NWl := NWl_in (List.mem_of_getElem? (i := 486) (by decide +kernel)) rfl
theorem cwL_83 : CKw RL 83 yL_at cL_at 4 [(0, 9, 12, 13)] 3 := ⟨WSg_in (List.mem_of_getElem? (i := 502) (by decide +kernel)) rfl, WSg_in (List.mem_of_getElem? (i := 58) (by decide +kernel)) rfl, WSg_in (List.mem_of_getElem? (i := 501) (by decide +kernel)) rfl, WSg_in (List.mem_of_getElem? (i := 500) (by decide +kernel)) rfl, ⟨by decide, by decide⟩, by decide +kernel⟩
theorem cwL_86 : CKw RL 86 yL_known cL_known 5 [(0, 10, 13, 13)] 4 := ⟨WSg_in (List.mem_of_getElem? (i := 509) (by decide +kernel)) rfl, WSg_in (List.mem_of_getElem? (i := 58) (by decide +kernel)) rfl, WSg_in (List.mem_of_getElem? (i := 508) (by decide +kernel)) rfl, WSg_in (List.mem_of_getElem? (i := 507) (by decide +kernel)) rfl, ⟨by decide, by decide⟩, by decide +kernel⟩
theorem cwL_90 : CKw RL 90 yL_says cL_says 5 [(0, 10, 13, 13)] 4 := ⟨WSg_in (List.mem_of_getElem? (i := 517) (by decide +kernel)) rfl, WSg_in (List.mem_of_getElem? (i := 58) (by decide +kernel)) rfl, WSg_in (List.mem_of_getElem? (i := 516) (by decide +kernel)) rfl, WSg_in (List.mem_of_getElem? (i := 515) (by decide +kernel)) rfl, ⟨by decide, by decide⟩, by decide +kernel⟩
theorem cwL_93 : CKw RL 93 yL_advance cL_advance 3 [(0, 15, 18, 45)] 2 := ⟨WSg_in (List.mem_of_getElem? (i := 525) (by decide +kernel)) rfl, WSg_in (List.mem_of_getElem? (i := 58) (by decide +kernel)) rfl, WSg_in (List.mem_of_getElem? (i := 524) (by decide +kernel)) rfl, WSg_in (List.mem_of_getElem? (i := 523) (by decide +kernel)) rfl, ⟨by decide, by decide⟩, by decide +kernel⟩
theorem clL_45 : Cond.classLink RL 45 "java/lang/UnsupportedOperationException" ∈ WSg := WSg_in (List.mem_of_getElem? (i := 526) (by decide +kernel)) rfl
theorem ca_UOE : Cond.castable "java/lang/UnsupportedOperationException" "java/lang/UnsupportedOperationException" ∈ NWl := NWl_in (List.mem_of_getElem? (i := 533) (by decide +kernel)) rfl
theorem cwL_97 : CKw RL 97 yL_scan cL_scan 4 [(0, 9, 12, 13), (0, 9, 15, 45)] 3 := ⟨WSg_in (List.mem_of_getElem? (i := 557) (by decide +kernel)) rfl, WSg_in (List.mem_of_getElem? (i := 58) (by decide +kernel)) rfl, WSg_in (List.mem_of_getElem? (i := 556) (by decide +kernel)) rfl, WSg_in (List.mem_of_getElem? (i := 555) (by decide +kernel)) rfl, ⟨by decide, by decide⟩, by decide +kernel⟩
theorem cwL_100 : CKw RL 100 yL_block cL_block 5 [(0, 10, 13, 13)] 4 := ⟨WSg_in (List.mem_of_getElem? (i := 565) (by decide +kernel)) rfl, WSg_in (List.mem_of_getElem? (i := 58) (by decide +kernel)) rfl, WSg_in (List.mem_of_getElem? (i := 564) (by decide +kernel)) rfl, WSg_in (List.mem_of_getElem? (i := 563) (by decide +kernel)) rfl, ⟨by decide, by decide⟩, by decide +kernel⟩
theorem clL_62 : Cond.classLink RL 62 "SteppedListModel" ∈ WSg := WSg_in (List.mem_of_getElem? (i := 576) (by decide +kernel)) rfl
set_option maxRecDepth 100000 in
set_option maxHeartbeats 4000000 in
theorem h_begin_g (l : Launch) (D : va_G) (K : Nat → ClassId) (base : Nat) (X : Nat → Nat) (t : Nat) (ht : t < 4) (o1 : Int32) (y : Int32) (c : CS) (hI : Inv c) (ho : ¬ o1 < 0) (ho2 : o1 ≤ 2) (hy : ¬ y < 0) (hy2 : y < 32) (hb : c 7 t = 0) : CtIW l D K base yL_begin cL_begin 5 [(0, 7, 10, 13), (0, 7, 14, 15), (0, 7, 18, 17)] (rmD 2) [.ref (X 0), .int (nI t), .int o1, .int y] (cW X K c) 0 (cW X K (f_begin t o1 y c)) := by
  refine CtIW.enter (by decide) (Nat.le_of_ble_eq_true rfl) ?_
  intro κ A Q F htab hE
  show G κ l (rmD 2) A Q D 5 0 0 (cW X K c) 0 [(0, .ref (X 0)), (1, .int (nI t)), (2, .int o1), (3, .int y)] []
  refine G.aload_n 0 F dL_begin_0 rfl rfl ?_
  refine G.iload_n 1 F dL_begin_1 rfl rfl ?_
  refine G.iload_n 2 F dL_begin_2 rfl rfl ?_
  refine G.iload_n 3 F dL_begin_3 rfl rfl ?_
  refine G.callv F (k_begin l D K base X t ht o1 y c hI ho ho2 hy hy2 hb) ckL_7 cW_x rfl rfl ⟨rfl, rfl⟩ ⟨by decide, by decide⟩ ⟨Nat.zero_le _, Nat.zero_le _⟩ rfl rfl (Nat.le_of_ble_eq_true rfl) dL_begin_4 ?_
  refine G.goto 22 F dL_begin_7 rfl ?_
  refine G.iconst 0 F dL_begin_22 (by decide) ?_
  exact hE _ _ 0 dL_begin_23 rfl

set_option maxRecDepth 100000 in
set_option maxHeartbeats 4000000 in
theorem h_begin_x (l : Launch) (hl : l.stackTraces = false) (D : va_G) (K : Nat → ClassId) (base : Nat) (X : Nat → Nat) (p : Int32) (o1 : Int32) (y : Int32) (c : CS) (hI : Inv c) (hv : p < 0 ∨ ¬ p < 4) : CtIW l D K base yL_begin cL_begin 5 [(0, 7, 10, 13), (0, 7, 14, 15), (0, 7, 18, 17)] (rmX 2) [.ref (X 0), .int p, .int o1, .int y] (cW X K c) 1 (cW X K c) := by
  refine CtIW.enter (by decide) (Nat.le_of_ble_eq_true rfl) ?_
  intro κ A Q F htab hE
  show G κ l (rmX 2) A Q D 5 0 0 (cW X K c) 0 [(0, .ref (X 0)), (1, .int p), (2, .int o1), (3, .int y)] []
  refine G.aload_n 0 F dL_begin_0 rfl rfl ?_
  refine G.iload_n 1 F dL_begin_1 rfl rfl ?_
  refine G.iload_n 2 F dL_begin_2 rfl rfl ?_
  refine G.iload_n 3 F dL_begin_3 rfl rfl ?_
  refine G.callXc [] [] [] ⟨0, 7, 10, 13⟩ [⟨0, 7, 14, 15⟩, ⟨0, 7, 18, 17⟩] F (kx_begin_x l hl D K base X p o1 y c hI hv) (by simp) ckL_7 cmL_7 (htab.trans rfl) (fun z hz => nomatch hz) rfl (by decide) clL_13 ca_IOOB cW_x rfl rfl ⟨rfl, rfl⟩ ⟨by decide, by decide⟩ ⟨by decide, by decide⟩ rfl rfl (Nat.le_of_ble_eq_true rfl) dL_begin_4 (fun q => ?_)
  refine G.astoreN F dL_begin_10 (by decide) rfl ?_
  refine G.iconst 1 F dL_begin_12 (by decide) ?_
  exact hE _ _ 1 dL_begin_13 rfl

set_option maxRecDepth 100000 in
set_option maxHeartbeats 4000000 in
theorem h_begin_ol (l : Launch) (hl : l.stackTraces = false) (D : va_G) (K : Nat → ClassId) (base : Nat) (X : Nat → Nat) (t : Nat) (ht : t < 4) (o1 : Int32) (y : Int32) (c : CS) (hI : Inv c) (ho : o1 < 0) : CtIW l D K base yL_begin cL_begin 5 [(0, 7, 10, 13), (0, 7, 14, 15), (0, 7, 18, 17)] (rmX 2) [.ref (X 0), .int (nI t), .int o1, .int y] (cW X K c) 2 (cW X K c) := by
  refine CtIW.enter (by decide) (Nat.le_of_ble_eq_true rfl) ?_
  intro κ A Q F htab hE
  show G κ l (rmX 2) A Q D 5 0 0 (cW X K c) 0 [(0, .ref (X 0)), (1, .int (nI t)), (2, .int o1), (3, .int y)] []
  refine G.aload_n 0 F dL_begin_0 rfl rfl ?_
  refine G.iload_n 1 F dL_begin_1 rfl rfl ?_
  refine G.iload_n 2 F dL_begin_2 rfl rfl ?_
  refine G.iload_n 3 F dL_begin_3 rfl rfl ?_
  refine G.callXc [] [] [⟨0, 7, 10, 13⟩] ⟨0, 7, 14, 15⟩ [⟨0, 7, 18, 17⟩] F (kx_begin_ol l hl D K base X t ht o1 y c hI ho) (by simp) ckL_7 cmL_7 (htab.trans rfl) (List.forall_mem_cons.mpr ⟨⟨by decide, "java/lang/IndexOutOfBoundsException", clL_13, by decide +kernel⟩, fun z h => nomatch h⟩) rfl (by decide) clL_15 ca_IAE cW_x rfl rfl ⟨rfl, rfl⟩ ⟨by decide, by decide⟩ ⟨by decide, by decide⟩ rfl rfl (Nat.le_of_ble_eq_true rfl) dL_begin_4 (fun q => ?_)
  refine G.astoreN F dL_begin_14 (by decide) rfl ?_
  refine G.iconst 2 F dL_begin_16 (by decide) ?_
  exact hE _ _ 2 dL_begin_17 rfl

set_option maxRecDepth 100000 in
set_option maxHeartbeats 4000000 in
theorem h_begin_oh (l : Launch) (hl : l.stackTraces = false) (D : va_G) (K : Nat → ClassId) (base : Nat) (X : Nat → Nat) (t : Nat) (ht : t < 4) (o1 : Int32) (y : Int32) (c : CS) (hI : Inv c) (ho : ¬ o1 < 0) (ho2 : ¬ o1 ≤ 2) : CtIW l D K base yL_begin cL_begin 5 [(0, 7, 10, 13), (0, 7, 14, 15), (0, 7, 18, 17)] (rmX 2) [.ref (X 0), .int (nI t), .int o1, .int y] (cW X K c) 2 (cW X K c) := by
  refine CtIW.enter (by decide) (Nat.le_of_ble_eq_true rfl) ?_
  intro κ A Q F htab hE
  show G κ l (rmX 2) A Q D 5 0 0 (cW X K c) 0 [(0, .ref (X 0)), (1, .int (nI t)), (2, .int o1), (3, .int y)] []
  refine G.aload_n 0 F dL_begin_0 rfl rfl ?_
  refine G.iload_n 1 F dL_begin_1 rfl rfl ?_
  refine G.iload_n 2 F dL_begin_2 rfl rfl ?_
  refine G.iload_n 3 F dL_begin_3 rfl rfl ?_
  refine G.callXc [] [] [⟨0, 7, 10, 13⟩] ⟨0, 7, 14, 15⟩ [⟨0, 7, 18, 17⟩] F (kx_begin_oh l hl D K base X t ht o1 y c hI ho ho2) (by simp) ckL_7 cmL_7 (htab.trans rfl) (List.forall_mem_cons.mpr ⟨⟨by decide, "java/lang/IndexOutOfBoundsException", clL_13, by decide +kernel⟩, fun z h => nomatch h⟩) rfl (by decide) clL_15 ca_IAE cW_x rfl rfl ⟨rfl, rfl⟩ ⟨by decide, by decide⟩ ⟨by decide, by decide⟩ rfl rfl (Nat.le_of_ble_eq_true rfl) dL_begin_4 (fun q => ?_)
  refine G.astoreN F dL_begin_14 (by decide) rfl ?_
  refine G.iconst 2 F dL_begin_16 (by decide) ?_
  exact hE _ _ 2 dL_begin_17 rfl

set_option maxRecDepth 100000 in
set_option maxHeartbeats 4000000 in
theorem h_begin_yl (l : Launch) (hl : l.stackTraces = false) (D : va_G) (K : Nat → ClassId) (base : Nat) (X : Nat → Nat) (t : Nat) (ht : t < 4) (o1 : Int32) (y : Int32) (c : CS) (hI : Inv c) (ho : ¬ o1 < 0) (ho2 : o1 ≤ 2) (hy : y < 0) : CtIW l D K base yL_begin cL_begin 5 [(0, 7, 10, 13), (0, 7, 14, 15), (0, 7, 18, 17)] (rmX 2) [.ref (X 0), .int (nI t), .int o1, .int y] (cW X K c) 2 (cW X K c) := by
  refine CtIW.enter (by decide) (Nat.le_of_ble_eq_true rfl) ?_
  intro κ A Q F htab hE
  show G κ l (rmX 2) A Q D 5 0 0 (cW X K c) 0 [(0, .ref (X 0)), (1, .int (nI t)), (2, .int o1), (3, .int y)] []
  refine G.aload_n 0 F dL_begin_0 rfl rfl ?_
  refine G.iload_n 1 F dL_begin_1 rfl rfl ?_
  refine G.iload_n 2 F dL_begin_2 rfl rfl ?_
  refine G.iload_n 3 F dL_begin_3 rfl rfl ?_
  refine G.callXc [] [] [⟨0, 7, 10, 13⟩] ⟨0, 7, 14, 15⟩ [⟨0, 7, 18, 17⟩] F (kx_begin_yl l hl D K base X t ht o1 y c hI ho ho2 hy) (by simp) ckL_7 cmL_7 (htab.trans rfl) (List.forall_mem_cons.mpr ⟨⟨by decide, "java/lang/IndexOutOfBoundsException", clL_13, by decide +kernel⟩, fun z h => nomatch h⟩) rfl (by decide) clL_15 ca_IAE cW_x rfl rfl ⟨rfl, rfl⟩ ⟨by decide, by decide⟩ ⟨by decide, by decide⟩ rfl rfl (Nat.le_of_ble_eq_true rfl) dL_begin_4 (fun q => ?_)
  refine G.astoreN F dL_begin_14 (by decide) rfl ?_
  refine G.iconst 2 F dL_begin_16 (by decide) ?_
  exact hE _ _ 2 dL_begin_17 rfl

set_option maxRecDepth 100000 in
set_option maxHeartbeats 4000000 in
theorem h_begin_yh (l : Launch) (hl : l.stackTraces = false) (D : va_G) (K : Nat → ClassId) (base : Nat) (X : Nat → Nat) (t : Nat) (ht : t < 4) (o1 : Int32) (y : Int32) (c : CS) (hI : Inv c) (ho : ¬ o1 < 0) (ho2 : o1 ≤ 2) (hy : ¬ y < 0) (hy2 : ¬ y < 32) : CtIW l D K base yL_begin cL_begin 5 [(0, 7, 10, 13), (0, 7, 14, 15), (0, 7, 18, 17)] (rmX 2) [.ref (X 0), .int (nI t), .int o1, .int y] (cW X K c) 2 (cW X K c) := by
  refine CtIW.enter (by decide) (Nat.le_of_ble_eq_true rfl) ?_
  intro κ A Q F htab hE
  show G κ l (rmX 2) A Q D 5 0 0 (cW X K c) 0 [(0, .ref (X 0)), (1, .int (nI t)), (2, .int o1), (3, .int y)] []
  refine G.aload_n 0 F dL_begin_0 rfl rfl ?_
  refine G.iload_n 1 F dL_begin_1 rfl rfl ?_
  refine G.iload_n 2 F dL_begin_2 rfl rfl ?_
  refine G.iload_n 3 F dL_begin_3 rfl rfl ?_
  refine G.callXc [] [] [⟨0, 7, 10, 13⟩] ⟨0, 7, 14, 15⟩ [⟨0, 7, 18, 17⟩] F (kx_begin_yh l hl D K base X t ht o1 y c hI ho ho2 hy hy2) (by simp) ckL_7 cmL_7 (htab.trans rfl) (List.forall_mem_cons.mpr ⟨⟨by decide, "java/lang/IndexOutOfBoundsException", clL_13, by decide +kernel⟩, fun z h => nomatch h⟩) rfl (by decide) clL_15 ca_IAE cW_x rfl rfl ⟨rfl, rfl⟩ ⟨by decide, by decide⟩ ⟨by decide, by decide⟩ rfl rfl (Nat.le_of_ble_eq_true rfl) dL_begin_4 (fun q => ?_)
  refine G.astoreN F dL_begin_14 (by decide) rfl ?_
  refine G.iconst 2 F dL_begin_16 (by decide) ?_
  exact hE _ _ 2 dL_begin_17 rfl

set_option maxRecDepth 100000 in
set_option maxHeartbeats 4000000 in
theorem h_begin_i (l : Launch) (hl : l.stackTraces = false) (D : va_G) (K : Nat → ClassId) (base : Nat) (X : Nat → Nat) (t : Nat) (ht : t < 4) (o1 : Int32) (y : Int32) (c : CS) (hI : Inv c) (ho : ¬ o1 < 0) (ho2 : o1 ≤ 2) (hy : ¬ y < 0) (hy2 : y < 32) (hb : ¬ c 7 t = 0) : CtIW l D K base yL_begin cL_begin 5 [(0, 7, 10, 13), (0, 7, 14, 15), (0, 7, 18, 17)] (rmX 2) [.ref (X 0), .int (nI t), .int o1, .int y] (cW X K c) 3 (cW X K c) := by
  refine CtIW.enter (by decide) (Nat.le_of_ble_eq_true rfl) ?_
  intro κ A Q F htab hE
  show G κ l (rmX 2) A Q D 5 0 0 (cW X K c) 0 [(0, .ref (X 0)), (1, .int (nI t)), (2, .int o1), (3, .int y)] []
  refine G.aload_n 0 F dL_begin_0 rfl rfl ?_
  refine G.iload_n 1 F dL_begin_1 rfl rfl ?_
  refine G.iload_n 2 F dL_begin_2 rfl rfl ?_
  refine G.iload_n 3 F dL_begin_3 rfl rfl ?_
  refine G.callXc [] [] [⟨0, 7, 10, 13⟩, ⟨0, 7, 14, 15⟩] ⟨0, 7, 18, 17⟩ [] F (kx_begin_i l hl D K base X t ht o1 y c hI ho ho2 hy hy2 hb) (by simp) ckL_7 cmL_7 (htab.trans rfl) (List.forall_mem_cons.mpr ⟨⟨by decide, "java/lang/IndexOutOfBoundsException", clL_13, by decide +kernel⟩, List.forall_mem_cons.mpr ⟨⟨by decide, "java/lang/IllegalArgumentException", clL_15, by decide +kernel⟩, fun z h => nomatch h⟩⟩) rfl (by decide) clL_17 ca_ISE cW_x rfl rfl ⟨rfl, rfl⟩ ⟨by decide, by decide⟩ ⟨by decide, by decide⟩ rfl rfl (Nat.le_of_ble_eq_true rfl) dL_begin_4 (fun q => ?_)
  refine G.astoreN F dL_begin_18 (by decide) rfl ?_
  refine G.iconst 3 F dL_begin_20 (by decide) ?_
  exact hE _ _ 3 dL_begin_21 rfl

set_option maxRecDepth 100000 in
set_option maxHeartbeats 4000000 in
theorem h_step_g (l : Launch) (D : va_G) (K : Nat → ClassId) (base : Nat) (X : Nat → Nat) (o : Nat) (t : Nat) (ht : t < 4) (c : CS) (hI : Inv c) (hb : ¬ c 7 t = 0) (v : Nat → Int64) : CtIW l D K base yL_step cL_step 4 [(0, 9, 12, 13), (0, 9, 15, 17)] (rmD 7) [.ref (X 0), .int (nI t), .ref o] (cW X K c ++ oW o K v) 0 (cW X K (f_step t c).2 ++ oW o K (vp_updL v 0 ((f_step t c).1).toInt64)) := by
  refine CtIW.enter (by decide) (Nat.le_of_ble_eq_true rfl) ?_
  intro κ A Q F htab hE
  show G κ l (rmD 7) A Q D 4 0 0 (cW X K c ++ oW o K v) 0 [(0, .ref (X 0)), (1, .int (nI t)), (2, .ref o)] []
  refine G.aload_n 2 F dL_step_0 rfl rfl ?_
  refine G.iconst 0 F dL_step_1 (by decide) ?_
  refine G.aload_n 0 F dL_step_2 rfl rfl ?_
  refine G.iload_n 1 F dL_step_3 rfl rfl ?_
  refine G.callFi [] (oW o K v) F (k_step l D K base X t ht c hI hb) rfl rfl ckL_19 cW_x rfl rfl ⟨rfl, rfl⟩ ⟨by decide, by decide⟩ ⟨Nat.zero_le _, Nat.zero_le _⟩ rfl rfl (Nat.le_of_ble_eq_true rfl) dL_step_4 ?_
  refine G.i2l F dL_step_7 ?_
  refine G.stO (cW X K _) 28 F rfl rfl (gW_len ..) rfl dL_step_8 ?_
  refine G.goto 18 F dL_step_9 rfl ?_
  refine G.iconst 0 F dL_step_18 (by decide) ?_
  exact hE _ _ 0 dL_step_19 rfl

set_option maxRecDepth 100000 in
set_option maxHeartbeats 4000000 in
theorem h_step_x (l : Launch) (hl : l.stackTraces = false) (D : va_G) (K : Nat → ClassId) (base : Nat) (X : Nat → Nat) (o : Nat) (p : Int32) (c : CS) (hI : Inv c) (hv : p < 0 ∨ ¬ p < 4) (v : Nat → Int64) : CtIW l D K base yL_step cL_step 4 [(0, 9, 12, 13), (0, 9, 15, 17)] (rmX 3) [.ref (X 0), .int p, .ref o] (cW X K c ++ oW o K v) 1 (cW X K c ++ oW o K v) := by
  refine CtIW.enter (by decide) (Nat.le_of_ble_eq_true rfl) ?_
  intro κ A Q F htab hE
  show G κ l (rmX 3) A Q D 4 0 0 (cW X K c ++ oW o K v) 0 [(0, .ref (X 0)), (1, .int p), (2, .ref o)] []
  refine G.aload_n 2 F dL_step_0 rfl rfl ?_
  refine G.iconst 0 F dL_step_1 (by decide) ?_
  refine G.aload_n 0 F dL_step_2 rfl rfl ?_
  refine G.iload_n 1 F dL_step_3 rfl rfl ?_
  refine G.callXc [] (oW o K v) [] ⟨0, 9, 12, 13⟩ [⟨0, 9, 15, 17⟩] F (kx_step_x l hl D K base X p c hI hv) rfl ckL_19 cmL_19 (htab.trans rfl) (fun z hz => nomatch hz) rfl (by decide) clL_13 ca_IOOB cW_x rfl rfl ⟨rfl, rfl⟩ ⟨by decide, by decide⟩ ⟨by decide, by decide⟩ rfl rfl (Nat.le_of_ble_eq_true rfl) dL_step_4 (fun q => ?_)
  refine G.astore_nN F dL_step_12 rfl (by decide) rfl ?_
  refine G.iconst 1 F dL_step_13 (by decide) ?_
  exact hE _ _ 1 dL_step_14 rfl

set_option maxRecDepth 100000 in
set_option maxHeartbeats 4000000 in
theorem h_step_i (l : Launch) (hl : l.stackTraces = false) (D : va_G) (K : Nat → ClassId) (base : Nat) (X : Nat → Nat) (o : Nat) (t : Nat) (ht : t < 4) (c : CS) (hI : Inv c) (hb : c 7 t = 0) (v : Nat → Int64) : CtIW l D K base yL_step cL_step 4 [(0, 9, 12, 13), (0, 9, 15, 17)] (rmX 3) [.ref (X 0), .int (nI t), .ref o] (cW X K c ++ oW o K v) 2 (cW X K c ++ oW o K v) := by
  refine CtIW.enter (by decide) (Nat.le_of_ble_eq_true rfl) ?_
  intro κ A Q F htab hE
  show G κ l (rmX 3) A Q D 4 0 0 (cW X K c ++ oW o K v) 0 [(0, .ref (X 0)), (1, .int (nI t)), (2, .ref o)] []
  refine G.aload_n 2 F dL_step_0 rfl rfl ?_
  refine G.iconst 0 F dL_step_1 (by decide) ?_
  refine G.aload_n 0 F dL_step_2 rfl rfl ?_
  refine G.iload_n 1 F dL_step_3 rfl rfl ?_
  refine G.callXc [] (oW o K v) [⟨0, 9, 12, 13⟩] ⟨0, 9, 15, 17⟩ [] F (kx_step_i l hl D K base X t ht c hI hb) rfl ckL_19 cmL_19 (htab.trans rfl) (List.forall_mem_cons.mpr ⟨⟨by decide, "java/lang/IndexOutOfBoundsException", clL_13, by decide +kernel⟩, fun z h => nomatch h⟩) rfl (by decide) clL_17 ca_ISE cW_x rfl rfl ⟨rfl, rfl⟩ ⟨by decide, by decide⟩ ⟨by decide, by decide⟩ rfl rfl (Nat.le_of_ble_eq_true rfl) dL_step_4 (fun q => ?_)
  refine G.astore_nN F dL_step_15 rfl (by decide) rfl ?_
  refine G.iconst 2 F dL_step_16 (by decide) ?_
  exact hE _ _ 2 dL_step_17 rfl

set_option maxRecDepth 100000 in
set_option maxHeartbeats 4000000 in
theorem h_finish_g (l : Launch) (D : va_G) (K : Nat → ClassId) (base : Nat) (X : Nat → Nat) (o : Nat) (t : Nat) (ht : t < 4) (c : CS) (hI : Inv c) (hb : ¬ c 7 t = 0) (v : Nat → Int64) : CtIW l D K base yL_finish cL_finish 4 [(0, 9, 12, 13), (0, 9, 15, 17)] (rmD 7) [.ref (X 0), .int (nI t), .ref o] (cW X K c ++ oW o K v) 0 (cW X K (f_finish t c).2 ++ oW o K (vp_updL v 0 ((f_finish t c).1).toInt64)) := by
  refine CtIW.enter (by decide) (Nat.le_of_ble_eq_true rfl) ?_
  intro κ A Q F htab hE
  show G κ l (rmD 7) A Q D 4 0 0 (cW X K c ++ oW o K v) 0 [(0, .ref (X 0)), (1, .int (nI t)), (2, .ref o)] []
  refine G.aload_n 2 F dL_finish_0 rfl rfl ?_
  refine G.iconst 0 F dL_finish_1 (by decide) ?_
  refine G.aload_n 0 F dL_finish_2 rfl rfl ?_
  refine G.iload_n 1 F dL_finish_3 rfl rfl ?_
  refine G.callFi [] (oW o K v) F (k_finish l D K base X t ht c hI hb) rfl rfl ckL_23 cW_x rfl rfl ⟨rfl, rfl⟩ ⟨by decide, by decide⟩ ⟨Nat.zero_le _, Nat.zero_le _⟩ rfl rfl (Nat.le_of_ble_eq_true rfl) dL_finish_4 ?_
  refine G.i2l F dL_finish_7 ?_
  refine G.stO (cW X K _) 28 F rfl rfl (gW_len ..) rfl dL_finish_8 ?_
  refine G.goto 18 F dL_finish_9 rfl ?_
  refine G.iconst 0 F dL_finish_18 (by decide) ?_
  exact hE _ _ 0 dL_finish_19 rfl

set_option maxRecDepth 100000 in
set_option maxHeartbeats 4000000 in
theorem h_finish_x (l : Launch) (hl : l.stackTraces = false) (D : va_G) (K : Nat → ClassId) (base : Nat) (X : Nat → Nat) (o : Nat) (p : Int32) (c : CS) (hI : Inv c) (hv : p < 0 ∨ ¬ p < 4) (v : Nat → Int64) : CtIW l D K base yL_finish cL_finish 4 [(0, 9, 12, 13), (0, 9, 15, 17)] (rmX 3) [.ref (X 0), .int p, .ref o] (cW X K c ++ oW o K v) 1 (cW X K c ++ oW o K v) := by
  refine CtIW.enter (by decide) (Nat.le_of_ble_eq_true rfl) ?_
  intro κ A Q F htab hE
  show G κ l (rmX 3) A Q D 4 0 0 (cW X K c ++ oW o K v) 0 [(0, .ref (X 0)), (1, .int p), (2, .ref o)] []
  refine G.aload_n 2 F dL_finish_0 rfl rfl ?_
  refine G.iconst 0 F dL_finish_1 (by decide) ?_
  refine G.aload_n 0 F dL_finish_2 rfl rfl ?_
  refine G.iload_n 1 F dL_finish_3 rfl rfl ?_
  refine G.callXc [] (oW o K v) [] ⟨0, 9, 12, 13⟩ [⟨0, 9, 15, 17⟩] F (kx_finish_x l hl D K base X p c hI hv) rfl ckL_23 cmL_23 (htab.trans rfl) (fun z hz => nomatch hz) rfl (by decide) clL_13 ca_IOOB cW_x rfl rfl ⟨rfl, rfl⟩ ⟨by decide, by decide⟩ ⟨by decide, by decide⟩ rfl rfl (Nat.le_of_ble_eq_true rfl) dL_finish_4 (fun q => ?_)
  refine G.astore_nN F dL_finish_12 rfl (by decide) rfl ?_
  refine G.iconst 1 F dL_finish_13 (by decide) ?_
  exact hE _ _ 1 dL_finish_14 rfl

set_option maxRecDepth 100000 in
set_option maxHeartbeats 4000000 in
theorem h_finish_i (l : Launch) (hl : l.stackTraces = false) (D : va_G) (K : Nat → ClassId) (base : Nat) (X : Nat → Nat) (o : Nat) (t : Nat) (ht : t < 4) (c : CS) (hI : Inv c) (hb : c 7 t = 0) (v : Nat → Int64) : CtIW l D K base yL_finish cL_finish 4 [(0, 9, 12, 13), (0, 9, 15, 17)] (rmX 3) [.ref (X 0), .int (nI t), .ref o] (cW X K c ++ oW o K v) 2 (cW X K c ++ oW o K v) := by
  refine CtIW.enter (by decide) (Nat.le_of_ble_eq_true rfl) ?_
  intro κ A Q F htab hE
  show G κ l (rmX 3) A Q D 4 0 0 (cW X K c ++ oW o K v) 0 [(0, .ref (X 0)), (1, .int (nI t)), (2, .ref o)] []
  refine G.aload_n 2 F dL_finish_0 rfl rfl ?_
  refine G.iconst 0 F dL_finish_1 (by decide) ?_
  refine G.aload_n 0 F dL_finish_2 rfl rfl ?_
  refine G.iload_n 1 F dL_finish_3 rfl rfl ?_
  refine G.callXc [] (oW o K v) [⟨0, 9, 12, 13⟩] ⟨0, 9, 15, 17⟩ [] F (kx_finish_i l hl D K base X t ht c hI hb) rfl ckL_23 cmL_23 (htab.trans rfl) (List.forall_mem_cons.mpr ⟨⟨by decide, "java/lang/IndexOutOfBoundsException", clL_13, by decide +kernel⟩, fun z h => nomatch h⟩) rfl (by decide) clL_17 ca_ISE cW_x rfl rfl ⟨rfl, rfl⟩ ⟨by decide, by decide⟩ ⟨by decide, by decide⟩ rfl rfl (Nat.le_of_ble_eq_true rfl) dL_finish_4 (fun q => ?_)
  refine G.astore_nN F dL_finish_15 rfl (by decide) rfl ?_
  refine G.iconst 2 F dL_finish_16 (by decide) ?_
  exact hE _ _ 2 dL_finish_17 rfl

set_option maxRecDepth 100000 in
set_option maxHeartbeats 4000000 in
theorem h_result_g (l : Launch) (D : va_G) (K : Nat → ClassId) (base : Nat) (X : Nat → Nat) (o : Nat) (t : Nat) (ht : t < 4) (c : CS) (hI : Inv c) (hb : ¬ c 18 t = (-1)) (v : Nat → Int64) : CtIW l D K base yL_result cL_result 4 [(0, 9, 12, 13), (0, 9, 15, 29)] (rmD 2) [.ref (X 0), .int (nI t), .ref o] (cW X K c ++ oW o K v) 0 (cW X K c ++ oW o K (vp_updL v 0 (f_result t c).toInt64)) := by
  refine CtIW.enter (by decide) (Nat.le_of_ble_eq_true rfl) ?_
  intro κ A Q F htab hE
  show G κ l (rmD 2) A Q D 4 0 0 (cW X K c ++ oW o K v) 0 [(0, .ref (X 0)), (1, .int (nI t)), (2, .ref o)] []
  refine G.aload_n 2 F dL_result_0 rfl rfl ?_
  refine G.iconst 0 F dL_result_1 (by decide) ?_
  refine G.aload_n 0 F dL_result_2 rfl rfl ?_
  refine G.iload_n 1 F dL_result_3 rfl rfl ?_
  refine G.callFi [] (oW o K v) F (k_result l D K base X t ht c hI hb) rfl rfl ckL_26 cW_x rfl rfl ⟨rfl, rfl⟩ ⟨by decide, by decide⟩ ⟨Nat.zero_le _, Nat.zero_le _⟩ rfl rfl (Nat.le_of_ble_eq_true rfl) dL_result_4 ?_
  refine G.i2l F dL_result_7 ?_
  refine G.stO (cW X K _) 28 F rfl rfl (gW_len ..) rfl dL_result_8 ?_
  refine G.goto 18 F dL_result_9 rfl ?_
  refine G.iconst 0 F dL_result_18 (by decide) ?_
  exact hE _ _ 0 dL_result_19 rfl

set_option maxRecDepth 100000 in
set_option maxHeartbeats 4000000 in
theorem h_result_x (l : Launch) (hl : l.stackTraces = false) (D : va_G) (K : Nat → ClassId) (base : Nat) (X : Nat → Nat) (o : Nat) (p : Int32) (c : CS) (hI : Inv c) (hv : p < 0 ∨ ¬ p < 4) (v : Nat → Int64) : CtIW l D K base yL_result cL_result 4 [(0, 9, 12, 13), (0, 9, 15, 29)] (rmX 2) [.ref (X 0), .int p, .ref o] (cW X K c ++ oW o K v) 1 (cW X K c ++ oW o K v) := by
  refine CtIW.enter (by decide) (Nat.le_of_ble_eq_true rfl) ?_
  intro κ A Q F htab hE
  show G κ l (rmX 2) A Q D 4 0 0 (cW X K c ++ oW o K v) 0 [(0, .ref (X 0)), (1, .int p), (2, .ref o)] []
  refine G.aload_n 2 F dL_result_0 rfl rfl ?_
  refine G.iconst 0 F dL_result_1 (by decide) ?_
  refine G.aload_n 0 F dL_result_2 rfl rfl ?_
  refine G.iload_n 1 F dL_result_3 rfl rfl ?_
  refine G.callXc [] (oW o K v) [] ⟨0, 9, 12, 13⟩ [⟨0, 9, 15, 29⟩] F (kx_result_x l hl D K base X p c hI hv) rfl ckL_26 cmL_26 (htab.trans rfl) (fun z hz => nomatch hz) rfl (by decide) clL_13 ca_IOOB cW_x rfl rfl ⟨rfl, rfl⟩ ⟨by decide, by decide⟩ ⟨by decide, by decide⟩ rfl rfl (Nat.le_of_ble_eq_true rfl) dL_result_4 (fun q => ?_)
  refine G.astore_nN F dL_result_12 rfl (by decide) rfl ?_
  refine G.iconst 1 F dL_result_13 (by decide) ?_
  exact hE _ _ 1 dL_result_14 rfl

set_option maxRecDepth 100000 in
set_option maxHeartbeats 4000000 in
theorem h_result_n (l : Launch) (hl : l.stackTraces = false) (D : va_G) (K : Nat → ClassId) (base : Nat) (X : Nat → Nat) (o : Nat) (t : Nat) (ht : t < 4) (c : CS) (hI : Inv c) (hb : c 18 t = (-1)) (v : Nat → Int64) : CtIW l D K base yL_result cL_result 4 [(0, 9, 12, 13), (0, 9, 15, 29)] (rmX 2) [.ref (X 0), .int (nI t), .ref o] (cW X K c ++ oW o K v) 2 (cW X K c ++ oW o K v) := by
  refine CtIW.enter (by decide) (Nat.le_of_ble_eq_true rfl) ?_
  intro κ A Q F htab hE
  show G κ l (rmX 2) A Q D 4 0 0 (cW X K c ++ oW o K v) 0 [(0, .ref (X 0)), (1, .int (nI t)), (2, .ref o)] []
  refine G.aload_n 2 F dL_result_0 rfl rfl ?_
  refine G.iconst 0 F dL_result_1 (by decide) ?_
  refine G.aload_n 0 F dL_result_2 rfl rfl ?_
  refine G.iload_n 1 F dL_result_3 rfl rfl ?_
  refine G.callXc [] (oW o K v) [⟨0, 9, 12, 13⟩] ⟨0, 9, 15, 29⟩ [] F (kx_result_n l hl D K base X t ht c hI hb) rfl ckL_26 cmL_26 (htab.trans rfl) (List.forall_mem_cons.mpr ⟨⟨by decide, "java/lang/IndexOutOfBoundsException", clL_13, by decide +kernel⟩, fun z h => nomatch h⟩) rfl (by decide) clL_29 ca_NSE cW_x rfl rfl ⟨rfl, rfl⟩ ⟨by decide, by decide⟩ ⟨by decide, by decide⟩ rfl rfl (Nat.le_of_ble_eq_true rfl) dL_result_4 (fun q => ?_)
  refine G.astore_nN F dL_result_15 rfl (by decide) rfl ?_
  refine G.iconst 2 F dL_result_16 (by decide) ?_
  exact hE _ _ 2 dL_result_17 rfl

set_option maxRecDepth 100000 in
set_option maxHeartbeats 4000000 in
theorem h_at_g (l : Launch) (D : va_G) (K : Nat → ClassId) (base : Nat) (X : Nat → Nat) (o : Nat) (t : Nat) (ht : t < 4) (c : CS) (hI : Inv c) (v : Nat → Int64) : CtIW l D K base yL_at cL_at 4 [(0, 9, 12, 13)] (rmD 2) [.ref (X 0), .int (nI t), .ref o] (cW X K c ++ oW o K v) 0 (cW X K c ++ oW o K (vp_updL v 0 (f_at t c).toInt64)) := by
  refine CtIW.enter (by decide) (Nat.le_of_ble_eq_true rfl) ?_
  intro κ A Q F htab hE
  show G κ l (rmD 2) A Q D 4 0 0 (cW X K c ++ oW o K v) 0 [(0, .ref (X 0)), (1, .int (nI t)), (2, .ref o)] []
  refine G.aload_n 2 F dL_at_0 rfl rfl ?_
  refine G.iconst 0 F dL_at_1 (by decide) ?_
  refine G.aload_n 0 F dL_at_2 rfl rfl ?_
  refine G.iload_n 1 F dL_at_3 rfl rfl ?_
  refine G.callFi [] (oW o K v) F (k_at l D K base X t ht c hI) rfl rfl ckL_31 cW_x rfl rfl ⟨rfl, rfl⟩ ⟨by decide, by decide⟩ ⟨Nat.zero_le _, Nat.zero_le _⟩ rfl rfl (Nat.le_of_ble_eq_true rfl) dL_at_4 ?_
  refine G.i2l F dL_at_7 ?_
  refine G.stO (cW X K _) 28 F rfl rfl (gW_len ..) rfl dL_at_8 ?_
  refine G.goto 15 F dL_at_9 rfl ?_
  refine G.iconst 0 F dL_at_15 (by decide) ?_
  exact hE _ _ 0 dL_at_16 rfl

set_option maxRecDepth 100000 in
set_option maxHeartbeats 4000000 in
theorem h_at_x (l : Launch) (hl : l.stackTraces = false) (D : va_G) (K : Nat → ClassId) (base : Nat) (X : Nat → Nat) (o : Nat) (p : Int32) (c : CS) (hI : Inv c) (hv : p < 0 ∨ ¬ p < 4) (v : Nat → Int64) : CtIW l D K base yL_at cL_at 4 [(0, 9, 12, 13)] (rmX 2) [.ref (X 0), .int p, .ref o] (cW X K c ++ oW o K v) 1 (cW X K c ++ oW o K v) := by
  refine CtIW.enter (by decide) (Nat.le_of_ble_eq_true rfl) ?_
  intro κ A Q F htab hE
  show G κ l (rmX 2) A Q D 4 0 0 (cW X K c ++ oW o K v) 0 [(0, .ref (X 0)), (1, .int p), (2, .ref o)] []
  refine G.aload_n 2 F dL_at_0 rfl rfl ?_
  refine G.iconst 0 F dL_at_1 (by decide) ?_
  refine G.aload_n 0 F dL_at_2 rfl rfl ?_
  refine G.iload_n 1 F dL_at_3 rfl rfl ?_
  refine G.callXc [] (oW o K v) [] ⟨0, 9, 12, 13⟩ [] F (kx_at_x l hl D K base X p c hI hv) rfl ckL_31 cmL_31 (htab.trans rfl) (fun z hz => nomatch hz) rfl (by decide) clL_13 ca_IOOB cW_x rfl rfl ⟨rfl, rfl⟩ ⟨by decide, by decide⟩ ⟨by decide, by decide⟩ rfl rfl (Nat.le_of_ble_eq_true rfl) dL_at_4 (fun q => ?_)
  refine G.astore_nN F dL_at_12 rfl (by decide) rfl ?_
  refine G.iconst 1 F dL_at_13 (by decide) ?_
  exact hE _ _ 1 dL_at_14 rfl

set_option maxRecDepth 100000 in
set_option maxHeartbeats 4000000 in
theorem h_known_0 (l : Launch) (D : va_G) (K : Nat → ClassId) (base : Nat) (X : Nat → Nat) (o : Nat) (t : Nat) (ht : t < 4) (c : CS) (hI : Inv c) (v : Nat → Int64) : CtIW l D K base yL_known cL_known 5 [(0, 10, 13, 13)] (rmD 2) [.ref (X 0), .int (nI t), .int 0, .ref o] (cW X K c ++ oW o K v) 0 (cW X K c ++ oW o K (vp_updL v 0 (f_known0 t c).toInt64)) := by
  refine CtIW.enter (by decide) (Nat.le_of_ble_eq_true rfl) ?_
  intro κ A Q F htab hE
  show G κ l (rmD 2) A Q D 5 0 0 (cW X K c ++ oW o K v) 0 [(0, .ref (X 0)), (1, .int (nI t)), (2, .int 0), (3, .ref o)] []
  refine G.aload_n 3 F dL_known_0 rfl rfl ?_
  refine G.iconst 0 F dL_known_1 (by decide) ?_
  refine G.aload_n 0 F dL_known_2 rfl rfl ?_
  refine G.iload_n 1 F dL_known_3 rfl rfl ?_
  refine G.iload_n 2 F dL_known_4 rfl rfl ?_
  refine G.callFi [] (oW o K v) F (k_known0 l D K base X t ht c hI) rfl rfl ckL_34 cW_x rfl rfl ⟨rfl, rfl⟩ ⟨by decide, by decide⟩ ⟨Nat.zero_le _, Nat.zero_le _⟩ rfl rfl (Nat.le_of_ble_eq_true rfl) dL_known_5 ?_
  refine G.i2l F dL_known_8 ?_
  refine G.stO (cW X K _) 28 F rfl rfl (gW_len ..) rfl dL_known_9 ?_
  refine G.goto 17 F dL_known_10 rfl ?_
  refine G.iconst 0 F dL_known_17 (by decide) ?_
  exact hE _ _ 0 dL_known_18 rfl

set_option maxRecDepth 100000 in
set_option maxHeartbeats 4000000 in
theorem h_known_1 (l : Launch) (D : va_G) (K : Nat → ClassId) (base : Nat) (X : Nat → Nat) (o : Nat) (t : Nat) (ht : t < 4) (c : CS) (hI : Inv c) (v : Nat → Int64) : CtIW l D K base yL_known cL_known 5 [(0, 10, 13, 13)] (rmD 2) [.ref (X 0), .int (nI t), .int 1, .ref o] (cW X K c ++ oW o K v) 0 (cW X K c ++ oW o K (vp_updL v 0 (f_known1 t c).toInt64)) := by
  refine CtIW.enter (by decide) (Nat.le_of_ble_eq_true rfl) ?_
  intro κ A Q F htab hE
  show G κ l (rmD 2) A Q D 5 0 0 (cW X K c ++ oW o K v) 0 [(0, .ref (X 0)), (1, .int (nI t)), (2, .int 1), (3, .ref o)] []
  refine G.aload_n 3 F dL_known_0 rfl rfl ?_
  refine G.iconst 0 F dL_known_1 (by decide) ?_
  refine G.aload_n 0 F dL_known_2 rfl rfl ?_
  refine G.iload_n 1 F dL_known_3 rfl rfl ?_
  refine G.iload_n 2 F dL_known_4 rfl rfl ?_
  refine G.callFi [] (oW o K v) F (k_known1 l D K base X t ht c hI) rfl rfl ckL_34 cW_x rfl rfl ⟨rfl, rfl⟩ ⟨by decide, by decide⟩ ⟨Nat.zero_le _, Nat.zero_le _⟩ rfl rfl (Nat.le_of_ble_eq_true rfl) dL_known_5 ?_
  refine G.i2l F dL_known_8 ?_
  refine G.stO (cW X K _) 28 F rfl rfl (gW_len ..) rfl dL_known_9 ?_
  refine G.goto 17 F dL_known_10 rfl ?_
  refine G.iconst 0 F dL_known_17 (by decide) ?_
  exact hE _ _ 0 dL_known_18 rfl

set_option maxRecDepth 100000 in
set_option maxHeartbeats 4000000 in
theorem h_known_2 (l : Launch) (D : va_G) (K : Nat → ClassId) (base : Nat) (X : Nat → Nat) (o : Nat) (t : Nat) (ht : t < 4) (c : CS) (hI : Inv c) (v : Nat → Int64) : CtIW l D K base yL_known cL_known 5 [(0, 10, 13, 13)] (rmD 2) [.ref (X 0), .int (nI t), .int 2, .ref o] (cW X K c ++ oW o K v) 0 (cW X K c ++ oW o K (vp_updL v 0 (f_known2 t c).toInt64)) := by
  refine CtIW.enter (by decide) (Nat.le_of_ble_eq_true rfl) ?_
  intro κ A Q F htab hE
  show G κ l (rmD 2) A Q D 5 0 0 (cW X K c ++ oW o K v) 0 [(0, .ref (X 0)), (1, .int (nI t)), (2, .int 2), (3, .ref o)] []
  refine G.aload_n 3 F dL_known_0 rfl rfl ?_
  refine G.iconst 0 F dL_known_1 (by decide) ?_
  refine G.aload_n 0 F dL_known_2 rfl rfl ?_
  refine G.iload_n 1 F dL_known_3 rfl rfl ?_
  refine G.iload_n 2 F dL_known_4 rfl rfl ?_
  refine G.callFi [] (oW o K v) F (k_known2 l D K base X t ht c hI) rfl rfl ckL_34 cW_x rfl rfl ⟨rfl, rfl⟩ ⟨by decide, by decide⟩ ⟨Nat.zero_le _, Nat.zero_le _⟩ rfl rfl (Nat.le_of_ble_eq_true rfl) dL_known_5 ?_
  refine G.i2l F dL_known_8 ?_
  refine G.stO (cW X K _) 28 F rfl rfl (gW_len ..) rfl dL_known_9 ?_
  refine G.goto 17 F dL_known_10 rfl ?_
  refine G.iconst 0 F dL_known_17 (by decide) ?_
  exact hE _ _ 0 dL_known_18 rfl

set_option maxRecDepth 100000 in
set_option maxHeartbeats 4000000 in
theorem h_known_3 (l : Launch) (D : va_G) (K : Nat → ClassId) (base : Nat) (X : Nat → Nat) (o : Nat) (t : Nat) (ht : t < 4) (c : CS) (hI : Inv c) (v : Nat → Int64) : CtIW l D K base yL_known cL_known 5 [(0, 10, 13, 13)] (rmD 2) [.ref (X 0), .int (nI t), .int 3, .ref o] (cW X K c ++ oW o K v) 0 (cW X K c ++ oW o K (vp_updL v 0 (f_known3 t c).toInt64)) := by
  refine CtIW.enter (by decide) (Nat.le_of_ble_eq_true rfl) ?_
  intro κ A Q F htab hE
  show G κ l (rmD 2) A Q D 5 0 0 (cW X K c ++ oW o K v) 0 [(0, .ref (X 0)), (1, .int (nI t)), (2, .int 3), (3, .ref o)] []
  refine G.aload_n 3 F dL_known_0 rfl rfl ?_
  refine G.iconst 0 F dL_known_1 (by decide) ?_
  refine G.aload_n 0 F dL_known_2 rfl rfl ?_
  refine G.iload_n 1 F dL_known_3 rfl rfl ?_
  refine G.iload_n 2 F dL_known_4 rfl rfl ?_
  refine G.callFi [] (oW o K v) F (k_known3 l D K base X t ht c hI) rfl rfl ckL_34 cW_x rfl rfl ⟨rfl, rfl⟩ ⟨by decide, by decide⟩ ⟨Nat.zero_le _, Nat.zero_le _⟩ rfl rfl (Nat.le_of_ble_eq_true rfl) dL_known_5 ?_
  refine G.i2l F dL_known_8 ?_
  refine G.stO (cW X K _) 28 F rfl rfl (gW_len ..) rfl dL_known_9 ?_
  refine G.goto 17 F dL_known_10 rfl ?_
  refine G.iconst 0 F dL_known_17 (by decide) ?_
  exact hE _ _ 0 dL_known_18 rfl

set_option maxRecDepth 100000 in
set_option maxHeartbeats 4000000 in
theorem h_known_x (l : Launch) (hl : l.stackTraces = false) (D : va_G) (K : Nat → ClassId) (base : Nat) (X : Nat → Nat) (o : Nat) (p : Int32) (w : Int32) (c : CS) (hI : Inv c) (hv : p < 0 ∨ ¬ p < 4) (v : Nat → Int64) : CtIW l D K base yL_known cL_known 5 [(0, 10, 13, 13)] (rmX 2) [.ref (X 0), .int p, .int w, .ref o] (cW X K c ++ oW o K v) 1 (cW X K c ++ oW o K v) := by
  refine CtIW.enter (by decide) (Nat.le_of_ble_eq_true rfl) ?_
  intro κ A Q F htab hE
  show G κ l (rmX 2) A Q D 5 0 0 (cW X K c ++ oW o K v) 0 [(0, .ref (X 0)), (1, .int p), (2, .int w), (3, .ref o)] []
  refine G.aload_n 3 F dL_known_0 rfl rfl ?_
  refine G.iconst 0 F dL_known_1 (by decide) ?_
  refine G.aload_n 0 F dL_known_2 rfl rfl ?_
  refine G.iload_n 1 F dL_known_3 rfl rfl ?_
  refine G.iload_n 2 F dL_known_4 rfl rfl ?_
  refine G.callXc [] (oW o K v) [] ⟨0, 10, 13, 13⟩ [] F (kx_known_x l hl D K base X p w c hI hv) rfl ckL_34 cmL_34 (htab.trans rfl) (fun z hz => nomatch hz) rfl (by decide) clL_13 ca_IOOB cW_x rfl rfl ⟨rfl, rfl⟩ ⟨by decide, by decide⟩ ⟨by decide, by decide⟩ rfl rfl (Nat.le_of_ble_eq_true rfl) dL_known_5 (fun q => ?_)
  refine G.astoreN F dL_known_13 (by decide) rfl ?_
  refine G.iconst 1 F dL_known_15 (by decide) ?_
  exact hE _ _ 1 dL_known_16 rfl

set_option maxRecDepth 100000 in
set_option maxHeartbeats 4000000 in
theorem h_known_w (l : Launch) (hl : l.stackTraces = false) (D : va_G) (K : Nat → ClassId) (base : Nat) (X : Nat → Nat) (o : Nat) (t : Nat) (ht : t < 4) (w : Int32) (c : CS) (hI : Inv c) (hw : w.toInt < 0 ∨ 3 < w.toInt) (v : Nat → Int64) : CtIW l D K base yL_known cL_known 5 [(0, 10, 13, 13)] (rmX 2) [.ref (X 0), .int (nI t), .int w, .ref o] (cW X K c ++ oW o K v) 1 (cW X K c ++ oW o K v) := by
  refine CtIW.enter (by decide) (Nat.le_of_ble_eq_true rfl) ?_
  intro κ A Q F htab hE
  show G κ l (rmX 2) A Q D 5 0 0 (cW X K c ++ oW o K v) 0 [(0, .ref (X 0)), (1, .int (nI t)), (2, .int w), (3, .ref o)] []
  refine G.aload_n 3 F dL_known_0 rfl rfl ?_
  refine G.iconst 0 F dL_known_1 (by decide) ?_
  refine G.aload_n 0 F dL_known_2 rfl rfl ?_
  refine G.iload_n 1 F dL_known_3 rfl rfl ?_
  refine G.iload_n 2 F dL_known_4 rfl rfl ?_
  refine G.callXc [] (oW o K v) [] ⟨0, 10, 13, 13⟩ [] F (kx_known_w l hl D K base X t ht w c hI hw) rfl ckL_34 cmL_34 (htab.trans rfl) (fun z hz => nomatch hz) rfl (by decide) clL_13 ca_IOOB cW_x rfl rfl ⟨rfl, rfl⟩ ⟨by decide, by decide⟩ ⟨by decide, by decide⟩ rfl rfl (Nat.le_of_ble_eq_true rfl) dL_known_5 (fun q => ?_)
  refine G.astoreN F dL_known_13 (by decide) rfl ?_
  refine G.iconst 1 F dL_known_15 (by decide) ?_
  exact hE _ _ 1 dL_known_16 rfl

set_option maxRecDepth 100000 in
set_option maxHeartbeats 4000000 in
theorem h_says_0 (l : Launch) (D : va_G) (K : Nat → ClassId) (base : Nat) (X : Nat → Nat) (o : Nat) (t : Nat) (ht : t < 4) (c : CS) (hI : Inv c) (v : Nat → Int64) : CtIW l D K base yL_says cL_says 5 [(0, 10, 13, 13)] (rmD 2) [.ref (X 0), .int (nI t), .int 0, .ref o] (cW X K c ++ oW o K v) 0 (cW X K c ++ oW o K (vp_updL v 0 (f_says0 t c).toInt64)) := by
  refine CtIW.enter (by decide) (Nat.le_of_ble_eq_true rfl) ?_
  intro κ A Q F htab hE
  show G κ l (rmD 2) A Q D 5 0 0 (cW X K c ++ oW o K v) 0 [(0, .ref (X 0)), (1, .int (nI t)), (2, .int 0), (3, .ref o)] []
  refine G.aload_n 3 F dL_says_0 rfl rfl ?_
  refine G.iconst 0 F dL_says_1 (by decide) ?_
  refine G.aload_n 0 F dL_says_2 rfl rfl ?_
  refine G.iload_n 1 F dL_says_3 rfl rfl ?_
  refine G.iload_n 2 F dL_says_4 rfl rfl ?_
  refine G.callFi [] (oW o K v) F (k_says0 l D K base X t ht c hI) rfl rfl ckL_38 cW_x rfl rfl ⟨rfl, rfl⟩ ⟨by decide, by decide⟩ ⟨Nat.zero_le _, Nat.zero_le _⟩ rfl rfl (Nat.le_of_ble_eq_true rfl) dL_says_5 ?_
  refine G.i2l F dL_says_8 ?_
  refine G.stO (cW X K _) 28 F rfl rfl (gW_len ..) rfl dL_says_9 ?_
  refine G.goto 17 F dL_says_10 rfl ?_
  refine G.iconst 0 F dL_says_17 (by decide) ?_
  exact hE _ _ 0 dL_says_18 rfl

set_option maxRecDepth 100000 in
set_option maxHeartbeats 4000000 in
theorem h_says_1 (l : Launch) (D : va_G) (K : Nat → ClassId) (base : Nat) (X : Nat → Nat) (o : Nat) (t : Nat) (ht : t < 4) (c : CS) (hI : Inv c) (v : Nat → Int64) : CtIW l D K base yL_says cL_says 5 [(0, 10, 13, 13)] (rmD 2) [.ref (X 0), .int (nI t), .int 1, .ref o] (cW X K c ++ oW o K v) 0 (cW X K c ++ oW o K (vp_updL v 0 (f_says1 t c).toInt64)) := by
  refine CtIW.enter (by decide) (Nat.le_of_ble_eq_true rfl) ?_
  intro κ A Q F htab hE
  show G κ l (rmD 2) A Q D 5 0 0 (cW X K c ++ oW o K v) 0 [(0, .ref (X 0)), (1, .int (nI t)), (2, .int 1), (3, .ref o)] []
  refine G.aload_n 3 F dL_says_0 rfl rfl ?_
  refine G.iconst 0 F dL_says_1 (by decide) ?_
  refine G.aload_n 0 F dL_says_2 rfl rfl ?_
  refine G.iload_n 1 F dL_says_3 rfl rfl ?_
  refine G.iload_n 2 F dL_says_4 rfl rfl ?_
  refine G.callFi [] (oW o K v) F (k_says1 l D K base X t ht c hI) rfl rfl ckL_38 cW_x rfl rfl ⟨rfl, rfl⟩ ⟨by decide, by decide⟩ ⟨Nat.zero_le _, Nat.zero_le _⟩ rfl rfl (Nat.le_of_ble_eq_true rfl) dL_says_5 ?_
  refine G.i2l F dL_says_8 ?_
  refine G.stO (cW X K _) 28 F rfl rfl (gW_len ..) rfl dL_says_9 ?_
  refine G.goto 17 F dL_says_10 rfl ?_
  refine G.iconst 0 F dL_says_17 (by decide) ?_
  exact hE _ _ 0 dL_says_18 rfl

set_option maxRecDepth 100000 in
set_option maxHeartbeats 4000000 in
theorem h_says_2 (l : Launch) (D : va_G) (K : Nat → ClassId) (base : Nat) (X : Nat → Nat) (o : Nat) (t : Nat) (ht : t < 4) (c : CS) (hI : Inv c) (v : Nat → Int64) : CtIW l D K base yL_says cL_says 5 [(0, 10, 13, 13)] (rmD 2) [.ref (X 0), .int (nI t), .int 2, .ref o] (cW X K c ++ oW o K v) 0 (cW X K c ++ oW o K (vp_updL v 0 (f_says2 t c).toInt64)) := by
  refine CtIW.enter (by decide) (Nat.le_of_ble_eq_true rfl) ?_
  intro κ A Q F htab hE
  show G κ l (rmD 2) A Q D 5 0 0 (cW X K c ++ oW o K v) 0 [(0, .ref (X 0)), (1, .int (nI t)), (2, .int 2), (3, .ref o)] []
  refine G.aload_n 3 F dL_says_0 rfl rfl ?_
  refine G.iconst 0 F dL_says_1 (by decide) ?_
  refine G.aload_n 0 F dL_says_2 rfl rfl ?_
  refine G.iload_n 1 F dL_says_3 rfl rfl ?_
  refine G.iload_n 2 F dL_says_4 rfl rfl ?_
  refine G.callFi [] (oW o K v) F (k_says2 l D K base X t ht c hI) rfl rfl ckL_38 cW_x rfl rfl ⟨rfl, rfl⟩ ⟨by decide, by decide⟩ ⟨Nat.zero_le _, Nat.zero_le _⟩ rfl rfl (Nat.le_of_ble_eq_true rfl) dL_says_5 ?_
  refine G.i2l F dL_says_8 ?_
  refine G.stO (cW X K _) 28 F rfl rfl (gW_len ..) rfl dL_says_9 ?_
  refine G.goto 17 F dL_says_10 rfl ?_
  refine G.iconst 0 F dL_says_17 (by decide) ?_
  exact hE _ _ 0 dL_says_18 rfl

set_option maxRecDepth 100000 in
set_option maxHeartbeats 4000000 in
theorem h_says_x (l : Launch) (hl : l.stackTraces = false) (D : va_G) (K : Nat → ClassId) (base : Nat) (X : Nat → Nat) (o : Nat) (p : Int32) (w : Int32) (c : CS) (hI : Inv c) (hv : p < 0 ∨ ¬ p < 4) (v : Nat → Int64) : CtIW l D K base yL_says cL_says 5 [(0, 10, 13, 13)] (rmX 2) [.ref (X 0), .int p, .int w, .ref o] (cW X K c ++ oW o K v) 1 (cW X K c ++ oW o K v) := by
  refine CtIW.enter (by decide) (Nat.le_of_ble_eq_true rfl) ?_
  intro κ A Q F htab hE
  show G κ l (rmX 2) A Q D 5 0 0 (cW X K c ++ oW o K v) 0 [(0, .ref (X 0)), (1, .int p), (2, .int w), (3, .ref o)] []
  refine G.aload_n 3 F dL_says_0 rfl rfl ?_
  refine G.iconst 0 F dL_says_1 (by decide) ?_
  refine G.aload_n 0 F dL_says_2 rfl rfl ?_
  refine G.iload_n 1 F dL_says_3 rfl rfl ?_
  refine G.iload_n 2 F dL_says_4 rfl rfl ?_
  refine G.callXc [] (oW o K v) [] ⟨0, 10, 13, 13⟩ [] F (kx_says_x l hl D K base X p w c hI hv) rfl ckL_38 cmL_38 (htab.trans rfl) (fun z hz => nomatch hz) rfl (by decide) clL_13 ca_IOOB cW_x rfl rfl ⟨rfl, rfl⟩ ⟨by decide, by decide⟩ ⟨by decide, by decide⟩ rfl rfl (Nat.le_of_ble_eq_true rfl) dL_says_5 (fun q => ?_)
  refine G.astoreN F dL_says_13 (by decide) rfl ?_
  refine G.iconst 1 F dL_says_15 (by decide) ?_
  exact hE _ _ 1 dL_says_16 rfl

set_option maxRecDepth 100000 in
set_option maxHeartbeats 4000000 in
theorem h_says_w (l : Launch) (hl : l.stackTraces = false) (D : va_G) (K : Nat → ClassId) (base : Nat) (X : Nat → Nat) (o : Nat) (t : Nat) (ht : t < 4) (w : Int32) (c : CS) (hI : Inv c) (hw : w.toInt < 0 ∨ 2 < w.toInt) (v : Nat → Int64) : CtIW l D K base yL_says cL_says 5 [(0, 10, 13, 13)] (rmX 2) [.ref (X 0), .int (nI t), .int w, .ref o] (cW X K c ++ oW o K v) 1 (cW X K c ++ oW o K v) := by
  refine CtIW.enter (by decide) (Nat.le_of_ble_eq_true rfl) ?_
  intro κ A Q F htab hE
  show G κ l (rmX 2) A Q D 5 0 0 (cW X K c ++ oW o K v) 0 [(0, .ref (X 0)), (1, .int (nI t)), (2, .int w), (3, .ref o)] []
  refine G.aload_n 3 F dL_says_0 rfl rfl ?_
  refine G.iconst 0 F dL_says_1 (by decide) ?_
  refine G.aload_n 0 F dL_says_2 rfl rfl ?_
  refine G.iload_n 1 F dL_says_3 rfl rfl ?_
  refine G.iload_n 2 F dL_says_4 rfl rfl ?_
  refine G.callXc [] (oW o K v) [] ⟨0, 10, 13, 13⟩ [] F (kx_says_w l hl D K base X t ht w c hI hw) rfl ckL_38 cmL_38 (htab.trans rfl) (fun z hz => nomatch hz) rfl (by decide) clL_13 ca_IOOB cW_x rfl rfl ⟨rfl, rfl⟩ ⟨by decide, by decide⟩ ⟨by decide, by decide⟩ rfl rfl (Nat.le_of_ble_eq_true rfl) dL_says_5 (fun q => ?_)
  refine G.astoreN F dL_says_13 (by decide) rfl ?_
  refine G.iconst 1 F dL_says_15 (by decide) ?_
  exact hE _ _ 1 dL_says_16 rfl

set_option maxRecDepth 100000 in
set_option maxHeartbeats 4000000 in
theorem h_advance_g (l : Launch) (D : va_G) (K : Nat → ClassId) (base : Nat) (X : Nat → Nat) (o : Nat) (c : CS) (hI : Inv c) (hb : c 22 0 = 0) (v : Nat → Int64) : CtIW l D K base yL_advance cL_advance 3 [(0, 15, 18, 45)] (rmD 3) [.ref (X 0), .ref o] (cW X K c ++ oW o K v) 0 (cW X K (f_advance c).2 ++ oW o K (vp_updL v 0 (if (f_advance c).1 = 0 then 0 else 1))) := by
  refine CtIW.enter (by decide) (Nat.le_of_ble_eq_true rfl) ?_
  intro κ A Q F htab hE
  show G κ l (rmD 3) A Q D 3 0 0 (cW X K c ++ oW o K v) 0 [(0, .ref (X 0)), (1, .ref o)] []
  refine G.aload_n 1 F dL_advance_0 rfl rfl ?_
  refine G.iconst 0 F dL_advance_1 (by decide) ?_
  refine G.aload_n 0 F dL_advance_2 rfl rfl ?_
  refine G.callFi [] (oW o K v) F (k_advance l D K base X c hI hb) rfl rfl ckL_41 cW_x rfl rfl ⟨rfl, rfl⟩ ⟨by decide, by decide⟩ ⟨Nat.zero_le _, Nat.zero_le _⟩ rfl rfl (Nat.le_of_ble_eq_true rfl) dL_advance_3 ?_
  refine G.if_eq 13 F dL_advance_6 rfl (fun h1 => ?_) (fun h1 => ?_)
  · rw [if_pos h1] at hE
    refine G.lconst 0 F dL_advance_13 (by decide) ?_
    refine G.stO (cW X K _) 28 F rfl rfl (gW_len ..) rfl dL_advance_14 ?_
    refine G.goto 21 F dL_advance_15 rfl ?_
    refine G.iconst 0 F dL_advance_21 (by decide) ?_
    exact hE _ _ 0 dL_advance_22 rfl
  · rw [if_neg h1] at hE
    refine G.lconst 1 F dL_advance_9 (by decide) ?_
    refine G.goto 14 F dL_advance_10 rfl ?_
    refine G.stO (cW X K _) 28 F rfl rfl (gW_len ..) rfl dL_advance_14 ?_
    refine G.goto 21 F dL_advance_15 rfl ?_
    refine G.iconst 0 F dL_advance_21 (by decide) ?_
    exact hE _ _ 0 dL_advance_22 rfl

set_option maxRecDepth 100000 in
set_option maxHeartbeats 4000000 in
theorem h_advance_x (l : Launch) (hl : l.stackTraces = false) (D : va_G) (K : Nat → ClassId) (base : Nat) (X : Nat → Nat) (o : Nat) (c : CS) (hI : Inv c) (hb : ¬ c 22 0 = 0) (v : Nat → Int64) : CtIW l D K base yL_advance cL_advance 3 [(0, 15, 18, 45)] (rmX 2) [.ref (X 0), .ref o] (cW X K c ++ oW o K v) 1 (cW X K c ++ oW o K v) := by
  refine CtIW.enter (by decide) (Nat.le_of_ble_eq_true rfl) ?_
  intro κ A Q F htab hE
  show G κ l (rmX 2) A Q D 3 0 0 (cW X K c ++ oW o K v) 0 [(0, .ref (X 0)), (1, .ref o)] []
  refine G.aload_n 1 F dL_advance_0 rfl rfl ?_
  refine G.iconst 0 F dL_advance_1 (by decide) ?_
  refine G.aload_n 0 F dL_advance_2 rfl rfl ?_
  refine G.callXc [] (oW o K v) [] ⟨0, 15, 18, 45⟩ [] F (kx_advance_x l hl D K base X c hI hb) rfl ckL_41 cmL_41 (htab.trans rfl) (fun z hz => nomatch hz) rfl (by decide) clL_45 ca_UOE cW_x rfl rfl ⟨rfl, rfl⟩ ⟨by decide, by decide⟩ ⟨by decide, by decide⟩ rfl rfl (Nat.le_of_ble_eq_true rfl) dL_advance_3 (fun q => ?_)
  refine G.astore_nN F dL_advance_18 rfl (by decide) rfl ?_
  refine G.iconst 1 F dL_advance_19 (by decide) ?_
  exact hE _ _ 1 dL_advance_20 rfl

set_option maxRecDepth 100000 in
set_option maxHeartbeats 4000000 in
theorem h_scan_g (l : Launch) (D : va_G) (K : Nat → ClassId) (base : Nat) (X : Nat → Nat) (o : Nat) (t : Nat) (ht : t < 4) (c : CS) (hI : Inv c) (hb : c 22 0 = 1) (v : Nat → Int64) : CtIW l D K base yL_scan cL_scan 4 [(0, 9, 12, 13), (0, 9, 15, 45)] (rmD 3) [.ref (X 0), .int (nI t), .ref o] (cW X K c ++ oW o K v) 0 (cW X K (f_scan t c).2 ++ oW o K (vp_updL v 0 ((f_scan t c).1).toInt64)) := by
  refine CtIW.enter (by decide) (Nat.le_of_ble_eq_true rfl) ?_
  intro κ A Q F htab hE
  show G κ l (rmD 3) A Q D 4 0 0 (cW X K c ++ oW o K v) 0 [(0, .ref (X 0)), (1, .int (nI t)), (2, .ref o)] []
  refine G.aload_n 2 F dL_scan_0 rfl rfl ?_
  refine G.iconst 0 F dL_scan_1 (by decide) ?_
  refine G.aload_n 0 F dL_scan_2 rfl rfl ?_
  refine G.iload_n 1 F dL_scan_3 rfl rfl ?_
  refine G.callFi [] (oW o K v) F (k_scan l D K base X t ht c hI hb) rfl rfl ckL_47 cW_x rfl rfl ⟨rfl, rfl⟩ ⟨by decide, by decide⟩ ⟨Nat.zero_le _, Nat.zero_le _⟩ rfl rfl (Nat.le_of_ble_eq_true rfl) dL_scan_4 ?_
  refine G.i2l F dL_scan_7 ?_
  refine G.stO (cW X K _) 28 F rfl rfl (gW_len ..) rfl dL_scan_8 ?_
  refine G.goto 18 F dL_scan_9 rfl ?_
  refine G.iconst 0 F dL_scan_18 (by decide) ?_
  exact hE _ _ 0 dL_scan_19 rfl

set_option maxRecDepth 100000 in
set_option maxHeartbeats 4000000 in
theorem h_scan_x (l : Launch) (hl : l.stackTraces = false) (D : va_G) (K : Nat → ClassId) (base : Nat) (X : Nat → Nat) (o : Nat) (p : Int32) (c : CS) (hI : Inv c) (hv : p < 0 ∨ ¬ p < 4) (v : Nat → Int64) : CtIW l D K base yL_scan cL_scan 4 [(0, 9, 12, 13), (0, 9, 15, 45)] (rmX 2) [.ref (X 0), .int p, .ref o] (cW X K c ++ oW o K v) 1 (cW X K c ++ oW o K v) := by
  refine CtIW.enter (by decide) (Nat.le_of_ble_eq_true rfl) ?_
  intro κ A Q F htab hE
  show G κ l (rmX 2) A Q D 4 0 0 (cW X K c ++ oW o K v) 0 [(0, .ref (X 0)), (1, .int p), (2, .ref o)] []
  refine G.aload_n 2 F dL_scan_0 rfl rfl ?_
  refine G.iconst 0 F dL_scan_1 (by decide) ?_
  refine G.aload_n 0 F dL_scan_2 rfl rfl ?_
  refine G.iload_n 1 F dL_scan_3 rfl rfl ?_
  refine G.callXc [] (oW o K v) [] ⟨0, 9, 12, 13⟩ [⟨0, 9, 15, 45⟩] F (kx_scan_x l hl D K base X p c hI hv) rfl ckL_47 cmL_47 (htab.trans rfl) (fun z hz => nomatch hz) rfl (by decide) clL_13 ca_IOOB cW_x rfl rfl ⟨rfl, rfl⟩ ⟨by decide, by decide⟩ ⟨by decide, by decide⟩ rfl rfl (Nat.le_of_ble_eq_true rfl) dL_scan_4 (fun q => ?_)
  refine G.astore_nN F dL_scan_12 rfl (by decide) rfl ?_
  refine G.iconst 1 F dL_scan_13 (by decide) ?_
  exact hE _ _ 1 dL_scan_14 rfl

set_option maxRecDepth 100000 in
set_option maxHeartbeats 4000000 in
theorem h_scan_s (l : Launch) (hl : l.stackTraces = false) (D : va_G) (K : Nat → ClassId) (base : Nat) (X : Nat → Nat) (o : Nat) (t : Nat) (ht : t < 4) (c : CS) (hI : Inv c) (hb : ¬ c 22 0 = 1) (v : Nat → Int64) : CtIW l D K base yL_scan cL_scan 4 [(0, 9, 12, 13), (0, 9, 15, 45)] (rmX 2) [.ref (X 0), .int (nI t), .ref o] (cW X K c ++ oW o K v) 2 (cW X K c ++ oW o K v) := by
  refine CtIW.enter (by decide) (Nat.le_of_ble_eq_true rfl) ?_
  intro κ A Q F htab hE
  show G κ l (rmX 2) A Q D 4 0 0 (cW X K c ++ oW o K v) 0 [(0, .ref (X 0)), (1, .int (nI t)), (2, .ref o)] []
  refine G.aload_n 2 F dL_scan_0 rfl rfl ?_
  refine G.iconst 0 F dL_scan_1 (by decide) ?_
  refine G.aload_n 0 F dL_scan_2 rfl rfl ?_
  refine G.iload_n 1 F dL_scan_3 rfl rfl ?_
  refine G.callXc [] (oW o K v) [⟨0, 9, 12, 13⟩] ⟨0, 9, 15, 45⟩ [] F (kx_scan_s l hl D K base X t ht c hI hb) rfl ckL_47 cmL_47 (htab.trans rfl) (List.forall_mem_cons.mpr ⟨⟨by decide, "java/lang/IndexOutOfBoundsException", clL_13, by decide +kernel⟩, fun z h => nomatch h⟩) rfl (by decide) clL_45 ca_UOE cW_x rfl rfl ⟨rfl, rfl⟩ ⟨by decide, by decide⟩ ⟨by decide, by decide⟩ rfl rfl (Nat.le_of_ble_eq_true rfl) dL_scan_4 (fun q => ?_)
  refine G.astore_nN F dL_scan_15 rfl (by decide) rfl ?_
  refine G.iconst 2 F dL_scan_16 (by decide) ?_
  exact hE _ _ 2 dL_scan_17 rfl

set_option maxRecDepth 100000 in
set_option maxHeartbeats 4000000 in
theorem h_block_g (l : Launch) (D : va_G) (K : Nat → ClassId) (base : Nat) (X : Nat → Nat) (o : Nat) (k : Nat) (hk : k < 21) (w : Int32) (c : CS) (hI : Inv c) (hw : ¬ w < 0) (hw2 : w ≤ 5) (v : Nat → Int64) : CtIW l D K base yL_block cL_block 5 [(0, 10, 13, 13)] (rmD 2) [.ref (X 0), .int (nI k), .int w, .ref o] (cW X K c ++ oW o K v) 0 (cW X K c ++ oW o K (vp_updL v 0 (f_block k w c).toInt64)) := by
  refine CtIW.enter (by decide) (Nat.le_of_ble_eq_true rfl) ?_
  intro κ A Q F htab hE
  show G κ l (rmD 2) A Q D 5 0 0 (cW X K c ++ oW o K v) 0 [(0, .ref (X 0)), (1, .int (nI k)), (2, .int w), (3, .ref o)] []
  refine G.aload_n 3 F dL_block_0 rfl rfl ?_
  refine G.iconst 0 F dL_block_1 (by decide) ?_
  refine G.aload_n 0 F dL_block_2 rfl rfl ?_
  refine G.iload_n 1 F dL_block_3 rfl rfl ?_
  refine G.iload_n 2 F dL_block_4 rfl rfl ?_
  refine G.callFi [] (oW o K v) F (k_block l D K base X k hk w c hI hw hw2) rfl rfl ckL_50 cW_x rfl rfl ⟨rfl, rfl⟩ ⟨by decide, by decide⟩ ⟨Nat.zero_le _, Nat.zero_le _⟩ rfl rfl (Nat.le_of_ble_eq_true rfl) dL_block_5 ?_
  refine G.i2l F dL_block_8 ?_
  refine G.stO (cW X K _) 28 F rfl rfl (gW_len ..) rfl dL_block_9 ?_
  refine G.goto 17 F dL_block_10 rfl ?_
  refine G.iconst 0 F dL_block_17 (by decide) ?_
  exact hE _ _ 0 dL_block_18 rfl

set_option maxRecDepth 100000 in
set_option maxHeartbeats 4000000 in
theorem h_block_bl (l : Launch) (hl : l.stackTraces = false) (D : va_G) (K : Nat → ClassId) (base : Nat) (X : Nat → Nat) (o : Nat) (p : Int32) (w : Int32) (c : CS) (hI : Inv c) (hv : p < 0) (v : Nat → Int64) : CtIW l D K base yL_block cL_block 5 [(0, 10, 13, 13)] (rmX 2) [.ref (X 0), .int p, .int w, .ref o] (cW X K c ++ oW o K v) 1 (cW X K c ++ oW o K v) := by
  refine CtIW.enter (by decide) (Nat.le_of_ble_eq_true rfl) ?_
  intro κ A Q F htab hE
  show G κ l (rmX 2) A Q D 5 0 0 (cW X K c ++ oW o K v) 0 [(0, .ref (X 0)), (1, .int p), (2, .int w), (3, .ref o)] []
  refine G.aload_n 3 F dL_block_0 rfl rfl ?_
  refine G.iconst 0 F dL_block_1 (by decide) ?_
  refine G.aload_n 0 F dL_block_2 rfl rfl ?_
  refine G.iload_n 1 F dL_block_3 rfl rfl ?_
  refine G.iload_n 2 F dL_block_4 rfl rfl ?_
  refine G.callXc [] (oW o K v) [] ⟨0, 10, 13, 13⟩ [] F (kx_block_bl l hl D K base X p w c hI hv) rfl ckL_50 cmL_50 (htab.trans rfl) (fun z hz => nomatch hz) rfl (by decide) clL_13 ca_IOOB cW_x rfl rfl ⟨rfl, rfl⟩ ⟨by decide, by decide⟩ ⟨by decide, by decide⟩ rfl rfl (Nat.le_of_ble_eq_true rfl) dL_block_5 (fun q => ?_)
  refine G.astoreN F dL_block_13 (by decide) rfl ?_
  refine G.iconst 1 F dL_block_15 (by decide) ?_
  exact hE _ _ 1 dL_block_16 rfl

set_option maxRecDepth 100000 in
set_option maxHeartbeats 4000000 in
theorem h_block_bh (l : Launch) (hl : l.stackTraces = false) (D : va_G) (K : Nat → ClassId) (base : Nat) (X : Nat → Nat) (o : Nat) (p : Int32) (w : Int32) (c : CS) (hI : Inv c) (hv : ¬ p < 0) (hv2 : ¬ p ≤ 20) (v : Nat → Int64) : CtIW l D K base yL_block cL_block 5 [(0, 10, 13, 13)] (rmX 2) [.ref (X 0), .int p, .int w, .ref o] (cW X K c ++ oW o K v) 1 (cW X K c ++ oW o K v) := by
  refine CtIW.enter (by decide) (Nat.le_of_ble_eq_true rfl) ?_
  intro κ A Q F htab hE
  show G κ l (rmX 2) A Q D 5 0 0 (cW X K c ++ oW o K v) 0 [(0, .ref (X 0)), (1, .int p), (2, .int w), (3, .ref o)] []
  refine G.aload_n 3 F dL_block_0 rfl rfl ?_
  refine G.iconst 0 F dL_block_1 (by decide) ?_
  refine G.aload_n 0 F dL_block_2 rfl rfl ?_
  refine G.iload_n 1 F dL_block_3 rfl rfl ?_
  refine G.iload_n 2 F dL_block_4 rfl rfl ?_
  refine G.callXc [] (oW o K v) [] ⟨0, 10, 13, 13⟩ [] F (kx_block_bh l hl D K base X p w c hI hv hv2) rfl ckL_50 cmL_50 (htab.trans rfl) (fun z hz => nomatch hz) rfl (by decide) clL_13 ca_IOOB cW_x rfl rfl ⟨rfl, rfl⟩ ⟨by decide, by decide⟩ ⟨by decide, by decide⟩ rfl rfl (Nat.le_of_ble_eq_true rfl) dL_block_5 (fun q => ?_)
  refine G.astoreN F dL_block_13 (by decide) rfl ?_
  refine G.iconst 1 F dL_block_15 (by decide) ?_
  exact hE _ _ 1 dL_block_16 rfl

set_option maxRecDepth 100000 in
set_option maxHeartbeats 4000000 in
theorem h_block_wl (l : Launch) (hl : l.stackTraces = false) (D : va_G) (K : Nat → ClassId) (base : Nat) (X : Nat → Nat) (o : Nat) (p : Int32) (w : Int32) (c : CS) (hI : Inv c) (hv : ¬ p < 0) (hv2 : p ≤ 20) (hw : w < 0) (v : Nat → Int64) : CtIW l D K base yL_block cL_block 5 [(0, 10, 13, 13)] (rmX 2) [.ref (X 0), .int p, .int w, .ref o] (cW X K c ++ oW o K v) 1 (cW X K c ++ oW o K v) := by
  refine CtIW.enter (by decide) (Nat.le_of_ble_eq_true rfl) ?_
  intro κ A Q F htab hE
  show G κ l (rmX 2) A Q D 5 0 0 (cW X K c ++ oW o K v) 0 [(0, .ref (X 0)), (1, .int p), (2, .int w), (3, .ref o)] []
  refine G.aload_n 3 F dL_block_0 rfl rfl ?_
  refine G.iconst 0 F dL_block_1 (by decide) ?_
  refine G.aload_n 0 F dL_block_2 rfl rfl ?_
  refine G.iload_n 1 F dL_block_3 rfl rfl ?_
  refine G.iload_n 2 F dL_block_4 rfl rfl ?_
  refine G.callXc [] (oW o K v) [] ⟨0, 10, 13, 13⟩ [] F (kx_block_wl l hl D K base X p w c hI hv hv2 hw) rfl ckL_50 cmL_50 (htab.trans rfl) (fun z hz => nomatch hz) rfl (by decide) clL_13 ca_IOOB cW_x rfl rfl ⟨rfl, rfl⟩ ⟨by decide, by decide⟩ ⟨by decide, by decide⟩ rfl rfl (Nat.le_of_ble_eq_true rfl) dL_block_5 (fun q => ?_)
  refine G.astoreN F dL_block_13 (by decide) rfl ?_
  refine G.iconst 1 F dL_block_15 (by decide) ?_
  exact hE _ _ 1 dL_block_16 rfl

set_option maxRecDepth 100000 in
set_option maxHeartbeats 4000000 in
theorem h_block_wh (l : Launch) (hl : l.stackTraces = false) (D : va_G) (K : Nat → ClassId) (base : Nat) (X : Nat → Nat) (o : Nat) (p : Int32) (w : Int32) (c : CS) (hI : Inv c) (hv : ¬ p < 0) (hv2 : p ≤ 20) (hw : ¬ w < 0) (hw2 : ¬ w ≤ 5) (v : Nat → Int64) : CtIW l D K base yL_block cL_block 5 [(0, 10, 13, 13)] (rmX 2) [.ref (X 0), .int p, .int w, .ref o] (cW X K c ++ oW o K v) 1 (cW X K c ++ oW o K v) := by
  refine CtIW.enter (by decide) (Nat.le_of_ble_eq_true rfl) ?_
  intro κ A Q F htab hE
  show G κ l (rmX 2) A Q D 5 0 0 (cW X K c ++ oW o K v) 0 [(0, .ref (X 0)), (1, .int p), (2, .int w), (3, .ref o)] []
  refine G.aload_n 3 F dL_block_0 rfl rfl ?_
  refine G.iconst 0 F dL_block_1 (by decide) ?_
  refine G.aload_n 0 F dL_block_2 rfl rfl ?_
  refine G.iload_n 1 F dL_block_3 rfl rfl ?_
  refine G.iload_n 2 F dL_block_4 rfl rfl ?_
  refine G.callXc [] (oW o K v) [] ⟨0, 10, 13, 13⟩ [] F (kx_block_wh l hl D K base X p w c hI hv hv2 hw hw2) rfl ckL_50 cmL_50 (htab.trans rfl) (fun z hz => nomatch hz) rfl (by decide) clL_13 ca_IOOB cW_x rfl rfl ⟨rfl, rfl⟩ ⟨by decide, by decide⟩ ⟨by decide, by decide⟩ rfl rfl (Nat.le_of_ble_eq_true rfl) dL_block_5 (fun q => ?_)
  refine G.astoreN F dL_block_13 (by decide) rfl ?_
  refine G.iconst 1 F dL_block_15 (by decide) ?_
  exact hE _ _ 1 dL_block_16 rfl

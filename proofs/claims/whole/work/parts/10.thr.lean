set_option maxRecDepth 100000 in
set_option maxHeartbeats 4000000 in
theorem kx_workerOf_l (l : Launch) (hl : l.stackTraces = false) (D : va_G) (K : Nat → ClassId) (base : Nat) (X : Nat → Nat) (v : Int32) (c : CS) (hI : Inv c) (hv : v < 0) : CtX l D K base yS_workerOf cS_workerOf 2 (some (.object "SteppedList$Worker")) (rmX 0) [.ref (X 0), .int v] (cW X K c) "java/lang/IndexOutOfBoundsException" := by
  refine CtX.enter (by decide) (Nat.le_of_ble_eq_true rfl) ⟨rfl, rfl⟩ ?_
  intro κ F htab
  show G κ l (rmX 0) (va_A (cW X K c) κ.2.2.1.heap.size) (Qx κ D (cW X K c) "java/lang/IndexOutOfBoundsException") D 2 0 0 (cW X K c) 0 [(0, .ref (X 0)), (1, .int v)] []
  refine G.iload_n 1 F dS_workerOf_0 rfl rfl ?_
  refine G.if_lt 9 F dS_workerOf_1 rfl (fun _ => ?_) (fun h9 => absurd hv h9)
  exact G.throwS F htab hl tw_workerOf_9 dS_workerOf_9 dS_workerOf_12 dS_workerOf_13 dS_workerOf_15 dS_workerOf_18 ⟨by decide, Nat.le_of_ble_eq_true rfl, by decide, by decide⟩

set_option maxRecDepth 100000 in
set_option maxHeartbeats 4000000 in
theorem kx_workerOf_h (l : Launch) (hl : l.stackTraces = false) (D : va_G) (K : Nat → ClassId) (base : Nat) (X : Nat → Nat) (v : Int32) (c : CS) (hI : Inv c) (hv : ¬ v < 0) (hv2 : ¬ v < 4) : CtX l D K base yS_workerOf cS_workerOf 2 (some (.object "SteppedList$Worker")) (rmX 0) [.ref (X 0), .int v] (cW X K c) "java/lang/IndexOutOfBoundsException" := by
  refine CtX.enter (by decide) (Nat.le_of_ble_eq_true rfl) ⟨rfl, rfl⟩ ?_
  intro κ F htab
  show G κ l (rmX 0) (va_A (cW X K c) κ.2.2.1.heap.size) (Qx κ D (cW X K c) "java/lang/IndexOutOfBoundsException") D 2 0 0 (cW X K c) 0 [(0, .ref (X 0)), (1, .int v)] []
  refine G.iload_n 1 F dS_workerOf_0 rfl rfl ?_
  refine G.if_lt 9 F dS_workerOf_1 rfl (fun h9 => absurd h9 hv) (fun _ => ?_)
  refine G.iload_n 1 F dS_workerOf_4 rfl rfl ?_
  refine G.iconst 4 F dS_workerOf_5 (by decide) ?_
  refine G.icmp_lt 19 F dS_workerOf_6 rfl (fun h9 => absurd h9 hv2) (fun _ => ?_)
  exact G.throwS F htab hl tw_workerOf_9 dS_workerOf_9 dS_workerOf_12 dS_workerOf_13 dS_workerOf_15 dS_workerOf_18 ⟨by decide, Nat.le_of_ble_eq_true rfl, by decide, by decide⟩
theorem kx_workerOf (l : Launch) (hl : l.stackTraces = false) (D : va_G) (K : Nat → ClassId) (base : Nat) (X : Nat → Nat) (v : Int32) (c : CS) (hI : Inv c) (hv : v < 0 ∨ ¬ v < 4) : CtX l D K base yS_workerOf cS_workerOf 2 (some (.object "SteppedList$Worker")) (rmX 0) [.ref (X 0), .int v] (cW X K c) "java/lang/IndexOutOfBoundsException" := by
  by_cases h0 : v < 0
  · exact kx_workerOf_l l hl D K base X v c hI h0
  · exact kx_workerOf_h l hl D K base X v c hI h0 (hv.resolve_left h0)

set_option maxRecDepth 100000 in
set_option maxHeartbeats 4000000 in
theorem kx_busyWorkerOf_x (l : Launch) (hl : l.stackTraces = false) (D : va_G) (K : Nat → ClassId) (base : Nat) (X : Nat → Nat) (v : Int32) (c : CS) (hI : Inv c) (hv : v < 0 ∨ ¬ v < 4) : CtX l D K base yS_busyWorkerOf cS_busyWorkerOf 3 (some (.object "SteppedList$Worker")) (rmX 1) [.ref (X 0), .int v] (cW X K c) "java/lang/IndexOutOfBoundsException" := by
  refine CtX.enter (by decide) (Nat.le_of_ble_eq_true rfl) ⟨rfl, rfl⟩ ?_
  intro κ F htab
  show G κ l (rmX 1) (va_A (cW X K c) κ.2.2.1.heap.size) (Qx κ D (cW X K c) "java/lang/IndexOutOfBoundsException") D 3 0 0 (cW X K c) 0 [(0, .ref (X 0)), (1, .int v)] []
  refine G.aload_n 0 F dS_busyWorkerOf_0 rfl rfl ?_
  refine G.iload_n 1 F dS_busyWorkerOf_1 rfl rfl ?_
  exact G.callXo F htab (kx_workerOf l hl D K base X v c hI hv) ckS_29 cmS_29 cW_x rfl rfl ⟨rfl, rfl⟩ ⟨by decide, by decide⟩ ⟨by decide, by decide⟩ rfl rfl (Nat.le_of_ble_eq_true rfl) dS_busyWorkerOf_2

set_option maxRecDepth 100000 in
set_option maxHeartbeats 4000000 in
theorem kx_busyWorkerOf_i (l : Launch) (hl : l.stackTraces = false) (D : va_G) (K : Nat → ClassId) (base : Nat) (X : Nat → Nat) (t : Nat) (ht : t < 4) (c : CS) (hI : Inv c) (hb : c 7 t = 0) : CtX l D K base yS_busyWorkerOf cS_busyWorkerOf 3 (some (.object "SteppedList$Worker")) (rmX 1) [.ref (X 0), .int (nI t)] (cW X K c) "java/lang/IllegalStateException" := by
  refine CtX.enter (by decide) (Nat.le_of_ble_eq_true rfl) ⟨rfl, rfl⟩ ?_
  intro κ F htab
  show G κ l (rmX 1) (va_A (cW X K c) κ.2.2.1.heap.size) (Qx κ D (cW X K c) "java/lang/IllegalStateException") D 3 0 0 (cW X K c) 0 [(0, .ref (X 0)), (1, .int (nI t))] []
  refine G.aload_n 0 F dS_busyWorkerOf_0 rfl rfl ?_
  refine G.iload_n 1 F dS_busyWorkerOf_1 rfl rfl ?_
  refine G.callr F (k_workerOf l D K base X t ht c hI) ckS_29 cW_x rfl rfl ⟨rfl, rfl⟩ ⟨by decide, by decide⟩ ⟨Nat.zero_le _, Nat.zero_le _⟩ rfl rfl (Nat.le_of_ble_eq_true rfl) dS_busyWorkerOf_2 ?_
  refine G.astore_nN F dS_busyWorkerOf_5 rfl (by decide) rfl ?_
  refine G.aload_n 0 F dS_busyWorkerOf_6 rfl rfl ?_
  refine G.gT 1 7 F rfl ht (by decide) flS_42 dS_busyWorkerOf_7 ?_
  refine G.if_ne 23 F dS_busyWorkerOf_10 rfl (fun h9 => absurd hb h9) (fun _ => ?_)
  exact G.throwS F htab hl tw_busyWorkerOf_13 dS_busyWorkerOf_13 dS_busyWorkerOf_16 dS_busyWorkerOf_17 dS_busyWorkerOf_19 dS_busyWorkerOf_22 ⟨by decide, Nat.le_of_ble_eq_true rfl, by decide, by decide⟩

set_option maxRecDepth 100000 in
set_option maxHeartbeats 4000000 in
theorem kx_begin_x (l : Launch) (hl : l.stackTraces = false) (D : va_G) (K : Nat → ClassId) (base : Nat) (X : Nat → Nat) (v : Int32) (o : Int32) (y : Int32) (c : CS) (hI : Inv c) (hv : v < 0 ∨ ¬ v < 4) : CtX l D K base yS_begin cS_begin 5 none (rmX 1) [.ref (X 0), .int v, .int o, .int y] (cW X K c) "java/lang/IndexOutOfBoundsException" := by
  refine CtX.enter (by decide) (Nat.le_of_ble_eq_true rfl) ⟨rfl, rfl⟩ ?_
  intro κ F htab
  show G κ l (rmX 1) (va_A (cW X K c) κ.2.2.1.heap.size) (Qx κ D (cW X K c) "java/lang/IndexOutOfBoundsException") D 5 0 0 (cW X K c) 0 [(0, .ref (X 0)), (1, .int v), (2, .int o), (3, .int y)] []
  refine G.aload_n 0 F dS_begin_0 rfl rfl ?_
  refine G.iload_n 1 F dS_begin_1 rfl rfl ?_
  exact G.callXo F htab (kx_workerOf l hl D K base X v c hI hv) ckS_29 cmS_29 cW_x rfl rfl ⟨rfl, rfl⟩ ⟨by decide, by decide⟩ ⟨by decide, by decide⟩ rfl rfl (Nat.le_of_ble_eq_true rfl) dS_begin_2

set_option maxRecDepth 100000 in
set_option maxHeartbeats 4000000 in
theorem kx_begin_ol (l : Launch) (hl : l.stackTraces = false) (D : va_G) (K : Nat → ClassId) (base : Nat) (X : Nat → Nat) (t : Nat) (ht : t < 4) (o : Int32) (y : Int32) (c : CS) (hI : Inv c) (ho : o < 0) : CtX l D K base yS_begin cS_begin 5 none (rmX 1) [.ref (X 0), .int (nI t), .int o, .int y] (cW X K c) "java/lang/IllegalArgumentException" := by
  refine CtX.enter (by decide) (Nat.le_of_ble_eq_true rfl) ⟨rfl, rfl⟩ ?_
  intro κ F htab
  show G κ l (rmX 1) (va_A (cW X K c) κ.2.2.1.heap.size) (Qx κ D (cW X K c) "java/lang/IllegalArgumentException") D 5 0 0 (cW X K c) 0 [(0, .ref (X 0)), (1, .int (nI t)), (2, .int o), (3, .int y)] []
  refine G.aload_n 0 F dS_begin_0 rfl rfl ?_
  refine G.iload_n 1 F dS_begin_1 rfl rfl ?_
  refine G.callr F (k_workerOf l D K base X t ht c hI) ckS_29 cW_x rfl rfl ⟨rfl, rfl⟩ ⟨by decide, by decide⟩ ⟨Nat.zero_le _, Nat.zero_le _⟩ rfl rfl (Nat.le_of_ble_eq_true rfl) dS_begin_2 ?_
  refine G.astoreN F dS_begin_5 (by decide) rfl ?_
  refine G.iload_n 3 F dS_begin_7 rfl rfl ?_
  refine G.if_lt 16 F dS_begin_8 rfl (fun _ => ?_) (fun h9 => absurd ho h9)
  exact G.throwS F htab hl tw_begin_16 dS_begin_16 dS_begin_19 dS_begin_20 dS_begin_22 dS_begin_25 ⟨by decide, Nat.le_of_ble_eq_true rfl, by decide, by decide⟩

set_option maxRecDepth 100000 in
set_option maxHeartbeats 4000000 in
theorem kx_begin_oh (l : Launch) (hl : l.stackTraces = false) (D : va_G) (K : Nat → ClassId) (base : Nat) (X : Nat → Nat) (t : Nat) (ht : t < 4) (o : Int32) (y : Int32) (c : CS) (hI : Inv c) (ho : ¬ o < 0) (ho2 : ¬ o ≤ 2) : CtX l D K base yS_begin cS_begin 5 none (rmX 1) [.ref (X 0), .int (nI t), .int o, .int y] (cW X K c) "java/lang/IllegalArgumentException" := by
  refine CtX.enter (by decide) (Nat.le_of_ble_eq_true rfl) ⟨rfl, rfl⟩ ?_
  intro κ F htab
  show G κ l (rmX 1) (va_A (cW X K c) κ.2.2.1.heap.size) (Qx κ D (cW X K c) "java/lang/IllegalArgumentException") D 5 0 0 (cW X K c) 0 [(0, .ref (X 0)), (1, .int (nI t)), (2, .int o), (3, .int y)] []
  refine G.aload_n 0 F dS_begin_0 rfl rfl ?_
  refine G.iload_n 1 F dS_begin_1 rfl rfl ?_
  refine G.callr F (k_workerOf l D K base X t ht c hI) ckS_29 cW_x rfl rfl ⟨rfl, rfl⟩ ⟨by decide, by decide⟩ ⟨Nat.zero_le _, Nat.zero_le _⟩ rfl rfl (Nat.le_of_ble_eq_true rfl) dS_begin_2 ?_
  refine G.astoreN F dS_begin_5 (by decide) rfl ?_
  refine G.iload_n 3 F dS_begin_7 rfl rfl ?_
  refine G.if_lt 16 F dS_begin_8 rfl (fun h9 => absurd h9 ho) (fun _ => ?_)
  refine G.iload_n 3 F dS_begin_11 rfl rfl ?_
  refine G.iconst 2 F dS_begin_12 (by decide) ?_
  refine G.icmp_le 26 F dS_begin_13 rfl (fun h9 => absurd h9 ho2) (fun _ => ?_)
  exact G.throwS F htab hl tw_begin_16 dS_begin_16 dS_begin_19 dS_begin_20 dS_begin_22 dS_begin_25 ⟨by decide, Nat.le_of_ble_eq_true rfl, by decide, by decide⟩

set_option maxRecDepth 100000 in
set_option maxHeartbeats 4000000 in
theorem kx_begin_yl (l : Launch) (hl : l.stackTraces = false) (D : va_G) (K : Nat → ClassId) (base : Nat) (X : Nat → Nat) (t : Nat) (ht : t < 4) (o : Int32) (y : Int32) (c : CS) (hI : Inv c) (ho : ¬ o < 0) (ho2 : o ≤ 2) (hy : y < 0) : CtX l D K base yS_begin cS_begin 5 none (rmX 1) [.ref (X 0), .int (nI t), .int o, .int y] (cW X K c) "java/lang/IllegalArgumentException" := by
  refine CtX.enter (by decide) (Nat.le_of_ble_eq_true rfl) ⟨rfl, rfl⟩ ?_
  intro κ F htab
  show G κ l (rmX 1) (va_A (cW X K c) κ.2.2.1.heap.size) (Qx κ D (cW X K c) "java/lang/IllegalArgumentException") D 5 0 0 (cW X K c) 0 [(0, .ref (X 0)), (1, .int (nI t)), (2, .int o), (3, .int y)] []
  refine G.aload_n 0 F dS_begin_0 rfl rfl ?_
  refine G.iload_n 1 F dS_begin_1 rfl rfl ?_
  refine G.callr F (k_workerOf l D K base X t ht c hI) ckS_29 cW_x rfl rfl ⟨rfl, rfl⟩ ⟨by decide, by decide⟩ ⟨Nat.zero_le _, Nat.zero_le _⟩ rfl rfl (Nat.le_of_ble_eq_true rfl) dS_begin_2 ?_
  refine G.astoreN F dS_begin_5 (by decide) rfl ?_
  refine G.iload_n 3 F dS_begin_7 rfl rfl ?_
  refine G.if_lt 16 F dS_begin_8 rfl (fun h9 => absurd h9 ho) (fun _ => ?_)
  refine G.iload_n 3 F dS_begin_11 rfl rfl ?_
  refine G.iconst 2 F dS_begin_12 (by decide) ?_
  refine G.icmp_le 26 F dS_begin_13 rfl (fun _ => ?_) (fun h9 => absurd ho2 h9)
  refine G.iload_n 4 F dS_begin_26 rfl rfl ?_
  refine G.if_lt 36 F dS_begin_27 rfl (fun _ => ?_) (fun h9 => absurd hy h9)
  exact G.throwS F htab hl tw_begin_36 dS_begin_36 dS_begin_39 dS_begin_40 dS_begin_42 dS_begin_45 ⟨by decide, Nat.le_of_ble_eq_true rfl, by decide, by decide⟩

set_option maxRecDepth 100000 in
set_option maxHeartbeats 4000000 in
theorem kx_begin_yh (l : Launch) (hl : l.stackTraces = false) (D : va_G) (K : Nat → ClassId) (base : Nat) (X : Nat → Nat) (t : Nat) (ht : t < 4) (o : Int32) (y : Int32) (c : CS) (hI : Inv c) (ho : ¬ o < 0) (ho2 : o ≤ 2) (hy : ¬ y < 0) (hy2 : ¬ y < 32) : CtX l D K base yS_begin cS_begin 5 none (rmX 1) [.ref (X 0), .int (nI t), .int o, .int y] (cW X K c) "java/lang/IllegalArgumentException" := by
  refine CtX.enter (by decide) (Nat.le_of_ble_eq_true rfl) ⟨rfl, rfl⟩ ?_
  intro κ F htab
  show G κ l (rmX 1) (va_A (cW X K c) κ.2.2.1.heap.size) (Qx κ D (cW X K c) "java/lang/IllegalArgumentException") D 5 0 0 (cW X K c) 0 [(0, .ref (X 0)), (1, .int (nI t)), (2, .int o), (3, .int y)] []
  refine G.aload_n 0 F dS_begin_0 rfl rfl ?_
  refine G.iload_n 1 F dS_begin_1 rfl rfl ?_
  refine G.callr F (k_workerOf l D K base X t ht c hI) ckS_29 cW_x rfl rfl ⟨rfl, rfl⟩ ⟨by decide, by decide⟩ ⟨Nat.zero_le _, Nat.zero_le _⟩ rfl rfl (Nat.le_of_ble_eq_true rfl) dS_begin_2 ?_
  refine G.astoreN F dS_begin_5 (by decide) rfl ?_
  refine G.iload_n 3 F dS_begin_7 rfl rfl ?_
  refine G.if_lt 16 F dS_begin_8 rfl (fun h9 => absurd h9 ho) (fun _ => ?_)
  refine G.iload_n 3 F dS_begin_11 rfl rfl ?_
  refine G.iconst 2 F dS_begin_12 (by decide) ?_
  refine G.icmp_le 26 F dS_begin_13 rfl (fun _ => ?_) (fun h9 => absurd ho2 h9)
  refine G.iload_n 4 F dS_begin_26 rfl rfl ?_
  refine G.if_lt 36 F dS_begin_27 rfl (fun h9 => absurd h9 hy) (fun _ => ?_)
  refine G.iload_n 4 F dS_begin_30 rfl rfl ?_
  refine G.bipush 32 F dS_begin_31 (by decide) ?_
  refine G.icmp_lt 46 F dS_begin_33 rfl (fun h9 => absurd h9 hy2) (fun _ => ?_)
  exact G.throwS F htab hl tw_begin_36 dS_begin_36 dS_begin_39 dS_begin_40 dS_begin_42 dS_begin_45 ⟨by decide, Nat.le_of_ble_eq_true rfl, by decide, by decide⟩

set_option maxRecDepth 100000 in
set_option maxHeartbeats 4000000 in
theorem kx_begin_i (l : Launch) (hl : l.stackTraces = false) (D : va_G) (K : Nat → ClassId) (base : Nat) (X : Nat → Nat) (t : Nat) (ht : t < 4) (o : Int32) (y : Int32) (c : CS) (hI : Inv c) (ho : ¬ o < 0) (ho2 : o ≤ 2) (hy : ¬ y < 0) (hy2 : y < 32) (hb : ¬ c 7 t = 0) : CtX l D K base yS_begin cS_begin 5 none (rmX 1) [.ref (X 0), .int (nI t), .int o, .int y] (cW X K c) "java/lang/IllegalStateException" := by
  refine CtX.enter (by decide) (Nat.le_of_ble_eq_true rfl) ⟨rfl, rfl⟩ ?_
  intro κ F htab
  show G κ l (rmX 1) (va_A (cW X K c) κ.2.2.1.heap.size) (Qx κ D (cW X K c) "java/lang/IllegalStateException") D 5 0 0 (cW X K c) 0 [(0, .ref (X 0)), (1, .int (nI t)), (2, .int o), (3, .int y)] []
  refine G.aload_n 0 F dS_begin_0 rfl rfl ?_
  refine G.iload_n 1 F dS_begin_1 rfl rfl ?_
  refine G.callr F (k_workerOf l D K base X t ht c hI) ckS_29 cW_x rfl rfl ⟨rfl, rfl⟩ ⟨by decide, by decide⟩ ⟨Nat.zero_le _, Nat.zero_le _⟩ rfl rfl (Nat.le_of_ble_eq_true rfl) dS_begin_2 ?_
  refine G.astoreN F dS_begin_5 (by decide) rfl ?_
  refine G.iload_n 3 F dS_begin_7 rfl rfl ?_
  refine G.if_lt 16 F dS_begin_8 rfl (fun h9 => absurd h9 ho) (fun _ => ?_)
  refine G.iload_n 3 F dS_begin_11 rfl rfl ?_
  refine G.iconst 2 F dS_begin_12 (by decide) ?_
  refine G.icmp_le 26 F dS_begin_13 rfl (fun _ => ?_) (fun h9 => absurd ho2 h9)
  refine G.iload_n 4 F dS_begin_26 rfl rfl ?_
  refine G.if_lt 36 F dS_begin_27 rfl (fun h9 => absurd h9 hy) (fun _ => ?_)
  refine G.iload_n 4 F dS_begin_30 rfl rfl ?_
  refine G.bipush 32 F dS_begin_31 (by decide) ?_
  refine G.icmp_lt 46 F dS_begin_33 rfl (fun _ => ?_) (fun h9 => absurd hy2 h9)
  refine G.aload 0 F dS_begin_46 rfl ?_
  refine G.gT 1 7 F rfl ht (by decide) flS_42 dS_begin_48 ?_
  refine G.if_eq 64 F dS_begin_51 rfl (fun h9 => absurd h9 hb) (fun _ => ?_)
  exact G.throwS F htab hl tw_begin_54 dS_begin_54 dS_begin_57 dS_begin_58 dS_begin_60 dS_begin_63 ⟨by decide, Nat.le_of_ble_eq_true rfl, by decide, by decide⟩

set_option maxRecDepth 100000 in
set_option maxHeartbeats 4000000 in
theorem kx_step_x (l : Launch) (hl : l.stackTraces = false) (D : va_G) (K : Nat → ClassId) (base : Nat) (X : Nat → Nat) (v : Int32) (c : CS) (hI : Inv c) (hv : v < 0 ∨ ¬ v < 4) : CtX l D K base yS_step cS_step 3 (some .int) (rmX 2) [.ref (X 0), .int v] (cW X K c) "java/lang/IndexOutOfBoundsException" := by
  refine CtX.enter (by decide) (Nat.le_of_ble_eq_true rfl) ⟨rfl, rfl⟩ ?_
  intro κ F htab
  show G κ l (rmX 2) (va_A (cW X K c) κ.2.2.1.heap.size) (Qx κ D (cW X K c) "java/lang/IndexOutOfBoundsException") D 3 0 0 (cW X K c) 0 [(0, .ref (X 0)), (1, .int v)] []
  refine G.aload_n 0 F dS_step_0 rfl rfl ?_
  refine G.iload_n 1 F dS_step_1 rfl rfl ?_
  exact G.callXo F htab (kx_busyWorkerOf_x l hl D K base X v c hI hv) ckS_59 cmS_59 cW_x rfl rfl ⟨rfl, rfl⟩ ⟨by decide, by decide⟩ ⟨by decide, by decide⟩ rfl rfl (Nat.le_of_ble_eq_true rfl) dS_step_2

set_option maxRecDepth 100000 in
set_option maxHeartbeats 4000000 in
theorem kx_step_i (l : Launch) (hl : l.stackTraces = false) (D : va_G) (K : Nat → ClassId) (base : Nat) (X : Nat → Nat) (t : Nat) (ht : t < 4) (c : CS) (hI : Inv c) (hb : c 7 t = 0) : CtX l D K base yS_step cS_step 3 (some .int) (rmX 2) [.ref (X 0), .int (nI t)] (cW X K c) "java/lang/IllegalStateException" := by
  refine CtX.enter (by decide) (Nat.le_of_ble_eq_true rfl) ⟨rfl, rfl⟩ ?_
  intro κ F htab
  show G κ l (rmX 2) (va_A (cW X K c) κ.2.2.1.heap.size) (Qx κ D (cW X K c) "java/lang/IllegalStateException") D 3 0 0 (cW X K c) 0 [(0, .ref (X 0)), (1, .int (nI t))] []
  refine G.aload_n 0 F dS_step_0 rfl rfl ?_
  refine G.iload_n 1 F dS_step_1 rfl rfl ?_
  exact G.callXo F htab (kx_busyWorkerOf_i l hl D K base X t ht c hI hb) ckS_59 cmS_59 cW_x rfl rfl ⟨rfl, rfl⟩ ⟨by decide, by decide⟩ ⟨by decide, by decide⟩ rfl rfl (Nat.le_of_ble_eq_true rfl) dS_step_2

set_option maxRecDepth 100000 in
set_option maxHeartbeats 4000000 in
theorem kx_finish_x (l : Launch) (hl : l.stackTraces = false) (D : va_G) (K : Nat → ClassId) (base : Nat) (X : Nat → Nat) (v : Int32) (c : CS) (hI : Inv c) (hv : v < 0 ∨ ¬ v < 4) : CtX l D K base yS_finish cS_finish 4 (some .int) (rmX 2) [.ref (X 0), .int v] (cW X K c) "java/lang/IndexOutOfBoundsException" := by
  refine CtX.enter (by decide) (Nat.le_of_ble_eq_true rfl) ⟨rfl, rfl⟩ ?_
  intro κ F htab
  show G κ l (rmX 2) (va_A (cW X K c) κ.2.2.1.heap.size) (Qx κ D (cW X K c) "java/lang/IndexOutOfBoundsException") D 4 0 0 (cW X K c) 0 [(0, .ref (X 0)), (1, .int v)] []
  refine G.aload_n 0 F dS_finish_0 rfl rfl ?_
  refine G.iload_n 1 F dS_finish_1 rfl rfl ?_
  exact G.callXo F htab (kx_busyWorkerOf_x l hl D K base X v c hI hv) ckS_59 cmS_59 cW_x rfl rfl ⟨rfl, rfl⟩ ⟨by decide, by decide⟩ ⟨by decide, by decide⟩ rfl rfl (Nat.le_of_ble_eq_true rfl) dS_finish_2

set_option maxRecDepth 100000 in
set_option maxHeartbeats 4000000 in
theorem kx_finish_i (l : Launch) (hl : l.stackTraces = false) (D : va_G) (K : Nat → ClassId) (base : Nat) (X : Nat → Nat) (t : Nat) (ht : t < 4) (c : CS) (hI : Inv c) (hb : c 7 t = 0) : CtX l D K base yS_finish cS_finish 4 (some .int) (rmX 2) [.ref (X 0), .int (nI t)] (cW X K c) "java/lang/IllegalStateException" := by
  refine CtX.enter (by decide) (Nat.le_of_ble_eq_true rfl) ⟨rfl, rfl⟩ ?_
  intro κ F htab
  show G κ l (rmX 2) (va_A (cW X K c) κ.2.2.1.heap.size) (Qx κ D (cW X K c) "java/lang/IllegalStateException") D 4 0 0 (cW X K c) 0 [(0, .ref (X 0)), (1, .int (nI t))] []
  refine G.aload_n 0 F dS_finish_0 rfl rfl ?_
  refine G.iload_n 1 F dS_finish_1 rfl rfl ?_
  exact G.callXo F htab (kx_busyWorkerOf_i l hl D K base X t ht c hI hb) ckS_59 cmS_59 cW_x rfl rfl ⟨rfl, rfl⟩ ⟨by decide, by decide⟩ ⟨by decide, by decide⟩ rfl rfl (Nat.le_of_ble_eq_true rfl) dS_finish_2

set_option maxRecDepth 100000 in
set_option maxHeartbeats 4000000 in
theorem kx_result_x (l : Launch) (hl : l.stackTraces = false) (D : va_G) (K : Nat → ClassId) (base : Nat) (X : Nat → Nat) (v : Int32) (c : CS) (hI : Inv c) (hv : v < 0 ∨ ¬ v < 4) : CtX l D K base yS_result cS_result 3 (some .int) (rmX 1) [.ref (X 0), .int v] (cW X K c) "java/lang/IndexOutOfBoundsException" := by
  refine CtX.enter (by decide) (Nat.le_of_ble_eq_true rfl) ⟨rfl, rfl⟩ ?_
  intro κ F htab
  show G κ l (rmX 1) (va_A (cW X K c) κ.2.2.1.heap.size) (Qx κ D (cW X K c) "java/lang/IndexOutOfBoundsException") D 3 0 0 (cW X K c) 0 [(0, .ref (X 0)), (1, .int v)] []
  refine G.aload_n 0 F dS_result_0 rfl rfl ?_
  refine G.iload_n 1 F dS_result_1 rfl rfl ?_
  exact G.callXo F htab (kx_workerOf l hl D K base X v c hI hv) ckS_29 cmS_29 cW_x rfl rfl ⟨rfl, rfl⟩ ⟨by decide, by decide⟩ ⟨by decide, by decide⟩ rfl rfl (Nat.le_of_ble_eq_true rfl) dS_result_2

set_option maxRecDepth 100000 in
set_option maxHeartbeats 4000000 in
theorem kx_at_x (l : Launch) (hl : l.stackTraces = false) (D : va_G) (K : Nat → ClassId) (base : Nat) (X : Nat → Nat) (v : Int32) (c : CS) (hI : Inv c) (hv : v < 0 ∨ ¬ v < 4) : CtX l D K base yS_at cS_at 2 (some .int) (rmX 1) [.ref (X 0), .int v] (cW X K c) "java/lang/IndexOutOfBoundsException" := by
  refine CtX.enter (by decide) (Nat.le_of_ble_eq_true rfl) ⟨rfl, rfl⟩ ?_
  intro κ F htab
  show G κ l (rmX 1) (va_A (cW X K c) κ.2.2.1.heap.size) (Qx κ D (cW X K c) "java/lang/IndexOutOfBoundsException") D 2 0 0 (cW X K c) 0 [(0, .ref (X 0)), (1, .int v)] []
  refine G.aload_n 0 F dS_at_0 rfl rfl ?_
  refine G.iload_n 1 F dS_at_1 rfl rfl ?_
  exact G.callXo F htab (kx_workerOf l hl D K base X v c hI hv) ckS_29 cmS_29 cW_x rfl rfl ⟨rfl, rfl⟩ ⟨by decide, by decide⟩ ⟨by decide, by decide⟩ rfl rfl (Nat.le_of_ble_eq_true rfl) dS_at_2

set_option maxRecDepth 100000 in
set_option maxHeartbeats 4000000 in
theorem kx_known_x (l : Launch) (hl : l.stackTraces = false) (D : va_G) (K : Nat → ClassId) (base : Nat) (X : Nat → Nat) (v : Int32) (w : Int32) (c : CS) (hI : Inv c) (hv : v < 0 ∨ ¬ v < 4) : CtX l D K base yS_known cS_known 4 (some .int) (rmX 1) [.ref (X 0), .int v, .int w] (cW X K c) "java/lang/IndexOutOfBoundsException" := by
  refine CtX.enter (by decide) (Nat.le_of_ble_eq_true rfl) ⟨rfl, rfl⟩ ?_
  intro κ F htab
  show G κ l (rmX 1) (va_A (cW X K c) κ.2.2.1.heap.size) (Qx κ D (cW X K c) "java/lang/IndexOutOfBoundsException") D 4 0 0 (cW X K c) 0 [(0, .ref (X 0)), (1, .int v), (2, .int w)] []
  refine G.aload_n 0 F dS_known_0 rfl rfl ?_
  refine G.iload_n 1 F dS_known_1 rfl rfl ?_
  exact G.callXo F htab (kx_workerOf l hl D K base X v c hI hv) ckS_29 cmS_29 cW_x rfl rfl ⟨rfl, rfl⟩ ⟨by decide, by decide⟩ ⟨by decide, by decide⟩ rfl rfl (Nat.le_of_ble_eq_true rfl) dS_known_2

set_option maxRecDepth 100000 in
set_option maxHeartbeats 4000000 in
theorem kx_known_w (l : Launch) (hl : l.stackTraces = false) (D : va_G) (K : Nat → ClassId) (base : Nat) (X : Nat → Nat) (t : Nat) (ht : t < 4) (w : Int32) (c : CS) (hI : Inv c) (hw : w.toInt < 0 ∨ 3 < w.toInt) : CtX l D K base yS_known cS_known 4 (some .int) (rmX 1) [.ref (X 0), .int (nI t), .int w] (cW X K c) "java/lang/IndexOutOfBoundsException" := by
  refine CtX.enter (by decide) (Nat.le_of_ble_eq_true rfl) ⟨rfl, rfl⟩ ?_
  intro κ F htab
  show G κ l (rmX 1) (va_A (cW X K c) κ.2.2.1.heap.size) (Qx κ D (cW X K c) "java/lang/IndexOutOfBoundsException") D 4 0 0 (cW X K c) 0 [(0, .ref (X 0)), (1, .int (nI t)), (2, .int w)] []
  refine G.aload_n 0 F dS_known_0 rfl rfl ?_
  refine G.iload_n 1 F dS_known_1 rfl rfl ?_
  refine G.callr F (k_workerOf l D K base X t ht c hI) ckS_29 cW_x rfl rfl ⟨rfl, rfl⟩ ⟨by decide, by decide⟩ ⟨Nat.zero_le _, Nat.zero_le _⟩ rfl rfl (Nat.le_of_ble_eq_true rfl) dS_known_2 ?_
  refine G.astore_nN F dS_known_5 rfl (by decide) rfl ?_
  refine G.iload_n 3 F dS_known_6 rfl rfl ?_
  refine G.tabOut 56 F dS_known_7 hw rfl ?_
  exact G.throwS F htab hl tw_known_56 dS_known_56 dS_known_59 dS_known_60 dS_known_62 dS_known_65 ⟨by decide, Nat.le_of_ble_eq_true rfl, by decide, by decide⟩

set_option maxRecDepth 100000 in
set_option maxHeartbeats 4000000 in
theorem kx_says_x (l : Launch) (hl : l.stackTraces = false) (D : va_G) (K : Nat → ClassId) (base : Nat) (X : Nat → Nat) (v : Int32) (w : Int32) (c : CS) (hI : Inv c) (hv : v < 0 ∨ ¬ v < 4) : CtX l D K base yS_says cS_says 4 (some .int) (rmX 1) [.ref (X 0), .int v, .int w] (cW X K c) "java/lang/IndexOutOfBoundsException" := by
  refine CtX.enter (by decide) (Nat.le_of_ble_eq_true rfl) ⟨rfl, rfl⟩ ?_
  intro κ F htab
  show G κ l (rmX 1) (va_A (cW X K c) κ.2.2.1.heap.size) (Qx κ D (cW X K c) "java/lang/IndexOutOfBoundsException") D 4 0 0 (cW X K c) 0 [(0, .ref (X 0)), (1, .int v), (2, .int w)] []
  refine G.aload_n 0 F dS_says_0 rfl rfl ?_
  refine G.iload_n 1 F dS_says_1 rfl rfl ?_
  exact G.callXo F htab (kx_workerOf l hl D K base X v c hI hv) ckS_29 cmS_29 cW_x rfl rfl ⟨rfl, rfl⟩ ⟨by decide, by decide⟩ ⟨by decide, by decide⟩ rfl rfl (Nat.le_of_ble_eq_true rfl) dS_says_2

set_option maxRecDepth 100000 in
set_option maxHeartbeats 4000000 in
theorem kx_says_w (l : Launch) (hl : l.stackTraces = false) (D : va_G) (K : Nat → ClassId) (base : Nat) (X : Nat → Nat) (t : Nat) (ht : t < 4) (w : Int32) (c : CS) (hI : Inv c) (hw : w.toInt < 0 ∨ 2 < w.toInt) : CtX l D K base yS_says cS_says 4 (some .int) (rmX 1) [.ref (X 0), .int (nI t), .int w] (cW X K c) "java/lang/IndexOutOfBoundsException" := by
  refine CtX.enter (by decide) (Nat.le_of_ble_eq_true rfl) ⟨rfl, rfl⟩ ?_
  intro κ F htab
  show G κ l (rmX 1) (va_A (cW X K c) κ.2.2.1.heap.size) (Qx κ D (cW X K c) "java/lang/IndexOutOfBoundsException") D 4 0 0 (cW X K c) 0 [(0, .ref (X 0)), (1, .int (nI t)), (2, .int w)] []
  refine G.aload_n 0 F dS_says_0 rfl rfl ?_
  refine G.iload_n 1 F dS_says_1 rfl rfl ?_
  refine G.callr F (k_workerOf l D K base X t ht c hI) ckS_29 cW_x rfl rfl ⟨rfl, rfl⟩ ⟨by decide, by decide⟩ ⟨Nat.zero_le _, Nat.zero_le _⟩ rfl rfl (Nat.le_of_ble_eq_true rfl) dS_says_2 ?_
  refine G.astore_nN F dS_says_5 rfl (by decide) rfl ?_
  refine G.iload_n 3 F dS_says_6 rfl rfl ?_
  refine G.tabOut 47 F dS_says_7 hw rfl ?_
  exact G.throwS F htab hl tw_says_47 dS_says_47 dS_says_50 dS_says_51 dS_says_53 dS_says_56 ⟨by decide, Nat.le_of_ble_eq_true rfl, by decide, by decide⟩

set_option maxRecDepth 100000 in
set_option maxHeartbeats 4000000 in
theorem kx_advance_x (l : Launch) (hl : l.stackTraces = false) (D : va_G) (K : Nat → ClassId) (base : Nat) (X : Nat → Nat)  (c : CS) (hI : Inv c) (hb : ¬ c 22 0 = 0) : CtX l D K base yS_advance cS_advance 1 (some .boolean) (rmX 1) [.ref (X 0)] (cW X K c) "java/lang/UnsupportedOperationException" := by
  refine CtX.enter (by decide) (Nat.le_of_ble_eq_true rfl) ⟨rfl, rfl⟩ ?_
  intro κ F htab
  show G κ l (rmX 1) (va_A (cW X K c) κ.2.2.1.heap.size) (Qx κ D (cW X K c) "java/lang/UnsupportedOperationException") D 1 0 0 (cW X K c) 0 [(0, .ref (X 0))] []
  refine G.aload_n 0 F dS_advance_0 rfl rfl ?_
  refine G.gX 0 F (by decide) flS_9 rfl dS_advance_1 ?_
  refine G.if_eq 17 F dS_advance_4 rfl (fun h9 => absurd h9 hb) (fun _ => ?_)
  exact G.throwS F htab hl tw_advance_7 dS_advance_7 dS_advance_10 dS_advance_11 dS_advance_13 dS_advance_16 ⟨by decide, Nat.le_of_ble_eq_true rfl, by decide, by decide⟩

set_option maxRecDepth 100000 in
set_option maxHeartbeats 4000000 in
theorem kx_scan_x (l : Launch) (hl : l.stackTraces = false) (D : va_G) (K : Nat → ClassId) (base : Nat) (X : Nat → Nat) (v : Int32) (c : CS) (hI : Inv c) (hv : v < 0 ∨ ¬ v < 4) : CtX l D K base yS_scan cS_scan 3 (some .int) (rmX 1) [.ref (X 0), .int v] (cW X K c) "java/lang/IndexOutOfBoundsException" := by
  refine CtX.enter (by decide) (Nat.le_of_ble_eq_true rfl) ⟨rfl, rfl⟩ ?_
  intro κ F htab
  show G κ l (rmX 1) (va_A (cW X K c) κ.2.2.1.heap.size) (Qx κ D (cW X K c) "java/lang/IndexOutOfBoundsException") D 3 0 0 (cW X K c) 0 [(0, .ref (X 0)), (1, .int v)] []
  refine G.aload_n 0 F dS_scan_0 rfl rfl ?_
  refine G.iload_n 1 F dS_scan_1 rfl rfl ?_
  exact G.callXo F htab (kx_workerOf l hl D K base X v c hI hv) ckS_29 cmS_29 cW_x rfl rfl ⟨rfl, rfl⟩ ⟨by decide, by decide⟩ ⟨by decide, by decide⟩ rfl rfl (Nat.le_of_ble_eq_true rfl) dS_scan_2

set_option maxRecDepth 100000 in
set_option maxHeartbeats 4000000 in
theorem kx_scan_s (l : Launch) (hl : l.stackTraces = false) (D : va_G) (K : Nat → ClassId) (base : Nat) (X : Nat → Nat) (t : Nat) (ht : t < 4) (c : CS) (hI : Inv c) (hb : ¬ c 22 0 = 1) : CtX l D K base yS_scan cS_scan 3 (some .int) (rmX 1) [.ref (X 0), .int (nI t)] (cW X K c) "java/lang/UnsupportedOperationException" := by
  refine CtX.enter (by decide) (Nat.le_of_ble_eq_true rfl) ⟨rfl, rfl⟩ ?_
  intro κ F htab
  show G κ l (rmX 1) (va_A (cW X K c) κ.2.2.1.heap.size) (Qx κ D (cW X K c) "java/lang/UnsupportedOperationException") D 3 0 0 (cW X K c) 0 [(0, .ref (X 0)), (1, .int (nI t))] []
  refine G.aload_n 0 F dS_scan_0 rfl rfl ?_
  refine G.iload_n 1 F dS_scan_1 rfl rfl ?_
  refine G.callr F (k_workerOf l D K base X t ht c hI) ckS_29 cW_x rfl rfl ⟨rfl, rfl⟩ ⟨by decide, by decide⟩ ⟨Nat.zero_le _, Nat.zero_le _⟩ rfl rfl (Nat.le_of_ble_eq_true rfl) dS_scan_2 ?_
  refine G.astore_nN F dS_scan_5 rfl (by decide) rfl ?_
  refine G.aload_n 1 F dS_scan_6 rfl rfl ?_
  refine G.gX 0 F (by decide) flS_9 rfl dS_scan_7 ?_
  refine G.iconst 1 F dS_scan_10 (by decide) ?_
  refine G.icmp_eq 24 F dS_scan_11 rfl (fun h9 => absurd h9 hb) (fun _ => ?_)
  exact G.throwS F htab hl tw_scan_14 dS_scan_14 dS_scan_17 dS_scan_18 dS_scan_20 dS_scan_23 ⟨by decide, Nat.le_of_ble_eq_true rfl, by decide, by decide⟩

set_option maxRecDepth 100000 in
set_option maxHeartbeats 4000000 in
theorem kx_block_bl (l : Launch) (hl : l.stackTraces = false) (D : va_G) (K : Nat → ClassId) (base : Nat) (X : Nat → Nat) (v : Int32) (w : Int32) (c : CS) (hI : Inv c) (hv : v < 0) : CtX l D K base yS_block cS_block 3 (some .int) (rmX 1) [.ref (X 0), .int v, .int w] (cW X K c) "java/lang/IndexOutOfBoundsException" := by
  refine CtX.enter (by decide) (Nat.le_of_ble_eq_true rfl) ⟨rfl, rfl⟩ ?_
  intro κ F htab
  show G κ l (rmX 1) (va_A (cW X K c) κ.2.2.1.heap.size) (Qx κ D (cW X K c) "java/lang/IndexOutOfBoundsException") D 3 0 0 (cW X K c) 0 [(0, .ref (X 0)), (1, .int v), (2, .int w)] []
  refine G.iload_n 1 F dS_block_0 rfl rfl ?_
  refine G.if_lt 10 F dS_block_1 rfl (fun _ => ?_) (fun h9 => absurd hv h9)
  exact G.throwS F htab hl tw_block_10 dS_block_10 dS_block_13 dS_block_14 dS_block_16 dS_block_19 ⟨by decide, Nat.le_of_ble_eq_true rfl, by decide, by decide⟩

set_option maxRecDepth 100000 in
set_option maxHeartbeats 4000000 in
theorem kx_block_bh (l : Launch) (hl : l.stackTraces = false) (D : va_G) (K : Nat → ClassId) (base : Nat) (X : Nat → Nat) (v : Int32) (w : Int32) (c : CS) (hI : Inv c) (hv : ¬ v < 0) (hv2 : ¬ v ≤ 20) : CtX l D K base yS_block cS_block 3 (some .int) (rmX 1) [.ref (X 0), .int v, .int w] (cW X K c) "java/lang/IndexOutOfBoundsException" := by
  refine CtX.enter (by decide) (Nat.le_of_ble_eq_true rfl) ⟨rfl, rfl⟩ ?_
  intro κ F htab
  show G κ l (rmX 1) (va_A (cW X K c) κ.2.2.1.heap.size) (Qx κ D (cW X K c) "java/lang/IndexOutOfBoundsException") D 3 0 0 (cW X K c) 0 [(0, .ref (X 0)), (1, .int v), (2, .int w)] []
  refine G.iload_n 1 F dS_block_0 rfl rfl ?_
  refine G.if_lt 10 F dS_block_1 rfl (fun h9 => absurd h9 hv) (fun _ => ?_)
  refine G.iload_n 1 F dS_block_4 rfl rfl ?_
  refine G.bipush 20 F dS_block_5 (by decide) ?_
  refine G.icmp_le 20 F dS_block_7 rfl (fun h9 => absurd h9 hv2) (fun _ => ?_)
  exact G.throwS F htab hl tw_block_10 dS_block_10 dS_block_13 dS_block_14 dS_block_16 dS_block_19 ⟨by decide, Nat.le_of_ble_eq_true rfl, by decide, by decide⟩

set_option maxRecDepth 100000 in
set_option maxHeartbeats 4000000 in
theorem kx_block_wl (l : Launch) (hl : l.stackTraces = false) (D : va_G) (K : Nat → ClassId) (base : Nat) (X : Nat → Nat) (v : Int32) (w : Int32) (c : CS) (hI : Inv c) (hv : ¬ v < 0) (hv2 : v ≤ 20) (hw : w < 0) : CtX l D K base yS_block cS_block 3 (some .int) (rmX 1) [.ref (X 0), .int v, .int w] (cW X K c) "java/lang/IndexOutOfBoundsException" := by
  refine CtX.enter (by decide) (Nat.le_of_ble_eq_true rfl) ⟨rfl, rfl⟩ ?_
  intro κ F htab
  show G κ l (rmX 1) (va_A (cW X K c) κ.2.2.1.heap.size) (Qx κ D (cW X K c) "java/lang/IndexOutOfBoundsException") D 3 0 0 (cW X K c) 0 [(0, .ref (X 0)), (1, .int v), (2, .int w)] []
  refine G.iload_n 1 F dS_block_0 rfl rfl ?_
  refine G.if_lt 10 F dS_block_1 rfl (fun h9 => absurd h9 hv) (fun _ => ?_)
  refine G.iload_n 1 F dS_block_4 rfl rfl ?_
  refine G.bipush 20 F dS_block_5 (by decide) ?_
  refine G.icmp_le 20 F dS_block_7 rfl (fun _ => ?_) (fun h9 => absurd hv2 h9)
  refine G.iload_n 2 F dS_block_20 rfl rfl ?_
  refine G.if_lt 29 F dS_block_21 rfl (fun _ => ?_) (fun h9 => absurd hw h9)
  exact G.throwS F htab hl tw_block_29 dS_block_29 dS_block_32 dS_block_33 dS_block_35 dS_block_38 ⟨by decide, Nat.le_of_ble_eq_true rfl, by decide, by decide⟩

set_option maxRecDepth 100000 in
set_option maxHeartbeats 4000000 in
theorem kx_block_wh (l : Launch) (hl : l.stackTraces = false) (D : va_G) (K : Nat → ClassId) (base : Nat) (X : Nat → Nat) (v : Int32) (w : Int32) (c : CS) (hI : Inv c) (hv : ¬ v < 0) (hv2 : v ≤ 20) (hw : ¬ w < 0) (hw2 : ¬ w ≤ 5) : CtX l D K base yS_block cS_block 3 (some .int) (rmX 1) [.ref (X 0), .int v, .int w] (cW X K c) "java/lang/IndexOutOfBoundsException" := by
  refine CtX.enter (by decide) (Nat.le_of_ble_eq_true rfl) ⟨rfl, rfl⟩ ?_
  intro κ F htab
  show G κ l (rmX 1) (va_A (cW X K c) κ.2.2.1.heap.size) (Qx κ D (cW X K c) "java/lang/IndexOutOfBoundsException") D 3 0 0 (cW X K c) 0 [(0, .ref (X 0)), (1, .int v), (2, .int w)] []
  refine G.iload_n 1 F dS_block_0 rfl rfl ?_
  refine G.if_lt 10 F dS_block_1 rfl (fun h9 => absurd h9 hv) (fun _ => ?_)
  refine G.iload_n 1 F dS_block_4 rfl rfl ?_
  refine G.bipush 20 F dS_block_5 (by decide) ?_
  refine G.icmp_le 20 F dS_block_7 rfl (fun _ => ?_) (fun h9 => absurd hv2 h9)
  refine G.iload_n 2 F dS_block_20 rfl rfl ?_
  refine G.if_lt 29 F dS_block_21 rfl (fun h9 => absurd h9 hw) (fun _ => ?_)
  refine G.iload_n 2 F dS_block_24 rfl rfl ?_
  refine G.iconst 5 F dS_block_25 (by decide) ?_
  refine G.icmp_le 39 F dS_block_26 rfl (fun h9 => absurd h9 hw2) (fun _ => ?_)
  exact G.throwS F htab hl tw_block_29 dS_block_29 dS_block_32 dS_block_33 dS_block_35 dS_block_38 ⟨by decide, Nat.le_of_ble_eq_true rfl, by decide, by decide⟩

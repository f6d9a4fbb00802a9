def STl : List (String × Nat × String) := [("SteppedList", 142, "no such thread"), ("SteppedList", 35, "no such operation"), ("SteppedList", 40, "no such key"), ("SteppedList", 47, "the thread is not idle"), ("SteppedList", 144, "the thread is idle"), ("SteppedList", 71, "no operation ended yet"), ("SteppedList", 88, "no such thing is known"), ("SteppedList", 100, "no such thing is said"), ("SteppedList", 104, "epochs are for scheme 0"), ("SteppedList", 117, "scans are for scheme 1"), ("SteppedList", 123, "no such block"), ("SteppedList", 125, "nothing such of a block")]
def NCl : List (String × String) := [("java/lang/IllegalArgumentException", "java/lang/IndexOutOfBoundsException"), ("java/lang/IllegalStateException", "java/lang/IndexOutOfBoundsException"), ("java/util/NoSuchElementException", "java/lang/IndexOutOfBoundsException"), ("java/lang/UnsupportedOperationException", "java/lang/IndexOutOfBoundsException"), ("java/lang/IndexOutOfBoundsException", "java/lang/IllegalArgumentException"), ("java/lang/IllegalStateException", "java/lang/IllegalArgumentException"), ("java/util/NoSuchElementException", "java/lang/IllegalArgumentException"), ("java/lang/UnsupportedOperationException", "java/lang/IllegalArgumentException"), ("java/lang/IndexOutOfBoundsException", "java/lang/IllegalStateException"), ("java/lang/IllegalArgumentException", "java/lang/IllegalStateException"), ("java/util/NoSuchElementException", "java/lang/IllegalStateException"), ("java/lang/UnsupportedOperationException", "java/lang/IllegalStateException"), ("java/lang/IndexOutOfBoundsException", "java/util/NoSuchElementException"), ("java/lang/IllegalArgumentException", "java/util/NoSuchElementException"), ("java/lang/IllegalStateException", "java/util/NoSuchElementException"), ("java/lang/UnsupportedOperationException", "java/util/NoSuchElementException"), ("java/lang/IndexOutOfBoundsException", "java/lang/UnsupportedOperationException"), ("java/lang/IllegalArgumentException", "java/lang/UnsupportedOperationException"), ("java/lang/IllegalStateException", "java/lang/UnsupportedOperationException"), ("java/util/NoSuchElementException", "java/lang/UnsupportedOperationException")]
-- ===== classes, array classes, words =====
abbrev cl4 : List vw_C := [(RS, TS, 5), (RB, TB, 6), (RK, TK, 16), (RM, TM, 24)]
abbrev TY (K : Nat → ClassId) : List (ClassId × FieldType) := [(K 0, .object RB), (K 1, .object RK), (K 2, .int), (K 3, .boolean), (K 4, .long)]
/-- the tables' words that stay good however warm the tables get -/
def WSg : List Cond := lw_tbl.filter goodWord
theorem WSg_good {w : Cond} (h : w ∈ WSg) : (w.onTables && w.keeps) = true ∨ ∃ ty, w = .arrayClass ty := good_of_word (List.mem_filter.mp h).2
theorem WSg_in {w : Cond} (h : w ∈ lw_tbl) (hg : goodWord w = true) : w ∈ WSg := List.mem_filter.mpr ⟨h, hg⟩
/-- words of links inside the nest -/
def nestW : Cond → Bool
  | .fieldLinkNest .. => true
  | .methodLinkNest .. => true
  | .castable .. => true
  | .declares .. => true
  | _ => false
def NWl : List Cond := lw_tbl.filter nestW
theorem NWl_in {w : Cond} (h : w ∈ lw_tbl) (hg : nestW w = true) : w ∈ NWl := List.mem_filter.mpr ⟨h, hg⟩
theorem nest_tab {w : Cond} (h : nestW w = true) : w.onTables = true := by
  cases w <;> first | rfl | (exact absurd h (by decide)) | (simp [nestW] at h)
theorem nest_warm {w : Cond} {s U : State} (h : nestW w = true) (hW : s.WarmedH U.vm) (hZ : va_Nw w s) : va_Nw w U := by
  cases w <;> first | exact va_Nw.warmF hW hZ | exact va_Nw.warmM hW hZ | exact va_Nw.warmC hW hZ | exact va_Nw.warmD hW hZ | (simp [nestW] at h)
/-- what of the start stands all the time: classes, links of the nest, texts, where Throwable's statics lie -/
def EV (D : va_G) (K : Nat → ClassId) (base : Nat) (U : State) : Prop :=
  va_K D cl4 (TY K) U ∧ (∀ w ∈ NWl, va_Nw w U) ∧ (∀ q ∈ STl, ∃ sa, vk_R q.1 q.2.1 q.2.2 sa U) ∧ (∀ q ∈ NCl, va_Nc q.1 q.2 U) ∧
  vx_Zq Bundle.tN "UNASSIGNED_STACK" Bundle.steD (fun q => base ≤ q) U U.heap ∧ vx_Zq Bundle.tN "SUPPRESSED_SENTINEL" Bundle.listD (fun q => base ≤ q) U U.heap ∧ va_AO RB U ∧ va_AO RK U
theorem EV.warm {D : va_G} {K : Nat → ClassId} {base : Nat} {s U : State} (h : EV D K base s) (hW : s.WarmedH U.vm) (hh : ∀ q : Nat, q < s.heap.size → q < base → U.heap[q]? = s.heap[q]?) : EV D K base U := by
  obtain ⟨h1, h2, h3, h4, h5, h6, h7, h8⟩ := h
  have hk : ∀ a : Nat, a < s.heap.size → ¬ base ≤ a → U.heap[a]? = s.heap[a]? := fun a h1 h2 => hh a h1 (Nat.lt_of_not_le h2)
  refine ⟨va_K.moved hW.alike h1, fun w hw => nest_warm (List.mem_filter.mp hw).2 hW (h2 w hw), fun q hq => ?_, fun q hq => va_Nc.moved hW.alike (h4 q hq), vx_Zq.moved hW.alike (h5.kept hk), vx_Zq.moved hW.alike (h6.kept hk), va_AO.moved hW.alike h7, va_AO.moved hW.alike h8⟩
  obtain ⟨sa, hsa⟩ := h3 q hq
  exact ⟨sa, vk_R.warm hW hsa⟩
/-- a field's link in a class's pool -/
def FL (own : String) (idx : Nat) (C n d : String) : Prop := Cond.fieldLink own idx C n d ∈ WSg ∨ ∃ host, Cond.fieldLinkNest own idx C n d host ∈ NWl
theorem inTS : ∀ w ∈ u_ws RS TS 5, w ∈ WSg := by decide +kernel
theorem inTB : ∀ w ∈ u_ws RB TB 6, w ∈ WSg := by decide +kernel
theorem inTK : ∀ w ∈ u_ws RK TK 16, w ∈ WSg := by decide +kernel
theorem inTM : ∀ w ∈ u_ws RM TM 24, w ∈ WSg := by decide +kernel

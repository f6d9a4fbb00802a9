-- ===== the compact judgement: a method's walk over a world =====
abbrev KM : Type := Program × Env × State × MethodId × Array Value × List Frame × Method × Code
def G (κ : KM) (l : Launch) (R : Room) (A : Nat → Prop) (Q : State → Prop) (D : va_G) (nL cells slots : Nat) (σ : va_W) (pc : Nat) (L : List (Nat × Value)) (S : List Value) : Prop :=
  ∀ (H : Heap) (locs : List Loc) (ls : Array Slot), va_P D cl4 σ H → va_D A σ → va_S A κ.2.2.1.heap H locs → lv_has ls nL L →
    W κ.1 l κ.2.1 R κ.2.2.1 κ.2.2.2.1 κ.2.2.2.2.1 κ.2.2.2.2.2.1 κ.2.2.2.2.2.2.1 κ.2.2.2.2.2.2.2 H locs cells slots Q (F0 κ.2.2.2.1 pc ls S)
/-- what stands fixed over a walk -/
def Fx (κ : KM) (A : Nat → Prop) (D : va_G) (K : Nat → ClassId) (base : Nat) (cc : ByteArray) (own : String) (nL : Nat) : Prop :=
  κ.1.tables.exec = Jvm.exec ∧ κ.2.2.2.2.2.2.2.code = cc ∧ κ.2.2.2.2.2.2.2.maxLocals = nL ∧ κ.2.2.1.vm.findClass own = some κ.2.2.2.1.cls ∧ (∀ w ∈ WSg, w.before κ.2.2.2.2.1 κ.2.2.1 = true) ∧ EV D K base κ.2.2.1 ∧ (∀ q, A q → base ≤ q) ∧ (∀ q, κ.2.2.1.heap.size ≤ q → A q) ∧ κ.2.2.2.2.2.2.1.locks = false ∧ base ≤ κ.2.2.1.heap.size
section GR
variable {κ : KM} {l : Launch} {R : Room} {A : Nat → Prop} {Q : State → Prop} {D : va_G} {K : Nat → ClassId} {base : Nat} {cc : ByteArray} {own : String} {nL cells slots pc : Nat} {σ : va_W} {L : List (Nat × Value)} {S : List Value}
theorem Fx.ex (F : Fx κ A D K base cc own nL) : κ.1.tables.exec = Jvm.exec := F.1
theorem Fx.hb (F : Fx κ A D K base cc own nL) : κ.2.2.2.2.2.2.2.code = cc := F.2.1
theorem Fx.ml (F : Fx κ A D K base cc own nL) : κ.2.2.2.2.2.2.2.maxLocals = nL := F.2.2.1
theorem Fx.ow (F : Fx κ A D K base cc own nL) : κ.2.2.1.vm.findClass own = some κ.2.2.2.1.cls := F.2.2.2.1
theorem Fx.ts (F : Fx κ A D K base cc own nL) : ∀ w ∈ WSg, w.before κ.2.2.2.2.1 κ.2.2.1 = true := F.2.2.2.2.1
theorem Fx.ev (F : Fx κ A D K base cc own nL) : EV D K base κ.2.2.1 := F.2.2.2.2.2.1
theorem Fx.ab (F : Fx κ A D K base cc own nL) : ∀ q, A q → base ≤ q := F.2.2.2.2.2.2.1
theorem Fx.an (F : Fx κ A D K base cc own nL) : ∀ q, κ.2.2.1.heap.size ≤ q → A q := F.2.2.2.2.2.2.2.1
theorem Fx.lk (F : Fx κ A D K base cc own nL) : κ.2.2.2.2.2.2.1.locks = false := F.2.2.2.2.2.2.2.2.1
theorem Fx.bs (F : Fx κ A D K base cc own nL) : base ≤ κ.2.2.1.heap.size := F.2.2.2.2.2.2.2.2.2

theorem G.iconst {n : Int} (v : Int32) (F : Fx κ A D K base cc own nL) (hd : decode cc pc = .ok (.iconst n, 1)) (hv : Int32.ofInt n = v) (kk : G κ l R A Q D nL cells slots σ (pc + 1) L (.int v :: S)) : G κ l R A Q D nL cells slots σ (pc) L (S) :=
  fun H locs ls hP hD hS hl => lv_iconst F.ex F.hb hd hv (kk H locs ls hP hD hS hl)
theorem G.bipush {n : Int} (v : Int32) (F : Fx κ A D K base cc own nL) (hd : decode cc pc = .ok (.bipush n, 2)) (hv : (Int8.ofInt n).toInt32 = v) (kk : G κ l R A Q D nL cells slots σ (pc + 2) L (.int v :: S)) : G κ l R A Q D nL cells slots σ (pc) L (S) :=
  fun H locs ls hP hD hS hl => lv_bipush F.ex F.hb hd hv (kk H locs ls hP hD hS hl)
theorem G.sipush {n : Int} (v : Int32) (F : Fx κ A D K base cc own nL) (hd : decode cc pc = .ok (.sipush n, 3)) (hv : (Int16.ofInt n).toInt32 = v) (kk : G κ l R A Q D nL cells slots σ (pc + 3) L (.int v :: S)) : G κ l R A Q D nL cells slots σ (pc) L (S) :=
  fun H locs ls hP hD hS hl => lv_sipush F.ex F.hb hd hv (kk H locs ls hP hD hS hl)
theorem G.lconst {n : Fin 2} (v : Int64) (F : Fx κ A D K base cc own nL) (hd : decode cc pc = .ok (.lconst n, 1)) (hv : Int64.ofNat (n : Nat) = v) (kk : G κ l R A Q D nL cells slots σ (pc + 1) L (.long v :: S)) : G κ l R A Q D nL cells slots σ (pc) L (S) :=
  fun H locs ls hP hD hS hl => lv_lconst F.ex F.hb hd hv (kk H locs ls hP hD hS hl)
theorem G.iload_n {k : Fin 4} {i : Nat} {x : Int32} (q : Nat) (F : Fx κ A D K base cc own nL) (hd : decode cc pc = .ok (.iload_n k, 1)) (hi : (k : Nat) = i) (hq : L[q]? = some (i, .int x)) (kk : G κ l R A Q D nL cells slots σ (pc + 1) L (.int x :: S)) : G κ l R A Q D nL cells slots σ (pc) L (S) :=
  fun H locs ls hP hD hS hl => lv_iload_n F.ex F.hb hd hi (lv_at hl q hq) (kk H locs ls hP hD hS hl)
theorem G.iload {i : Nat} {x : Int32} (q : Nat) (F : Fx κ A D K base cc own nL) (hd : decode cc pc = .ok (.iload i, 2)) (hq : L[q]? = some (i, .int x)) (kk : G κ l R A Q D nL cells slots σ (pc + 2) L (.int x :: S)) : G κ l R A Q D nL cells slots σ (pc) L (S) :=
  fun H locs ls hP hD hS hl => lv_iload F.ex F.hb hd (lv_at hl q hq) (kk H locs ls hP hD hS hl)
theorem G.aload_n {k : Fin 4} {i : Nat} {x : Nat} (q : Nat) (F : Fx κ A D K base cc own nL) (hd : decode cc pc = .ok (.aload_n k, 1)) (hi : (k : Nat) = i) (hq : L[q]? = some (i, .ref x)) (kk : G κ l R A Q D nL cells slots σ (pc + 1) L (.ref x :: S)) : G κ l R A Q D nL cells slots σ (pc) L (S) :=
  fun H locs ls hP hD hS hl => lv_aload_n F.ex F.hb hd hi (lv_at hl q hq) (kk H locs ls hP hD hS hl)
theorem G.aload {i : Nat} {x : Nat} (q : Nat) (F : Fx κ A D K base cc own nL) (hd : decode cc pc = .ok (.aload i, 2)) (hq : L[q]? = some (i, .ref x)) (kk : G κ l R A Q D nL cells slots σ (pc + 2) L (.ref x :: S)) : G κ l R A Q D nL cells slots σ (pc) L (S) :=
  fun H locs ls hP hD hS hl => lv_aload F.ex F.hb hd (lv_at hl q hq) (kk H locs ls hP hD hS hl)
theorem lv_set1 {ls : Array Slot} {nL : Nat} {L : List (Nat × Value)} {i q : Nat} {v w : Value} (hq : L[q]? = some (i, w)) (hn : (L.map (·.1)).Nodup) (h : lv_has ls nL ((i, v) :: L.filter (fun q => !(q.1 == i) && !(q.1 + 1 == i && q.2.category == 2)))) (h1 : ∀ z ∈ L, z.2.category = 1) : lv_has ls nL (L.set q (i, v)) := by
  refine ⟨h.1, h.2.1, fun z hz => ?_⟩
  refine h.2.2 z ?_
  obtain ⟨j, hj⟩ := List.getElem?_of_mem hz
  have hql := (List.getElem?_eq_some_iff.mp hq).1
  by_cases hjq : j = q
  · subst hjq
    rw [List.getElem?_set_self hql] at hj
    cases hj
    exact List.mem_cons_self
  · rw [List.getElem?_set_ne (Ne.symm hjq)] at hj
    refine List.mem_cons_of_mem _ (List.mem_filter.mpr ⟨List.mem_of_getElem? hj, ?_⟩)
    have hne : z.1 ≠ i := by
      intro e
      have a1 : (L.map (·.1))[j]? = some i := by rw [List.getElem?_map, hj]; simp [e]
      have a2 : (L.map (·.1))[q]? = some i := by rw [List.getElem?_map, hq]; rfl
      have hjl : j < (L.map (·.1)).length := (List.getElem?_eq_some_iff.mp a1).1
      exact hjq ((List.getElem?_inj hjl hn).mp (a1.trans a2.symm))
    have hc := h1 z (List.mem_of_getElem? hj)
    simp [hne, hc]
theorem lv_new1 {ls : Array Slot} {nL : Nat} {L : List (Nat × Value)} {i : Nat} {v : Value} (hn : ∀ z ∈ L, z.1 ≠ i) (h : lv_has ls nL ((i, v) :: L.filter (fun q => !(q.1 == i) && !(q.1 + 1 == i && q.2.category == 2)))) (h1 : ∀ z ∈ L, z.2.category = 1) : lv_has ls nL ((i, v) :: L) := by
  refine ⟨h.1, h.2.1, fun z hz => h.2.2 z ?_⟩
  rcases List.mem_cons.mp hz with rfl | hz
  · exact List.mem_cons_self
  · refine List.mem_cons_of_mem _ (List.mem_filter.mpr ⟨hz, ?_⟩)
    simp [hn z hz, h1 z hz]
/-- locals' places are apart and hold one word each -/
def okL (L : List (Nat × Value)) : Prop := (L.map (·.1)).Nodup ∧ ∀ z ∈ L, z.2.category = 1
def okB : List (Nat × Value) → Bool
  | [] => true
  | z :: L => !(L.any (fun y => y.1 == z.1)) && okB L && (z.2.category == 1)
theorem okB_ok : ∀ {L : List (Nat × Value)}, okB L = true → okL L
  | [], _ => ⟨List.nodup_nil, fun _ h => by cases h⟩
  | z :: L, h => by
    simp only [okB, Bool.and_eq_true, Bool.not_eq_true', List.any_eq_false, beq_iff_eq] at h
    obtain ⟨⟨h1, h2⟩, h3⟩ := h
    obtain ⟨g1, g2⟩ := okB_ok h2
    refine ⟨?_, fun y hy => ?_⟩
    · rw [List.map_cons, List.nodup_cons]
      refine ⟨fun hm => ?_, g1⟩
      obtain ⟨y, hy, e⟩ := List.mem_map.mp hm
      exact h1 y hy e
    · rcases List.mem_cons.mp hy with rfl | hy
      · exact h3
      · exact g2 y hy

theorem G.istore_n {k : Fin 4} {i : Nat} {x : Int32} {w : Value} (q : Nat) (F : Fx κ A D K base cc own nL) (hd : decode cc pc = .ok (.istore_n k, 1)) (hi : (k : Nat) = i) (hq : L[q]? = some (i, w)) (hn : i < nL) (hk : okB L = true) (kk : G κ l R A Q D nL cells slots σ (pc + 1) (L.set q (i, .int x)) (S)) : G κ l R A Q D nL cells slots σ (pc) L (.int x :: S) :=
  fun H locs ls hP hD hS hl => lv_istore_n F.ex F.hb hd hi hl hn rfl (fun ls9 h9 => kk H locs ls9 hP hD hS (lv_set1 hq (okB_ok hk).1 h9 (okB_ok hk).2))
theorem G.istore_nN {k : Fin 4} {i : Nat} {x : Int32} (F : Fx κ A D K base cc own nL) (hd : decode cc pc = .ok (.istore_n k, 1)) (hi : (k : Nat) = i) (hn : i < nL) (hk : okB ((i, .int x) :: L) = true) (kk : G κ l R A Q D nL cells slots σ (pc + 1) ((i, .int x) :: L) (S)) : G κ l R A Q D nL cells slots σ (pc) L (.int x :: S) :=
  fun H locs ls hP hD hS hl => lv_istore_n F.ex F.hb hd hi hl hn rfl (fun ls9 h9 => kk H locs ls9 hP hD hS (lv_new1 (fun z hz e => by have := (List.nodup_cons.mp (okB_ok hk).1).1; exact this (List.mem_map.mpr ⟨z, hz, e⟩)) h9 (fun z hz => (okB_ok hk).2 z (List.mem_cons_of_mem _ hz))))
theorem G.istore {i : Nat} {x : Int32} {w : Value} (q : Nat) (F : Fx κ A D K base cc own nL) (hd : decode cc pc = .ok (.istore i, 2)) (hq : L[q]? = some (i, w)) (hn : i < nL) (hk : okB L = true) (kk : G κ l R A Q D nL cells slots σ (pc + 2) (L.set q (i, .int x)) (S)) : G κ l R A Q D nL cells slots σ (pc) L (.int x :: S) :=
  fun H locs ls hP hD hS hl => lv_istore F.ex F.hb hd hl hn rfl (fun ls9 h9 => kk H locs ls9 hP hD hS (lv_set1 hq (okB_ok hk).1 h9 (okB_ok hk).2))
theorem G.istoreN {i : Nat} {x : Int32} (F : Fx κ A D K base cc own nL) (hd : decode cc pc = .ok (.istore i, 2)) (hn : i < nL) (hk : okB ((i, .int x) :: L) = true) (kk : G κ l R A Q D nL cells slots σ (pc + 2) ((i, .int x) :: L) (S)) : G κ l R A Q D nL cells slots σ (pc) L (.int x :: S) :=
  fun H locs ls hP hD hS hl => lv_istore F.ex F.hb hd hl hn rfl (fun ls9 h9 => kk H locs ls9 hP hD hS (lv_new1 (fun z hz e => by have := (List.nodup_cons.mp (okB_ok hk).1).1; exact this (List.mem_map.mpr ⟨z, hz, e⟩)) h9 (fun z hz => (okB_ok hk).2 z (List.mem_cons_of_mem _ hz))))
theorem G.astore_n {k : Fin 4} {i : Nat} {x : Nat} {w : Value} (q : Nat) (F : Fx κ A D K base cc own nL) (hd : decode cc pc = .ok (.astore_n k, 1)) (hi : (k : Nat) = i) (hq : L[q]? = some (i, w)) (hn : i < nL) (hk : okB L = true) (kk : G κ l R A Q D nL cells slots σ (pc + 1) (L.set q (i, .ref x)) (S)) : G κ l R A Q D nL cells slots σ (pc) L (.ref x :: S) :=
  fun H locs ls hP hD hS hl => lv_astore_n F.ex F.hb hd hi hl hn rfl (fun ls9 h9 => kk H locs ls9 hP hD hS (lv_set1 hq (okB_ok hk).1 h9 (okB_ok hk).2))
theorem G.astore_nN {k : Fin 4} {i : Nat} {x : Nat} (F : Fx κ A D K base cc own nL) (hd : decode cc pc = .ok (.astore_n k, 1)) (hi : (k : Nat) = i) (hn : i < nL) (hk : okB ((i, .ref x) :: L) = true) (kk : G κ l R A Q D nL cells slots σ (pc + 1) ((i, .ref x) :: L) (S)) : G κ l R A Q D nL cells slots σ (pc) L (.ref x :: S) :=
  fun H locs ls hP hD hS hl => lv_astore_n F.ex F.hb hd hi hl hn rfl (fun ls9 h9 => kk H locs ls9 hP hD hS (lv_new1 (fun z hz e => by have := (List.nodup_cons.mp (okB_ok hk).1).1; exact this (List.mem_map.mpr ⟨z, hz, e⟩)) h9 (fun z hz => (okB_ok hk).2 z (List.mem_cons_of_mem _ hz))))
theorem G.astore {i : Nat} {x : Nat} {w : Value} (q : Nat) (F : Fx κ A D K base cc own nL) (hd : decode cc pc = .ok (.astore i, 2)) (hq : L[q]? = some (i, w)) (hn : i < nL) (hk : okB L = true) (kk : G κ l R A Q D nL cells slots σ (pc + 2) (L.set q (i, .ref x)) (S)) : G κ l R A Q D nL cells slots σ (pc) L (.ref x :: S) :=
  fun H locs ls hP hD hS hl => lv_astore F.ex F.hb hd hl hn rfl (fun ls9 h9 => kk H locs ls9 hP hD hS (lv_set1 hq (okB_ok hk).1 h9 (okB_ok hk).2))
theorem G.astoreN {i : Nat} {x : Nat} (F : Fx κ A D K base cc own nL) (hd : decode cc pc = .ok (.astore i, 2)) (hn : i < nL) (hk : okB ((i, .ref x) :: L) = true) (kk : G κ l R A Q D nL cells slots σ (pc + 2) ((i, .ref x) :: L) (S)) : G κ l R A Q D nL cells slots σ (pc) L (.ref x :: S) :=
  fun H locs ls hP hD hS hl => lv_astore F.ex F.hb hd hl hn rfl (fun ls9 h9 => kk H locs ls9 hP hD hS (lv_new1 (fun z hz e => by have := (List.nodup_cons.mp (okB_ok hk).1).1; exact this (List.mem_map.mpr ⟨z, hz, e⟩)) h9 (fun z hz => (okB_ok hk).2 z (List.mem_cons_of_mem _ hz))))
theorem G.iinc {i : Nat} {n : Int} {x : Int32} (q : Nat) (v : Int32) (F : Fx κ A D K base cc own nL) (hd : decode cc pc = .ok (.iinc i n, 3)) (hq : L[q]? = some (i, .int x)) (hv : x + Int32.ofInt n = v) (hn : i < nL) (hk : okB L = true) (kk : G κ l R A Q D nL cells slots σ (pc + 3) (L.set q (i, .int v)) (S)) : G κ l R A Q D nL cells slots σ (pc) L (S) :=
  fun H locs ls hP hD hS hl => lv_iinc F.ex F.hb hd hl hq hv hn rfl (fun ls9 h9 => kk H locs ls9 hP hD hS (lv_set1 hq (okB_ok hk).1 h9 (okB_ok hk).2))
theorem G.iadd {x y : Int32} (F : Fx κ A D K base cc own nL) (hd : decode cc pc = .ok (.iadd, 1)) (kk : G κ l R A Q D nL cells slots σ (pc + 1) L (.int (x + y) :: S)) : G κ l R A Q D nL cells slots σ (pc) L (.int y :: .int x :: S) :=
  fun H locs ls hP hD hS hl => lv_iadd F.ex F.hb hd (kk H locs ls hP hD hS hl)
theorem G.isub {x y : Int32} (F : Fx κ A D K base cc own nL) (hd : decode cc pc = .ok (.isub, 1)) (kk : G κ l R A Q D nL cells slots σ (pc + 1) L (.int (x - y) :: S)) : G κ l R A Q D nL cells slots σ (pc) L (.int y :: .int x :: S) :=
  fun H locs ls hP hD hS hl => lv_isub F.ex F.hb hd (kk H locs ls hP hD hS hl)
theorem G.imul {x y : Int32} (F : Fx κ A D K base cc own nL) (hd : decode cc pc = .ok (.imul, 1)) (kk : G κ l R A Q D nL cells slots σ (pc + 1) L (.int (x * y) :: S)) : G κ l R A Q D nL cells slots σ (pc) L (.int y :: .int x :: S) :=
  fun H locs ls hP hD hS hl => lv_imul F.ex F.hb hd (kk H locs ls hP hD hS hl)
theorem G.iand {x y : Int32} (F : Fx κ A D K base cc own nL) (hd : decode cc pc = .ok (.iand, 1)) (kk : G κ l R A Q D nL cells slots σ (pc + 1) L (.int (x &&& y) :: S)) : G κ l R A Q D nL cells slots σ (pc) L (.int y :: .int x :: S) :=
  fun H locs ls hP hD hS hl => lv_iand F.ex F.hb hd (kk H locs ls hP hD hS hl)
theorem G.i2l {x : Int32} (F : Fx κ A D K base cc own nL) (hd : decode cc pc = .ok (.i2l, 1)) (kk : G κ l R A Q D nL cells slots σ (pc + 1) L (.long x.toInt64 :: S)) : G κ l R A Q D nL cells slots σ (pc) L (.int x :: S) :=
  fun H locs ls hP hD hS hl => lv_i2l F.ex F.hb hd rfl (kk H locs ls hP hD hS hl)
theorem G.lcmp {x y : Int64} (F : Fx κ A D K base cc own nL) (hd : decode cc pc = .ok (.lcmp, 1)) (kk : G κ l R A Q D nL cells slots σ (pc + 1) L (.int (lg_cmp x y) :: S)) : G κ l R A Q D nL cells slots σ (pc) L (.long y :: .long x :: S) :=
  fun H locs ls hP hD hS hl => W.lcmp F.ex F.hb hd (kk H locs ls hP hD hS hl)
theorem G.dup {a : Value} (F : Fx κ A D K base cc own nL) (hd : decode cc pc = .ok (.dup, 1)) (ha : a.category = 1) (kk : G κ l R A Q D nL cells slots σ (pc + 1) L (a :: a :: S)) : G κ l R A Q D nL cells slots σ (pc) L (a :: S) :=
  fun H locs ls hP hD hS hl => lv_dup F.ex F.hb hd ha (kk H locs ls hP hD hS hl)
theorem G.dup2 {a b : Value} (F : Fx κ A D K base cc own nL) (hd : decode cc pc = .ok (.dup2, 1)) (ha : a.category = 1) (hb : b.category = 1) (kk : G κ l R A Q D nL cells slots σ (pc + 1) L (a :: b :: a :: b :: S)) : G κ l R A Q D nL cells slots σ (pc) L (a :: b :: S) :=
  fun H locs ls hP hD hS hl => lv_dup2_11 F.ex F.hb hd ha hb (kk H locs ls hP hD hS hl)
theorem G.pop {a : Value} (F : Fx κ A D K base cc own nL) (hd : decode cc pc = .ok (.pop, 1)) (ha : a.category = 1) (kk : G κ l R A Q D nL cells slots σ (pc + 1) L (S)) : G κ l R A Q D nL cells slots σ (pc) L (a :: S) :=
  fun H locs ls hP hD hS hl => lv_pop F.ex F.hb hd ha (kk H locs ls hP hD hS hl)
theorem G.goto {off : Int} (tgt : Nat) (F : Fx κ A D K base cc own nL) (hd : decode cc pc = .ok (.goto off, 3)) (ht : (pc : Int) + off = (tgt : Int)) (kk : G κ l R A Q D nL cells slots σ (tgt) L (S)) : G κ l R A Q D nL cells slots σ (pc) L (S) :=
  fun H locs ls hP hD hS hl => lv_goto F.ex F.hb hd ht (kk H locs ls hP hD hS hl)
theorem G.icmp_eq {x y : Int32} {off : Int} (tgt : Nat) (F : Fx κ A D K base cc own nL) (hd : decode cc pc = .ok (.if_icmp .eq off, 3)) (ht : (pc : Int) + off = (tgt : Int)) (kt : x = y → G κ l R A Q D nL cells slots σ (tgt) L (S)) (kf : ¬ x = y → G κ l R A Q D nL cells slots σ (pc + 3) L (S)) : G κ l R A Q D nL cells slots σ (pc) L (.int y :: .int x :: S) :=
  fun H locs ls hP hD hS hl => lv_icmp_eq F.ex F.hb hd ht (fun h => kt h H locs ls hP hD hS hl) (fun h => kf h H locs ls hP hD hS hl)
theorem G.if_eq {x : Int32} {off : Int} (tgt : Nat) (F : Fx κ A D K base cc own nL) (hd : decode cc pc = .ok (.ifCond .eq off, 3)) (ht : (pc : Int) + off = (tgt : Int)) (kt : x = 0 → G κ l R A Q D nL cells slots σ (tgt) L (S)) (kf : ¬ x = 0 → G κ l R A Q D nL cells slots σ (pc + 3) L (S)) : G κ l R A Q D nL cells slots σ (pc) L (.int x :: S) :=
  fun H locs ls hP hD hS hl => lv_if_eq F.ex F.hb hd ht (fun h => kt h H locs ls hP hD hS hl) (fun h => kf h H locs ls hP hD hS hl)
theorem G.icmp_ne {x y : Int32} {off : Int} (tgt : Nat) (F : Fx κ A D K base cc own nL) (hd : decode cc pc = .ok (.if_icmp .ne off, 3)) (ht : (pc : Int) + off = (tgt : Int)) (kt : ¬ x = y → G κ l R A Q D nL cells slots σ (tgt) L (S)) (kf : x = y → G κ l R A Q D nL cells slots σ (pc + 3) L (S)) : G κ l R A Q D nL cells slots σ (pc) L (.int y :: .int x :: S) :=
  fun H locs ls hP hD hS hl => lv_icmp_ne F.ex F.hb hd ht (fun h => kt h H locs ls hP hD hS hl) (fun h => kf h H locs ls hP hD hS hl)
theorem G.if_ne {x : Int32} {off : Int} (tgt : Nat) (F : Fx κ A D K base cc own nL) (hd : decode cc pc = .ok (.ifCond .ne off, 3)) (ht : (pc : Int) + off = (tgt : Int)) (kt : ¬ x = 0 → G κ l R A Q D nL cells slots σ (tgt) L (S)) (kf : x = 0 → G κ l R A Q D nL cells slots σ (pc + 3) L (S)) : G κ l R A Q D nL cells slots σ (pc) L (.int x :: S) :=
  fun H locs ls hP hD hS hl => lv_if_ne F.ex F.hb hd ht (fun h => kt h H locs ls hP hD hS hl) (fun h => kf h H locs ls hP hD hS hl)
theorem G.icmp_lt {x y : Int32} {off : Int} (tgt : Nat) (F : Fx κ A D K base cc own nL) (hd : decode cc pc = .ok (.if_icmp .lt off, 3)) (ht : (pc : Int) + off = (tgt : Int)) (kt : x < y → G κ l R A Q D nL cells slots σ (tgt) L (S)) (kf : ¬ x < y → G κ l R A Q D nL cells slots σ (pc + 3) L (S)) : G κ l R A Q D nL cells slots σ (pc) L (.int y :: .int x :: S) :=
  fun H locs ls hP hD hS hl => lv_icmp_lt F.ex F.hb hd ht (fun h => kt h H locs ls hP hD hS hl) (fun h => kf h H locs ls hP hD hS hl)
theorem G.if_lt {x : Int32} {off : Int} (tgt : Nat) (F : Fx κ A D K base cc own nL) (hd : decode cc pc = .ok (.ifCond .lt off, 3)) (ht : (pc : Int) + off = (tgt : Int)) (kt : x < 0 → G κ l R A Q D nL cells slots σ (tgt) L (S)) (kf : ¬ x < 0 → G κ l R A Q D nL cells slots σ (pc + 3) L (S)) : G κ l R A Q D nL cells slots σ (pc) L (.int x :: S) :=
  fun H locs ls hP hD hS hl => lv_if_lt F.ex F.hb hd ht (fun h => kt h H locs ls hP hD hS hl) (fun h => kf h H locs ls hP hD hS hl)
theorem G.icmp_ge {x y : Int32} {off : Int} (tgt : Nat) (F : Fx κ A D K base cc own nL) (hd : decode cc pc = .ok (.if_icmp .ge off, 3)) (ht : (pc : Int) + off = (tgt : Int)) (kt : y ≤ x → G κ l R A Q D nL cells slots σ (tgt) L (S)) (kf : ¬ y ≤ x → G κ l R A Q D nL cells slots σ (pc + 3) L (S)) : G κ l R A Q D nL cells slots σ (pc) L (.int y :: .int x :: S) :=
  fun H locs ls hP hD hS hl => lv_icmp_ge F.ex F.hb hd ht (fun h => kt h H locs ls hP hD hS hl) (fun h => kf h H locs ls hP hD hS hl)
theorem G.if_ge {x : Int32} {off : Int} (tgt : Nat) (F : Fx κ A D K base cc own nL) (hd : decode cc pc = .ok (.ifCond .ge off, 3)) (ht : (pc : Int) + off = (tgt : Int)) (kt : 0 ≤ x → G κ l R A Q D nL cells slots σ (tgt) L (S)) (kf : ¬ 0 ≤ x → G κ l R A Q D nL cells slots σ (pc + 3) L (S)) : G κ l R A Q D nL cells slots σ (pc) L (.int x :: S) :=
  fun H locs ls hP hD hS hl => lv_if_ge F.ex F.hb hd ht (fun h => kt h H locs ls hP hD hS hl) (fun h => kf h H locs ls hP hD hS hl)
theorem G.icmp_gt {x y : Int32} {off : Int} (tgt : Nat) (F : Fx κ A D K base cc own nL) (hd : decode cc pc = .ok (.if_icmp .gt off, 3)) (ht : (pc : Int) + off = (tgt : Int)) (kt : y < x → G κ l R A Q D nL cells slots σ (tgt) L (S)) (kf : ¬ y < x → G κ l R A Q D nL cells slots σ (pc + 3) L (S)) : G κ l R A Q D nL cells slots σ (pc) L (.int y :: .int x :: S) :=
  fun H locs ls hP hD hS hl => lv_icmp_gt F.ex F.hb hd ht (fun h => kt h H locs ls hP hD hS hl) (fun h => kf h H locs ls hP hD hS hl)
theorem G.if_gt {x : Int32} {off : Int} (tgt : Nat) (F : Fx κ A D K base cc own nL) (hd : decode cc pc = .ok (.ifCond .gt off, 3)) (ht : (pc : Int) + off = (tgt : Int)) (kt : 0 < x → G κ l R A Q D nL cells slots σ (tgt) L (S)) (kf : ¬ 0 < x → G κ l R A Q D nL cells slots σ (pc + 3) L (S)) : G κ l R A Q D nL cells slots σ (pc) L (.int x :: S) :=
  fun H locs ls hP hD hS hl => lv_if_gt F.ex F.hb hd ht (fun h => kt h H locs ls hP hD hS hl) (fun h => kf h H locs ls hP hD hS hl)
theorem G.icmp_le {x y : Int32} {off : Int} (tgt : Nat) (F : Fx κ A D K base cc own nL) (hd : decode cc pc = .ok (.if_icmp .le off, 3)) (ht : (pc : Int) + off = (tgt : Int)) (kt : x ≤ y → G κ l R A Q D nL cells slots σ (tgt) L (S)) (kf : ¬ x ≤ y → G κ l R A Q D nL cells slots σ (pc + 3) L (S)) : G κ l R A Q D nL cells slots σ (pc) L (.int y :: .int x :: S) :=
  fun H locs ls hP hD hS hl => lv_icmp_le F.ex F.hb hd ht (fun h => kt h H locs ls hP hD hS hl) (fun h => kf h H locs ls hP hD hS hl)
theorem G.if_le {x : Int32} {off : Int} (tgt : Nat) (F : Fx κ A D K base cc own nL) (hd : decode cc pc = .ok (.ifCond .le off, 3)) (ht : (pc : Int) + off = (tgt : Int)) (kt : x ≤ 0 → G κ l R A Q D nL cells slots σ (tgt) L (S)) (kf : ¬ x ≤ 0 → G κ l R A Q D nL cells slots σ (pc + 3) L (S)) : G κ l R A Q D nL cells slots σ (pc) L (.int x :: S) :=
  fun H locs ls hP hD hS hl => lv_if_le F.ex F.hb hd ht (fun h => kt h H locs ls hP hD hS hl) (fun h => kf h H locs ls hP hD hS hl)
theorem G.tabIn {dflt lo hi : Int} {offs : Array Int} {len : Nat} {x : Int32} {off : Int} (tgt : Nat) (F : Fx κ A D K base cc own nL) (hd : decode cc pc = .ok (.tableswitch dflt lo hi offs, len)) (h1 : ¬ x.toInt < lo) (h2 : ¬ hi < x.toInt) (ho : offs[(x.toInt - lo).toNat]? = some off) (ht : (pc : Int) + off = (tgt : Int)) (kk : G κ l R A Q D nL cells slots σ (tgt) L (S)) : G κ l R A Q D nL cells slots σ (pc) L (.int x :: S) :=
  fun H locs ls hP hD hS hl => lv_tableIn F.ex F.hb hd h1 h2 ho ht (kk H locs ls hP hD hS hl)
theorem G.tabOut {dflt lo hi : Int} {offs : Array Int} {len : Nat} {x : Int32} (tgt : Nat) (F : Fx κ A D K base cc own nL) (hd : decode cc pc = .ok (.tableswitch dflt lo hi offs, len)) (h : x.toInt < lo ∨ hi < x.toInt) (ht : (pc : Int) + dflt = (tgt : Int)) (kk : G κ l R A Q D nL cells slots σ (tgt) L (S)) : G κ l R A Q D nL cells slots σ (pc) L (.int x :: S) :=
  fun H locs ls hP hD hS hl => lv_tableOut F.ex F.hb hd h ht (kk H locs ls hP hD hS hl)
theorem G.look {dflt : Int} {ps : Array (Int × Int)} {len : Nat} {x : Int32} {off : Int} (tgt : Nat) (F : Fx κ A D K base cc own nL) (hd : decode cc pc = .ok (.lookupswitch dflt ps, len)) (hp : (ps.toList.zip (ps.toList.drop 1)).all (fun (a, next) => a.1 < next.1) = true) (ho : Op.lookupswitch.offset ps.toList dflt x.toInt = off) (ht : (pc : Int) + off = (tgt : Int)) (kk : G κ l R A Q D nL cells slots σ (tgt) L (S)) : G κ l R A Q D nL cells slots σ (pc) L (.int x :: S) :=
  fun H locs ls hP hD hS hl => lv_lookup F.ex F.hb hd hp ho ht (kk H locs ls hP hD hS hl)
/-- the same state by another name -/
theorem G.st {σ' : va_W} (h : σ' = σ) (kk : G κ l R A Q D nL cells slots σ' pc L S) : G κ l R A Q D nL cells slots σ pc L S := h ▸ kk
theorem G.widen {k n : Nat} (h1 : cells ≤ k) (h2 : slots ≤ n) (kk : G κ l R A Q D nL k n σ pc L S) : G κ l R A Q D nL cells slots σ pc L S :=
  fun H locs ls hP hD hS hl => W.widen h1 h2 (kk H locs ls hP hD hS hl)
/-- fewer locals are known -/
theorem G.loc {L' : List (Nat × Value)} (h : ∀ z ∈ L', z ∈ L) (kk : G κ l R A Q D nL cells slots σ pc L' S) : G κ l R A Q D nL cells slots σ pc L S :=
  fun H locs ls hP hD hS hl => kk H locs ls hP hD hS ⟨hl.1, hl.2.1, fun q hq => hl.2.2 q (h q hq)⟩
theorem G.drop {z : Nat × Value} (kk : G κ l R A Q D nL cells slots σ pc L S) : G κ l R A Q D nL cells slots σ pc (z :: L) S := G.loc (fun y hy => List.mem_cons_of_mem _ hy) kk
/-- the number on top by another name -/
theorem G.tope {x : Int32} (y : Int32) (h : x = y) (kk : G κ l R A Q D nL cells slots σ pc L (.int y :: S)) : G κ l R A Q D nL cells slots σ pc L (.int x :: S) := h ▸ kk
end GR
-- ===== fields, arrays =====
section GF
variable {κ : KM} {l : Launch} {R : Room} {A : Nat → Prop} {Q : State → Prop} {D : va_G} {K : Nat → ClassId} {base : Nat} {cc : ByteArray} {own : String} {nL cells slots pc : Nat} {σ : va_W} {L : List (Nat × Value)} {S : List Value}
theorem G.getf {ci k N idx a : Nat} {C : String} {T : u_T} {fs : List Value} {v : Value} (q0 : Nat) (F : Fx κ A D K base cc own nL) (he : σ[q0]? = some (a, .inr (ci, fs))) (hc : cl4[ci]? = some (C, T, N)) (hin : ∀ w ∈ u_ws C T N, w ∈ WSg) (hk : k < N) (ho : (T k).1 = C) (hl : FL own idx C (T k).2.1 (T k).2.2.1) (hv : fs[k]? = some v) (hd : decode cc pc = .ok (.getfield idx, 3))
    (kk : G κ l R A Q D nL cells slots σ (pc + 3) L (v :: S)) : G κ l R A Q D nL cells slots σ pc L (.ref a :: S) := by
  intro H locs ls hP hD hS hl9
  rcases hl with hl | ⟨host, hl⟩
  · exact va_get F.ex F.hb F.ts hin F.ow F.ev.1 hP q0 he hc k hk (F.ts _ hl) (fun x hx => by rw [ho] at hx; exact hx) hv hd (kk H locs ls hP hD hS hl9)
  · exact va_getN F.ex F.hb F.ts hin F.ow F.ev.1 hP q0 he hc k hk (va_Nw.use rfl (F.ev.2.1 _ hl)) (fun x hx => by rw [ho] at hx; exact hx) hv hd (kk H locs ls hP hD hS hl9)
theorem G.putf {ci k N idx a : Nat} {C : String} {T : u_T} {fs : List Value} {v : Value} {ty : FieldType} {σ' : va_W} (ty0 : Nat → FieldType) (q0 : Nat) (F : Fx κ A D K base cc own nL) (hty : ∀ k, k < N → parseFieldDescriptor (T k).2.2.1 = some (ty0 k)) (hnm : ∀ a, a < N → ∀ b, b < N → a ≠ b → (T a).2.1 ≠ (T b).2.1) (he : σ[q0]? = some (a, .inr (ci, fs))) (hc : cl4[ci]? = some (C, T, N)) (hin : ∀ w ∈ u_ws C T N, w ∈ WSg) (hk : k < N) (ho : (T k).1 = C) (hl : FL own idx C (T k).2.1 (T k).2.2.1) (hfin : (T k).2.2.2 = false) (hd0 : ty0 k = ty) (hn : narrow ty v = v) (hfit : fits ty v = true) (hlen : k < fs.length) (hd : decode cc pc = .ok (.putfield idx, 3)) (hσ : σ.set q0 (a, .inr (ci, fs.set k v)) = σ')
    (kk : G κ l R A Q D nL cells slots σ' (pc + 3) L S) : G κ l R A Q D nL cells slots σ pc L (v :: .ref a :: S) := by
  intro H locs ls hP hD hS hl9
  have hd1 : parseFieldDescriptor (T k).2.2.1 = some ty := by rw [hty k hk, hd0]
  rcases hl with hl | ⟨host, hl⟩
  · refine va_put F.ex F.hb F.ts hin ty0 hty hnm F.ow F.ev.1 hP hD hS q0 he hc k hk (F.ts _ hl) (fun x hx => by rw [ho] at hx; exact hx) hfin hd1 hn hfit hlen hd (fun H1 locs1 hP1 hD1 hS1 => ?_)
    rw [hσ] at hP1 hD1
    exact kk H1 locs1 ls hP1 hD1 hS1 hl9
  · refine va_putN F.ex F.hb F.ts hin ty0 hty hnm F.ow F.ev.1 hP hD hS q0 he hc k hk (va_Nw.use rfl (F.ev.2.1 _ hl)) (fun x hx => by rw [ho] at hx; exact hx) hfin hd1 hn hfit hlen hd (fun H1 locs1 hP1 hD1 hS1 => ?_)
    rw [hσ] at hP1 hD1
    exact kk H1 locs1 ls hP1 hD1 hS1 hl9
variable {X : Nat → Nat} {c : CS}
theorem ix_lt {v : Int32} {n : Nat} (h : vp_in v n) : v.toNatClampNeg < n := Nat.not_le.mp fun q => h (Or.inr q)
theorem bF_at {k f : Nat} (h : f < 6) : (bF c k)[f]? = some (.int (c f k)) := by
  rcases (show f = 0 ∨ f = 1 ∨ f = 2 ∨ f = 3 ∨ f = 4 ∨ f = 5 by omega) with rfl | rfl | rfl | rfl | rfl | rfl <;> rfl
theorem wF_at {t f : Nat} (h : f < 16) : (wF c t)[f]? = some (.int (c (6 + f) t)) := by
  rcases (show f = 0 ∨ f = 1 ∨ f = 2 ∨ f = 3 ∨ f = 4 ∨ f = 5 ∨ f = 6 ∨ f = 7 ∨ f = 8 ∨ f = 9 ∨ f = 10 ∨ f = 11 ∨ f = 12 ∨ f = 13 ∨ f = 14 ∨ f = 15 by omega) with rfl | rfl | rfl | rfl | rfl | rfl | rfl | rfl | rfl | rfl | rfl | rfl | rfl | rfl | rfl | rfl <;> rfl
/-- a block's number -/
theorem G.gB {k idx : Nat} (f : Nat) (F : Fx κ A D K base cc own nL) (hk : k < 21) (hf : f < 6) (hl : FL own idx RB (TB f).2.1 (TB f).2.2.1) (hd : decode cc pc = .ok (.getfield idx, 3))
    (kk : G κ l R A Q D nL cells slots (cW X K c) (pc + 3) L (.int (c f k) :: S)) : G κ l R A Q D nL cells slots (cW X K c) pc L (.ref (X (2 + k)) :: S) :=
  G.getf (2 + k) F (cW_b hk) rfl inTB hf (owTB f hf) hl (bF_at hf) hd kk
theorem G.pB {k idx : Nat} {v : Int32} (f : Nat) (F : Fx κ A D K base cc own nL) (hk : k < 21) (hf : f < 6) (hl : FL own idx RB (TB f).2.1 (TB f).2.2.1) (hn : narrow (tyTB f) (.int v) = .int v) (hfit : fits (tyTB f) (.int v) = true) (hd : decode cc pc = .ok (.putfield idx, 3))
    (kk : G κ l R A Q D nL cells slots (cW X K (up2 c f k v)) (pc + 3) L S) : G κ l R A Q D nL cells slots (cW X K c) pc L (.int v :: .ref (X (2 + k)) :: S) :=
  G.putf tyTB (2 + k) F tyTB_ok nmTB (cW_b hk) rfl inTB hf (owTB f hf) hl (fiTB f hf) rfl hn hfit hf hd (cW_setb hk hf) kk
/-- a worker's number -/
theorem G.gT {t idx : Nat} (f g : Nat) (F : Fx κ A D K base cc own nL) (hg : 6 + f = g) (ht : t < 4) (hf : f < 16) (hl : FL own idx RK (TK f).2.1 (TK f).2.2.1) (hd : decode cc pc = .ok (.getfield idx, 3))
    (kk : G κ l R A Q D nL cells slots (cW X K c) (pc + 3) L (.int (c g t) :: S)) : G κ l R A Q D nL cells slots (cW X K c) pc L (.ref (X (24 + t)) :: S) := by
  subst hg
  exact G.getf (24 + t) F (cW_t ht) rfl inTK hf (owTK f hf) hl (wF_at hf) hd kk
theorem G.pT {t idx : Nat} {v : Int32} (f g : Nat) (F : Fx κ A D K base cc own nL) (hg : 6 + f = g) (ht : t < 4) (hf : f < 16) (hf0 : 0 < f) (hl : FL own idx RK (TK f).2.1 (TK f).2.2.1) (hn : narrow (tyTK f) (.int v) = .int v) (hfit : fits (tyTK f) (.int v) = true) (hd : decode cc pc = .ok (.putfield idx, 3))
    (kk : G κ l R A Q D nL cells slots (cW X K (up2 c g t v)) (pc + 3) L S) : G κ l R A Q D nL cells slots (cW X K c) pc L (.int v :: .ref (X (24 + t)) :: S) := by
  subst hg
  exact G.putf tyTK (24 + t) F tyTK_ok nmTK (cW_t ht) rfl inTK hf (owTK f hf) hl (fiTK f hf hf0) rfl hn hfit hf hd (cW_sett ht hf) kk
/-- the list's own numbers and arrays -/
theorem G.gX {idx : Nat} {v : Value} (f : Nat) (F : Fx κ A D K base cc own nL) (hf : f < 5) (hl : FL own idx RS (TS f).2.1 (TS f).2.2.1) (hv : (xF X c)[f]? = some v) (hd : decode cc pc = .ok (.getfield idx, 3))
    (kk : G κ l R A Q D nL cells slots (cW X K c) (pc + 3) L (v :: S)) : G κ l R A Q D nL cells slots (cW X K c) pc L (.ref (X 0) :: S) :=
  G.getf 0 F cW_x rfl inTS hf (owTS f hf) hl hv hd kk
theorem G.pX3 {idx : Nat} {v : Int32} (F : Fx κ A D K base cc own nL) (hl : FL own idx RS (TS 3).2.1 (TS 3).2.2.1) (hd : decode cc pc = .ok (.putfield idx, 3))
    (kk : G κ l R A Q D nL cells slots (cW X K (up2 c 22 1 v)) (pc + 3) L S) : G κ l R A Q D nL cells slots (cW X K c) pc L (.int v :: .ref (X 0) :: S) :=
  G.putf tyTS 0 F tyTS_ok nmTS cW_x rfl inTS (by decide) (owTS 3 (by decide)) hl rfl (ty := .int) rfl rfl rfl (Nat.le_of_ble_eq_true rfl) hd cW_set3 kk
theorem G.pX4 {idx : Nat} {v : Int32} (F : Fx κ A D K base cc own nL) (hl : FL own idx RS (TS 4).2.1 (TS 4).2.2.1) (hd : decode cc pc = .ok (.putfield idx, 3))
    (kk : G κ l R A Q D nL cells slots (cW X K (up2 c 22 2 v)) (pc + 3) L S) : G κ l R A Q D nL cells slots (cW X K c) pc L (.int v :: .ref (X 0) :: S) :=
  G.putf tyTS 0 F tyTS_ok nmTS cW_x rfl inTS (by decide) (owTS 4 (by decide)) hl rfl (ty := .int) rfl rfl rfl (Nat.le_of_ble_eq_true rfl) hd cW_set4 kk
/-- blocks[v], workers[v] -/
theorem G.ldB {v : Int32} (F : Fx κ A D K base cc own nL) (hv : vp_in v 21) (hd : decode cc pc = .ok (.aaload, 1)) (kk : G κ l R A Q D nL cells slots (cW X K c) (pc + 1) L (.ref (X (2 + v.toNatClampNeg)) :: S)) : G κ l R A Q D nL cells slots (cW X K c) pc L (.int v :: .ref (X 1) :: S) :=
  fun H locs ls hP hD hS hl9 => va_aldq F.ex F.hb F.ev.1 hP 1 0 cW_ab rfl hv hd (kk H locs ls hP hD hS hl9)
theorem G.ldT {v : Int32} (F : Fx κ A D K base cc own nL) (hv : vp_in v 4) (hd : decode cc pc = .ok (.aaload, 1)) (kk : G κ l R A Q D nL cells slots (cW X K c) (pc + 1) L (.ref (X (24 + v.toNatClampNeg)) :: S)) : G κ l R A Q D nL cells slots (cW X K c) pc L (.int v :: .ref (X 23) :: S) :=
  fun H locs ls hP hD hS hl9 => va_aldq F.ex F.hb F.ev.1 hP 23 1 cW_aw rfl hv hd (kk H locs ls hP hD hS hl9)
-- ===== the reference =====
variable {Y : Nat → Nat} {m : CS}
theorem mF_at {i : Nat} (h : i < 4) : (mF Y m)[i]? = some (.int (m 20 i)) := by
  rcases (show i = 0 ∨ i = 1 ∨ i = 2 ∨ i = 3 by omega) with rfl | rfl | rfl | rfl <;> rfl
theorem G.gM {idx : Nat} {v : Value} (f : Nat) (F : Fx κ A D K base cc own nL) (hf : f < 24) (hl : FL own idx RM (TM f).2.1 (TM f).2.2.1) (hv : (mF Y m)[f]? = some v) (hd : decode cc pc = .ok (.getfield idx, 3))
    (kk : G κ l R A Q D nL cells slots (mW Y K m) (pc + 3) L (v :: S)) : G κ l R A Q D nL cells slots (mW Y K m) pc L (.ref (Y 0) :: S) :=
  G.getf 0 F mW_m rfl inTM hf (owTM f hf) hl hv hd kk
theorem G.pM {idx : Nat} {v : Int32} (f : Nat) (F : Fx κ A D K base cc own nL) (hf : f < 4) (hl : FL own idx RM (TM f).2.1 (TM f).2.2.1) (hd : decode cc pc = .ok (.putfield idx, 3))
    (kk : G κ l R A Q D nL cells slots (mW Y K (up2 m 20 f v)) (pc + 3) L S) : G κ l R A Q D nL cells slots (mW Y K m) pc L (.int v :: .ref (Y 0) :: S) :=
  G.putf tyTM 0 F tyTM_ok nmTM mW_m rfl inTM (by omega) (owTM f (by omega)) hl (fiTM f hf) (tiTM f hf) rfl rfl (Nat.lt_of_lt_of_le hf (Nat.le_of_ble_eq_true rfl)) hd (mW_setm hf) kk
theorem G.ldM {v : Int32} (f : Nat) (F : Fx κ A D K base cc own nL) (hf : f < 20) (hb : mK K f = K 2) (hv : vp_in v (mlen f)) (hd : decode cc pc = .ok (.iaload, 1)) (kk : G κ l R A Q D nL cells slots (mW Y K m) (pc + 1) L (.int (m f v.toNatClampNeg) :: S)) : G κ l R A Q D nL cells slots (mW Y K m) pc L (.int v :: .ref (Y (1 + f)) :: S) :=
  fun H locs ls hP hD hS hl9 => va_iald F.ex F.hb F.ev.1 hP (1 + f) 2 (mW_a hf) (by rw [hb]; rfl) hv hd (kk H locs ls hP hD hS hl9)
theorem G.ldMz {v : Int32} (f : Nat) (F : Fx κ A D K base cc own nL) (hf : f < 20) (hb : mK K f = K 3) (hv : vp_in v (mlen f)) (hd : decode cc pc = .ok (.baload, 1)) (kk : G κ l R A Q D nL cells slots (mW Y K m) (pc + 1) L (.int (m f v.toNatClampNeg) :: S)) : G κ l R A Q D nL cells slots (mW Y K m) pc L (.int v :: .ref (Y (1 + f)) :: S) :=
  fun H locs ls hP hD hS hl9 => va_zald F.ex F.hb F.ev.1 hP (1 + f) 3 (mW_a hf) (by rw [hb]; rfl) hv hd (kk H locs ls hP hD hS hl9)
theorem G.stM {v x : Int32} (f : Nat) (F : Fx κ A D K base cc own nL) (hf : f < 20) (hb : mK K f = K 2) (hv : vp_in v (mlen f)) (hd : decode cc pc = .ok (.iastore, 1)) (kk : G κ l R A Q D nL cells slots (mW Y K (up2 m f v.toNatClampNeg x)) (pc + 1) L S) : G κ l R A Q D nL cells slots (mW Y K m) pc L (.int x :: .int v :: .ref (Y (1 + f)) :: S) := by
  intro H locs ls hP hD hS hl9
  refine va_iast F.ex F.hb F.ev.1 hP hD hS (1 + f) 2 (mW_a hf) (by rw [hb]; rfl) hv hd (fun H1 locs1 hP1 hD1 hS1 => ?_)
  rw [mW_seta hf] at hP1 hD1
  exact kk H1 locs1 ls hP1 hD1 hS1 hl9
theorem G.stMz {v x : Int32} (f : Nat) (F : Fx κ A D K base cc own nL) (hf : f < 20) (hb : mK K f = K 3) (hx : vp_nar .boolean x = x) (hv : vp_in v (mlen f)) (hd : decode cc pc = .ok (.bastore, 1)) (kk : G κ l R A Q D nL cells slots (mW Y K (up2 m f v.toNatClampNeg x)) (pc + 1) L S) : G κ l R A Q D nL cells slots (mW Y K m) pc L (.int x :: .int v :: .ref (Y (1 + f)) :: S) := by
  intro H locs ls hP hD hS hl9
  refine va_zast F.ex F.hb F.ev.1 hP hD hS (1 + f) 3 (mW_a hf) (by rw [hb]; rfl) hv hd (fun H1 locs1 hP1 hD1 hS1 => ?_)
  rw [hx, mW_seta hf] at hP1 hD1
  exact kk H1 locs1 ls hP1 hD1 hS1 hl9
/-- by a natural number -/
theorem vp_nat {v : Int32} {k n : Nat} (hv : v = nI k) (hk : k < n) (hn : n ≤ 1000) : vp_in v n ∧ v.toNatClampNeg = k := by
  subst hv
  exact ⟨vp_in_nI hk (by omega), nI_clamp (by omega)⟩
theorem G.ldBn {v : Int32} (k : Nat) (F : Fx κ A D K base cc own nL) (hv : v = nI k) (hk : k < 21) (hd : decode cc pc = .ok (.aaload, 1)) (kk : G κ l R A Q D nL cells slots (cW X K c) (pc + 1) L (.ref (X (2 + k)) :: S)) : G κ l R A Q D nL cells slots (cW X K c) pc L (.int v :: .ref (X 1) :: S) := by
  obtain ⟨h1, h2⟩ := vp_nat hv hk (by decide)
  refine G.ldB F h1 hd ?_
  rw [h2]; exact kk
theorem G.ldTn {v : Int32} (k : Nat) (F : Fx κ A D K base cc own nL) (hv : v = nI k) (hk : k < 4) (hd : decode cc pc = .ok (.aaload, 1)) (kk : G κ l R A Q D nL cells slots (cW X K c) (pc + 1) L (.ref (X (24 + k)) :: S)) : G κ l R A Q D nL cells slots (cW X K c) pc L (.int v :: .ref (X 23) :: S) := by
  obtain ⟨h1, h2⟩ := vp_nat hv hk (by decide)
  refine G.ldT F h1 hd ?_
  rw [h2]; exact kk
theorem mlen_le (f : Nat) : mlen f ≤ 1000 := by
  unfold mlen
  split
  · decide
  · split <;> decide
theorem G.ldMn {v : Int32} {k : Nat} (f : Nat) (F : Fx κ A D K base cc own nL) (hf : f < 20) (hb : mK K f = K 2) (hv : v = nI k) (hk : k < mlen f) (hd : decode cc pc = .ok (.iaload, 1)) (kk : G κ l R A Q D nL cells slots (mW Y K m) (pc + 1) L (.int (m f k) :: S)) : G κ l R A Q D nL cells slots (mW Y K m) pc L (.int v :: .ref (Y (1 + f)) :: S) := by
  obtain ⟨h1, h2⟩ := vp_nat hv hk (mlen_le f)
  refine G.ldM f F hf hb h1 hd ?_
  rw [h2]; exact kk
theorem G.stMn {v x : Int32} {k : Nat} (f : Nat) (F : Fx κ A D K base cc own nL) (hf : f < 20) (hb : mK K f = K 2) (hv : v = nI k) (hk : k < mlen f) (hd : decode cc pc = .ok (.iastore, 1)) (kk : G κ l R A Q D nL cells slots (mW Y K (up2 m f k x)) (pc + 1) L S) : G κ l R A Q D nL cells slots (mW Y K m) pc L (.int x :: .int v :: .ref (Y (1 + f)) :: S) := by
  obtain ⟨h1, h2⟩ := vp_nat hv hk (mlen_le f)
  refine G.stM f F hf hb h1 hd ?_
  rw [h2]; exact kk
theorem G.ldMzn {v : Int32} {k : Nat} (f : Nat) (F : Fx κ A D K base cc own nL) (hf : f < 20) (hb : mK K f = K 3) (hv : v = nI k) (hk : k < mlen f) (hd : decode cc pc = .ok (.baload, 1)) (kk : G κ l R A Q D nL cells slots (mW Y K m) (pc + 1) L (.int (m f k) :: S)) : G κ l R A Q D nL cells slots (mW Y K m) pc L (.int v :: .ref (Y (1 + f)) :: S) := by
  obtain ⟨h1, h2⟩ := vp_nat hv hk (mlen_le f)
  refine G.ldMz f F hf hb h1 hd ?_
  rw [h2]; exact kk
theorem G.stMzn {v x : Int32} {k : Nat} (f : Nat) (F : Fx κ A D K base cc own nL) (hf : f < 20) (hb : mK K f = K 3) (hx : vp_nar .boolean x = x) (hv : v = nI k) (hk : k < mlen f) (hd : decode cc pc = .ok (.bastore, 1)) (kk : G κ l R A Q D nL cells slots (mW Y K (up2 m f k x)) (pc + 1) L S) : G κ l R A Q D nL cells slots (mW Y K m) pc L (.int x :: .int v :: .ref (Y (1 + f)) :: S) := by
  obtain ⟨h1, h2⟩ := vp_nat hv hk (mlen_le f)
  refine G.stMz f F hf hb hx h1 hd ?_
  rw [h2]; exact kk
end GF

-- ===== contracts over worlds =====
def PreC (D : va_G) (K : Nat → ClassId) (base : Nat) (σ : va_W) (sz : Nat) (U : State) : Prop :=
  U.heap.size = sz ∧ va_P D cl4 σ U.heap ∧ va_D (fun q => base ≤ q) σ ∧ base ≤ U.heap.size ∧ EV D K base U
def PostC (D : va_G) (σ σ' : va_W) (sz : Nat) (t : State) : Prop := va_P D cl4 σ' t.heap ∧ va_D (va_A σ sz) σ'
/-- a method without an answer: its world σ becomes σ' -/
def CtV (l : Launch) (D : va_G) (K : Nat → ClassId) (base : Nat) (y : MethodName) (b : ByteArray) (n : Nat) (rm : Room) (av : List Value) (σ σ' : va_W) : Prop :=
  ∀ sz, Met l y (.code y b n none :: WSg) rm (va_Pc av (PreC D K base σ sz)) (va_Qv (fun _ : Unit => True) (fun _ => PostC D σ σ' sz) (va_A σ sz)) rm.cells rm.slots (va_A σ sz)
/-- .. with an int (or boolean) r as its answer -/
def CtI (l : Launch) (D : va_G) (K : Nat → ClassId) (base : Nat) (y : MethodName) (b : ByteArray) (n : Nat) (ty : FieldType) (rm : Room) (av : List Value) (σ : va_W) (r : Int32) (σ' : va_W) : Prop :=
  ∀ sz, Met l y (.code y b n (some ty) :: WSg) rm (va_Pc av (PreC D K base σ sz)) (va_Qi (fun (x : Int32) (_ : Unit) => x = r) (fun _ => PostC D σ σ' sz) (va_A σ sz)) rm.cells rm.slots (va_A σ sz)
/-- .. with the cell ra as its answer -/
def CtR (l : Launch) (D : va_G) (K : Nat → ClassId) (base : Nat) (y : MethodName) (b : ByteArray) (n : Nat) (C : String) (rm : Room) (av : List Value) (σ : va_W) (ra : Nat) (σ' : va_W) : Prop :=
  ∀ sz, Met l y (.code y b n (some (.object C)) :: WSg) rm (va_Pc av (PreC D K base σ sz)) (va_Qr (fun _ : Unit => True) (fun _ a t => a = ra ∧ PostC D σ σ' sz t) (va_A σ sz)) rm.cells rm.slots (va_A σ sz)
section CTE
variable {l : Launch} {D : va_G} {K : Nat → ClassId} {base : Nat} {y : MethodName} {b : ByteArray} {n : Nat} {rm : Room} {av : List Value} {σ σ' : va_W} {r : Int32} {ra : Nat} {ty : FieldType} {C : String}
theorem A_base {sz : Nat} (h : va_D (fun q => base ≤ q) σ) (hb : base ≤ sz) : ∀ q, va_A σ sz q → base ≤ q := by
  intro q hq
  rcases hq with ⟨k, e, hk⟩ | hq
  · exact h.2 k (q, e) hk
  · exact Nat.le_trans hb hq
theorem CtV.enter (hy : plainName y.cls = true) (hn : (lg_sl av).length ≤ n)
    (body : ∀ (κ : KM) (A : Nat → Prop) (Q : State → Prop), Fx κ A D K base b y.cls n → (∀ pc L, decode b pc = .ok (.return_, 1) → G κ l rm A Q D n rm.cells rm.slots σ' pc L []) → G κ l rm A Q D n 0 0 σ 0 (lv_args 0 av) []) : CtV l D K base y b n rm av σ σ' := by
  intro sz
  refine Met.ofW (cc := b) (maxL := n) (ret := none) hy rfl ?_
  intro p e s m args below meth c s₁ B hml hv
  obtain ⟨rfl, hsz, hP, hD0, hbz, hE⟩ := hv
  subst hsz
  have hts := atoms_spec (ws := .code y b n none :: WSg) B.pre
  have hl := lv_entry av (n := n) hn
  rw [lg_entry_eq]
  refine body (p, e, s, m, av.toArray, below, meth, c) (va_A σ s.heap.size) _ ⟨B.exec, B.bytes, hml, findClass_of_methodNamed B.named, fun w hw => hts w (List.mem_cons_of_mem _ hw), hE, A_base hD0 hbz, fun q h => Or.inr h, B.notSynchronized, hbz⟩ ?_ s.heap [] _ hP hD0.self va_S.rf hl
  intro pc L hd H locs ls hP hD hS hl
  exact W.vret B.exec B.bytes B.returns (fun t ht hW => ⟨⟨(), rfl, trivial, by rw [ht]; exact hP, hD⟩, hS.F ht⟩) hS.2.2 hd B.notSynchronized
theorem CtI.enter (hy : plainName y.cls = true) (hn : (lg_sl av).length ≤ n)
    (body : ∀ (κ : KM) (A : Nat → Prop) (Q : State → Prop), Fx κ A D K base b y.cls n → (∀ pc L v, decode b pc = .ok (.ireturn, 1) → narrow ty (.int v) = .int v → v = r → G κ l rm A Q D n rm.cells rm.slots σ' pc L [.int v]) → G κ l rm A Q D n 0 0 σ 0 (lv_args 0 av) []) : CtI l D K base y b n ty rm av σ r σ' := by
  intro sz
  refine Met.ofW (cc := b) (maxL := n) (ret := some ty) hy rfl ?_
  intro p e s m args below meth c s₁ B hml hv
  obtain ⟨rfl, hsz, hP, hD0, hbz, hE⟩ := hv
  subst hsz
  have hts := atoms_spec (ws := .code y b n (some ty) :: WSg) B.pre
  have hl := lv_entry av (n := n) hn
  rw [lg_entry_eq]
  refine body (p, e, s, m, av.toArray, below, meth, c) (va_A σ s.heap.size) _ ⟨B.exec, B.bytes, hml, findClass_of_methodNamed B.named, fun w hw => hts w (List.mem_cons_of_mem _ hw), hE, A_base hD0 hbz, fun q h => Or.inr h, B.notSynchronized, hbz⟩ ?_ s.heap [] _ hP hD0.self va_S.rf hl
  intro pc L v hd hnv hv H locs ls hP hD hS hl
  exact W.zret B.exec B.bytes B.returns hnv (fun t ht hW => ⟨⟨v, (), rfl, hv, by rw [ht]; exact hP, hD⟩, hS.F ht⟩) hS.2.2 hd B.notSynchronized
theorem CtR.enter (hy : plainName y.cls = true) (hn : (lg_sl av).length ≤ n)
    (body : ∀ (κ : KM) (A : Nat → Prop) (Q : State → Prop), Fx κ A D K base b y.cls n → (∀ pc L v, decode b pc = .ok (.areturn, 1) → v = ra → G κ l rm A Q D n rm.cells rm.slots σ' pc L [.ref v]) → G κ l rm A Q D n 0 0 σ 0 (lv_args 0 av) []) : CtR l D K base y b n C rm av σ ra σ' := by
  intro sz
  refine Met.ofW (cc := b) (maxL := n) (ret := some (.object C)) hy rfl ?_
  intro p e s m args below meth c s₁ B hml hv
  obtain ⟨rfl, hsz, hP, hD0, hbz, hE⟩ := hv
  subst hsz
  have hts := atoms_spec (ws := .code y b n (some (.object C)) :: WSg) B.pre
  have hl := lv_entry av (n := n) hn
  rw [lg_entry_eq]
  refine body (p, e, s, m, av.toArray, below, meth, c) (va_A σ s.heap.size) _ ⟨B.exec, B.bytes, hml, findClass_of_methodNamed B.named, fun w hw => hts w (List.mem_cons_of_mem _ hw), hE, A_base hD0 hbz, fun q h => Or.inr h, B.notSynchronized, hbz⟩ ?_ s.heap [] _ hP hD0.self va_S.rf hl
  intro pc L v hd hv H locs ls hP hD hS hl
  exact W.aret B.exec B.bytes B.returns (Or.inl ⟨_, rfl⟩) (Or.inr ⟨_, rfl⟩) (fun t ht hW => ⟨⟨(), v, rfl, trivial, hv, by rw [ht]; exact hP, hD⟩, hS.F ht⟩) hS.2.2 hd B.notSynchronized
end CTE
-- ===== calls =====
/-- what the tables say of a call of the instance method y at the place idx of own's pool -/
def CK (own : String) (idx : Nat) (y : MethodName) (b : ByteArray) (n : Nat) (ret : Option FieldType) (np : Nat) : Prop :=
  Cond.code y b n ret ∈ WSg ∧ Cond.initialized y.cls ∈ WSg ∧ Cond.instanceMethod y ∈ WSg ∧ Cond.selects y.cls y y ∈ WSg ∧ (Cond.methodLink own idx y ∈ WSg ∨ ∃ host, Cond.methodLinkNest own idx y host ∈ NWl) ∧ (y.cls ≠ "java/lang/invoke/MethodHandle" ∧ y.cls ≠ "java/lang/invoke/VarHandle") ∧ (parseMethodDescriptor y.desc).map (fun d => d.parameters.length) = some np
def CKs (own : String) (idx : Nat) (y : MethodName) (b : ByteArray) (n : Nat) (ret : Option FieldType) (np : Nat) : Prop :=
  Cond.code y b n ret ∈ WSg ∧ Cond.initialized y.cls ∈ WSg ∧ Cond.static y ∈ WSg ∧ Cond.methodLink own idx y ∈ WSg ∧ (y.cls ≠ "java/lang/invoke/MethodHandle" ∧ y.cls ≠ "java/lang/invoke/VarHandle") ∧ (parseMethodDescriptor y.desc).map (fun d => d.parameters.length) = some np
section CAL
variable {κ : KM} {l : Launch} {R : Room} {A : Nat → Prop} {Q : State → Prop} {D : va_G} {K : Nat → ClassId} {base : Nat} {cc : ByteArray} {own : String} {nL cells slots pc : Nat} {σ σ' : va_W} {L : List (Nat × Value)} {S : List Value}
variable {y : MethodName} {b : ByteArray} {n np idx a : Nat} {ret : Option FieldType} {rm : Room} {av As rest : List Value} {H : Heap} {locs : List Loc} {ls : Array Slot}
theorem Fx.pay (F : Fx κ A D K base cc own nL) (hc : Cond.code y b n ret ∈ WSg) : ∀ w ∈ Cond.code y b n ret :: WSg, ∀ (a' : Array Value) (U : State), κ.2.2.1.WarmedH U.vm → w.before a' U = true := by
  intro w hw a' U hW
  have h : w ∈ WSg := by
    rcases List.mem_cons.mp hw with rfl | h
    · exact hc
    · exact h
  exact word_at hW (WSg_good h) (F.ts w h)
theorem Fx.run {Pc : Array Value → State → Prop} {Qc : Array Value → State → Outcome → State → Prop} {mc ms : Nat} {free : Addr → Prop} (F : Fx κ A D K base cc own nL) (ck : CK own idx y b n ret np) (hM : Met l y (.code y b n ret :: WSg) rm Pc Qc mc ms free) (hmc : rm.cells = mc) (hms : rm.slots = ms) (hR : rm.frames + 1 ≤ R.frames ∧ 8 + (n + 11) + rm.locals ≤ R.locals)
    (hp : PreV κ.2.2.1 H y.cls a Pc As) (hn : As.length = np) (hsz : ls.size = nL) (hst : S = As.reverse ++ .ref a :: rest) (hW : (rest.map fun v => v.category).sum ≤ 8) (hd : decode cc pc = .ok (.invokevirtual idx, 3)) (hf : cells + mc ≤ R.cells ∧ slots + ms ≤ R.slots) :
    va_Run κ.1 l κ.2.1 R κ.2.2.1 κ.2.2.2.1 κ.2.2.2.2.1 κ.2.2.2.2.2.1 κ.2.2.2.2.2.2.1 κ.2.2.2.2.2.2.2 H locs cells slots mc ms (F0 κ.2.2.2.1 pc ls S) rest (Qc (Value.ref a :: As).toArray) free := by
  obtain ⟨c1, c2, c3, c4, c5, c6, c7⟩ := ck
  have hlen : ∀ sig, parseMethodDescriptor y.desc = some sig → np = sig.parameters.length := fun sig h => by
    rw [h] at c7
    exact (Option.some.inj c7).symm
  rcases c5 with c5 | ⟨host, c5⟩
  · exact va_runV (cc := cc) (nL := nL) (Ts := WSg) (own := own) ⟨F.ex, F.hb, F.ml, F.ow, F.ts⟩ hM ⟨⟨hmc, hms, hR.1, hR.2, F.pay c1, List.mem_cons_self, F.ts _ c1, F.ts _ c2, c6, hlen, F.ts _ c5⟩, F.ts _ c3, F.ts _ c4⟩ hp rfl hn hsz hst (lv_room hW) hd hf
  · exact va_runVN (cc := cc) (nL := nL) (Ts := WSg) (own := own) (host := host) ⟨F.ex, F.hb, F.ml, F.ow, F.ts⟩ hM ⟨⟨⟨hmc, hms, hR.1, hR.2, F.pay c1, List.mem_cons_self⟩, F.ts _ c1, F.ts _ c2, c6, hlen, va_Nw.use rfl (F.ev.2.1 _ c5)⟩, F.ts _ c3, F.ts _ c4⟩ hp rfl hn hsz hst (lv_room hW) hd hf
theorem PreC.blind {sz : Nat} : FrameBlind (va_Pc av (PreC D K base σ sz)) := by
  intro a U g mk h
  obtain ⟨h0, h1, h2, h3, h4, h5⟩ := h
  exact ⟨h0, h1, h2, h3, h4, h5.warm (State.WarmedH.refl U) (fun _ _ _ => rfl)⟩
/-- the callee's start holds where the caller's world holds -/
theorem Fx.pre (F : Fx κ A D K base cc own nL) (hP : va_P D cl4 σ H) (hD : va_D A σ) (hS : va_S A κ.2.2.1.heap H locs) : ∀ U : State, U.heap = H → κ.2.2.1.WarmedH U.vm → va_Pc av (PreC D K base σ H.size) av.toArray U := by
  intro U hU hW
  refine ⟨rfl, by rw [hU], by rw [hU]; exact hP, hD.weaken (fun _ _ _ h => F.ab _ h), by rw [hU]; exact Nat.le_trans F.bs hS.1, F.ev.warm hW (fun q h1 h2 => ?_)⟩
  rw [hU]
  exact hS.2.1 q h1 (fun h => by have := F.ab _ h; omega)
theorem Fx.free (F : Fx κ A D K base cc own nL) (hD : va_D A σ) (hS : va_S A κ.2.2.1.heap H locs) : ∀ q, va_A σ H.size q → A q := by
  intro q h
  rcases h with ⟨k, e, h⟩ | h
  · exact hD.2 k (q, e) h
  · exact F.an q (Nat.le_trans hS.1 h)
theorem Fx.recv {q0 ci : Nat} {fs : List Value} {r : vw_C} (F : Fx κ A D K base cc own nL) (hP : va_P D cl4 σ H) (hq : σ[q0]? = some (a, .inr (ci, fs))) (hc : cl4[ci]? = some r) (hr : r.1 = y.cls) : ∃ cellB : Cell, H[a]? = some cellB ∧ cellB.vm.isStatics = false ∧ κ.2.2.1.vm.findClass y.cls = some cellB.cls := by
  rw [← hr]
  exact va_recv F.ev.1 hP hc hq
theorem G.callv {q0 ci : Nat} {fs : List Value} {r : vw_C} (F : Fx κ A D K base cc own nL) (h : CtV l D K base y b n rm (.ref a :: As) σ σ') (ck : CK own idx y b n none np) (hq : σ[q0]? = some (a, .inr (ci, fs))) (hc : cl4[ci]? = some r) (hr : r.1 = y.cls) (hz : rm.cells = 0 ∧ rm.slots = 0) (hR : rm.frames + 1 ≤ R.frames ∧ 8 + (n + 11) + rm.locals ≤ R.locals) (hf : cells ≤ R.cells ∧ slots ≤ R.slots) (hn : As.length = np) (hst : S = As.reverse ++ .ref a :: rest) (hW : (rest.map fun v => v.category).sum ≤ 8) (hd : decode cc pc = .ok (.invokevirtual idx, 3))
    (kk : G κ l R A Q D nL cells slots σ' (pc + 3) L rest) : G κ l R A Q D nL cells slots σ pc L S := by
  intro H locs ls hP hD hS hl
  have hF := F.free hD hS
  have hM := h H.size
  rw [hz.1, hz.2] at hM
  refine va_callv (F.run (np := np) (a := a) (As := As) (rest := rest) ck hM hz.1 hz.2 hR ⟨PreC.blind, F.recv hP hq hc hr, F.pre hP hD hS⟩ hn hl.1 hst hW hd hf) hS (fun q _ h => hF q h) hF (fun u t H1 locs1 ht hvm hp hB hz1 hk1 hS1 => ?_)
  obtain ⟨hP1, hD1⟩ := hB
  rw [ht] at hP1
  exact kk H1 locs1 ls hP1 (hD1.weaken (fun _ _ _ h => hF _ h)) hS1 hl
theorem G.calli {q0 ci : Nat} {fs : List Value} {r : vw_C} {ty : FieldType} {v : Int32} (F : Fx κ A D K base cc own nL) (h : CtI l D K base y b n ty rm (.ref a :: As) σ v σ') (ck : CK own idx y b n (some ty) np) (hq : σ[q0]? = some (a, .inr (ci, fs))) (hc : cl4[ci]? = some r) (hr : r.1 = y.cls) (hz : rm.cells = 0 ∧ rm.slots = 0) (hR : rm.frames + 1 ≤ R.frames ∧ 8 + (n + 11) + rm.locals ≤ R.locals) (hf : cells ≤ R.cells ∧ slots ≤ R.slots) (hn : As.length = np) (hst : S = As.reverse ++ .ref a :: rest) (hW : (rest.map fun v => v.category).sum ≤ 8) (hd : decode cc pc = .ok (.invokevirtual idx, 3))
    (kk : G κ l R A Q D nL cells slots σ' (pc + 3) L (.int v :: rest)) : G κ l R A Q D nL cells slots σ pc L S := by
  intro H locs ls hP hD hS hl
  have hF := F.free hD hS
  have hM := h H.size
  rw [hz.1, hz.2] at hM
  refine va_calli (F.run (np := np) (a := a) (As := As) (rest := rest) ck hM hz.1 hz.2 hR ⟨PreC.blind, F.recv hP hq hc hr, F.pre hP hD hS⟩ hn hl.1 hst hW hd hf) hS (fun q _ h => hF q h) hF (fun x u t H1 locs1 ht hvm hp hB hz1 hk1 hS1 => ?_)
  obtain ⟨hP1, hD1⟩ := hB
  rw [ht] at hP1
  subst hp
  exact kk H1 locs1 ls hP1 (hD1.weaken (fun _ _ _ h => hF _ h)) hS1 hl
theorem G.callr {q0 ci : Nat} {fs : List Value} {r : vw_C} {C : String} {v : Nat} (F : Fx κ A D K base cc own nL) (h : CtR l D K base y b n C rm (.ref a :: As) σ v σ') (ck : CK own idx y b n (some (.object C)) np) (hq : σ[q0]? = some (a, .inr (ci, fs))) (hc : cl4[ci]? = some r) (hr : r.1 = y.cls) (hz : rm.cells = 0 ∧ rm.slots = 0) (hR : rm.frames + 1 ≤ R.frames ∧ 8 + (n + 11) + rm.locals ≤ R.locals) (hf : cells ≤ R.cells ∧ slots ≤ R.slots) (hn : As.length = np) (hst : S = As.reverse ++ .ref a :: rest) (hW : (rest.map fun v => v.category).sum ≤ 8) (hd : decode cc pc = .ok (.invokevirtual idx, 3))
    (kk : G κ l R A Q D nL cells slots σ' (pc + 3) L (.ref v :: rest)) : G κ l R A Q D nL cells slots σ pc L S := by
  intro H locs ls hP hD hS hl
  have hF := F.free hD hS
  have hM := h H.size
  rw [hz.1, hz.2] at hM
  refine va_callr (F.run (np := np) (a := a) (As := As) (rest := rest) ck hM hz.1 hz.2 hR ⟨PreC.blind, F.recv hP hq hc hr, F.pre hP hD hS⟩ hn hl.1 hst hW hd hf) hS (fun q _ h => hF q h) hF (fun u x t H1 locs1 ht hvm hp hB hz1 hk1 hS1 => ?_)
  obtain ⟨rfl, hP1, hD1⟩ := hB
  rw [ht] at hP1
  exact kk H1 locs1 ls hP1 (hD1.weaken (fun _ _ _ h => hF _ h)) hS1 hl
/-- .. of a static method of the class itself -/
theorem Fx.runs {Pc : Array Value → State → Prop} {Qc : Array Value → State → Outcome → State → Prop} {mc ms : Nat} {free : Addr → Prop} (F : Fx κ A D K base cc own nL) (ck : CKs own idx y b n ret np) (hM : Met l y (.code y b n ret :: WSg) rm Pc Qc mc ms free) (hmc : rm.cells = mc) (hms : rm.slots = ms) (hR : rm.frames + 1 ≤ R.frames ∧ 8 + (n + 11) + rm.locals ≤ R.locals)
    (hp : PreS κ.2.2.1 H Pc As) (hn : As.length = np) (hsz : ls.size = nL) (hst : S = As.reverse ++ rest) (hW : (rest.map fun v => v.category).sum ≤ 8) (hd : decode cc pc = .ok (.invokestatic idx, 3)) (hf : cells + mc ≤ R.cells ∧ slots + ms ≤ R.slots) :
    va_Run κ.1 l κ.2.1 R κ.2.2.1 κ.2.2.2.1 κ.2.2.2.2.1 κ.2.2.2.2.2.1 κ.2.2.2.2.2.2.1 κ.2.2.2.2.2.2.2 H locs cells slots mc ms (F0 κ.2.2.2.1 pc ls S) rest (Qc As.toArray) free := by
  obtain ⟨c1, c2, c3, c5, c6, c7⟩ := ck
  have hlen : ∀ sig, parseMethodDescriptor y.desc = some sig → np = sig.parameters.length := fun sig h => by
    rw [h] at c7
    exact (Option.some.inj c7).symm
  exact va_runS (cc := cc) (nL := nL) (Ts := WSg) (own := own) ⟨F.ex, F.hb, F.ml, F.ow, F.ts⟩ hM ⟨⟨hmc, hms, hR.1, hR.2, F.pay c1, List.mem_cons_self, F.ts _ c1, F.ts _ c2, c6, hlen, F.ts _ c5⟩, F.ts _ c3⟩ hp rfl hn hsz hst (lv_room hW) hd hf
theorem G.callsi {ty : FieldType} {v : Int32} (F : Fx κ A D K base cc own nL) (h : CtI l D K base y b n ty rm As σ v σ') (ck : CKs own idx y b n (some ty) np) (hz : rm.cells = 0 ∧ rm.slots = 0) (hR : rm.frames + 1 ≤ R.frames ∧ 8 + (n + 11) + rm.locals ≤ R.locals) (hf : cells ≤ R.cells ∧ slots ≤ R.slots) (hn : As.length = np) (hst : S = As.reverse ++ rest) (hW : (rest.map fun v => v.category).sum ≤ 8) (hd : decode cc pc = .ok (.invokestatic idx, 3))
    (kk : G κ l R A Q D nL cells slots σ' (pc + 3) L (.int v :: rest)) : G κ l R A Q D nL cells slots σ pc L S := by
  intro H locs ls hP hD hS hl
  have hF := F.free hD hS
  have hM := h H.size
  rw [hz.1, hz.2] at hM
  refine va_calli (F.runs (np := np) (As := As) (rest := rest) ck hM hz.1 hz.2 hR ⟨PreC.blind, F.pre hP hD hS⟩ hn hl.1 hst hW hd hf) hS (fun q _ h => hF q h) hF (fun x u t H1 locs1 ht hvm hp hB hz1 hk1 hS1 => ?_)
  obtain ⟨hP1, hD1⟩ := hB
  rw [ht] at hP1
  subst hp
  exact kk H1 locs1 ls hP1 (hD1.weaken (fun _ _ _ h => hF _ h)) hS1 hl
end CAL

-- ===== the law's own methods =====
def oW (o : Nat) (K : Nat → ClassId) (v : Nat → Int64) : va_W := [(o, .inl (K 4, 1, .inr (.inl v)))]
/-- a static method with handlers, an int its answer -/
def CtIW (l : Launch) (D : va_G) (K : Nat → ClassId) (base : Nat) (y : MethodName) (b : ByteArray) (n : Nat) (hh : List (Nat × Nat × Nat × Nat)) (rm : Room) (av : List Value) (σ : va_W) (r : Int32) (σ' : va_W) : Prop :=
  ∀ sz, Met l y (.codeWith y b n (some .int) hh :: WSg) rm (va_Pc av (PreC D K base σ sz)) (va_Qi (fun (x : Int32) (_ : Unit) => x = r) (fun _ => PostC D σ σ' sz) (va_A σ sz)) rm.cells rm.slots (va_A σ sz)
section LAW
variable {κ : KM} {l : Launch} {R : Room} {A : Nat → Prop} {Q : State → Prop} {D : va_G} {K : Nat → ClassId} {base : Nat} {cc : ByteArray} {own E : String} {nL cells slots pc : Nat} {σ σ' α ρ ω ω' : va_W} {L : List (Nat × Value)} {S : List Value}
variable {y : MethodName} {b : ByteArray} {n np idx a : Nat} {ret : Option FieldType} {rm : Room} {av As rest : List Value} {H : Heap} {locs : List Loc} {ls : Array Slot} {hh : List (Nat × Nat × Nat × Nat)} {r : Int32}
theorem CtIW.enter (hy : plainName y.cls = true) (hn : (lg_sl av).length ≤ n)
    (body : ∀ (κ : KM) (A : Nat → Prop) (Q : State → Prop), Fx κ A D K base b y.cls n → κ.2.2.2.2.2.2.2.exceptionTable.toList = tableOf hh → (∀ pc L v, decode b pc = .ok (.ireturn, 1) → v = r → G κ l rm A Q D n rm.cells rm.slots σ' pc L [.int v]) → G κ l rm A Q D n 0 0 σ 0 (lv_args 0 av) []) : CtIW l D K base y b n hh rm av σ r σ' := by
  intro sz
  refine va_MetW (hh := hh) (cc := b) (maxL := n) (ret := some .int) hy rfl ?_
  intro p e s m args below meth c s₁ B hml hv
  obtain ⟨rfl, hsz, hP, hD0, hbz, hE⟩ := hv
  subst hsz
  have hts := atoms_spec (ws := .codeWith y b n (some .int) hh :: WSg) B.pre
  have htab := vx_table (x := y) B (hts _ List.mem_cons_self)
  have hl := lv_entry av (n := n) hn
  rw [lg_entry_eq]
  refine body (p, e, s, m, av.toArray, below, meth, c) (va_A σ s.heap.size) _ ⟨B.exec, B.bytes, hml, findClass_of_methodNamed B.named, fun w hw => hts w (List.mem_cons_of_mem _ hw), hE, A_base hD0 hbz, fun q h => Or.inr h, B.notSynchronized, hbz⟩ htab ?_ s.heap [] _ hP hD0.self va_S.rf hl
  intro pc L v hd hv H locs ls hP hD hS hl
  exact W.iret B.exec B.bytes B.returns (fun t ht hW => ⟨⟨v, (), rfl, hv, by rw [ht]; exact hP, hD⟩, hS.F ht⟩) hS.2.2 hd B.notSynchronized
/-- calls with a frame -/
theorem G.callFv {q0 ci : Nat} {fs : List Value} {r : vw_C} (α ρ : va_W) (F : Fx κ A D K base cc own nL) (h : CtV l D K base y b n rm (.ref a :: As) σ σ') (hω : ω = α ++ (σ ++ ρ)) (hω' : α ++ (σ' ++ ρ) = ω') (ck : CK own idx y b n none np) (hq : σ[q0]? = some (a, .inr (ci, fs))) (hc : cl4[ci]? = some r) (hr : r.1 = y.cls) (hz : rm.cells = 0 ∧ rm.slots = 0) (hR : rm.frames + 1 ≤ R.frames ∧ 8 + (n + 11) + rm.locals ≤ R.locals) (hf : cells ≤ R.cells ∧ slots ≤ R.slots) (hn : As.length = np) (hst : S = As.reverse ++ .ref a :: rest) (hW : (rest.map fun v => v.category).sum ≤ 8) (hd : decode cc pc = .ok (.invokevirtual idx, 3))
    (kk : G κ l R A Q D nL cells slots ω' (pc + 3) L rest) : G κ l R A Q D nL cells slots ω pc L S := by
  subst hω; subst hω'
  intro H locs ls hP hD hS hl
  have hP0 := P_mid hP
  have hD0 := D_mid hD
  have hF := F.free hD0 hS
  have hM := h H.size
  rw [hz.1, hz.2] at hM
  refine va_callv (F.run (np := np) (a := a) (As := As) (rest := rest) ck hM hz.1 hz.2 hR ⟨PreC.blind, F.recv hP0 hq hc hr, F.pre hP0 hD0 hS⟩ hn hl.1 hst hW hd hf) hS (fun q _ h => hF q h) hF (fun u t H1 locs1 ht hvm hp hB hz1 hk1 hS1 => ?_)
  obtain ⟨hP1, hD1⟩ := hB
  rw [ht] at hP1
  obtain ⟨hPj, hDj⟩ := frame_join hP hD hk1 hF hP1 hD1
  exact kk H1 locs1 ls hPj hDj hS1 hl
theorem G.callFi {q0 ci : Nat} {fs : List Value} {r : vw_C} {ty : FieldType} {v : Int32} (α ρ : va_W) (F : Fx κ A D K base cc own nL) (h : CtI l D K base y b n ty rm (.ref a :: As) σ v σ') (hω : ω = α ++ (σ ++ ρ)) (hω' : α ++ (σ' ++ ρ) = ω') (ck : CK own idx y b n (some ty) np) (hq : σ[q0]? = some (a, .inr (ci, fs))) (hc : cl4[ci]? = some r) (hr : r.1 = y.cls) (hz : rm.cells = 0 ∧ rm.slots = 0) (hR : rm.frames + 1 ≤ R.frames ∧ 8 + (n + 11) + rm.locals ≤ R.locals) (hf : cells ≤ R.cells ∧ slots ≤ R.slots) (hn : As.length = np) (hst : S = As.reverse ++ .ref a :: rest) (hW : (rest.map fun v => v.category).sum ≤ 8) (hd : decode cc pc = .ok (.invokevirtual idx, 3))
    (kk : G κ l R A Q D nL cells slots ω' (pc + 3) L (.int v :: rest)) : G κ l R A Q D nL cells slots ω pc L S := by
  subst hω; subst hω'
  intro H locs ls hP hD hS hl
  have hP0 := P_mid hP
  have hD0 := D_mid hD
  have hF := F.free hD0 hS
  have hM := h H.size
  rw [hz.1, hz.2] at hM
  refine va_calli (F.run (np := np) (a := a) (As := As) (rest := rest) ck hM hz.1 hz.2 hR ⟨PreC.blind, F.recv hP0 hq hc hr, F.pre hP0 hD0 hS⟩ hn hl.1 hst hW hd hf) hS (fun q _ h => hF q h) hF (fun x u t H1 locs1 ht hvm hp hB hz1 hk1 hS1 => ?_)
  obtain ⟨hP1, hD1⟩ := hB
  rw [ht] at hP1
  subst hp
  obtain ⟨hPj, hDj⟩ := frame_join hP hD hk1 hF hP1 hD1
  exact kk H1 locs1 ls hPj hDj hS1 hl
/-- what the tables say of a call of the law's own method y with handlers -/
def CKw (own : String) (idx : Nat) (y : MethodName) (b : ByteArray) (n : Nat) (hh : List (Nat × Nat × Nat × Nat)) (np : Nat) : Prop :=
  Cond.codeWith y b n (some .int) hh ∈ WSg ∧ Cond.initialized y.cls ∈ WSg ∧ Cond.static y ∈ WSg ∧ Cond.methodLink own idx y ∈ WSg ∧ (y.cls ≠ "java/lang/invoke/MethodHandle" ∧ y.cls ≠ "java/lang/invoke/VarHandle") ∧ (parseMethodDescriptor y.desc).map (fun d => d.parameters.length) = some np
theorem Fx.payw (F : Fx κ A D K base cc own nL) (hc : Cond.codeWith y b n (some .int) hh ∈ WSg) : ∀ w ∈ Cond.codeWith y b n (some .int) hh :: WSg, ∀ (a' : Array Value) (U : State), κ.2.2.1.WarmedH U.vm → w.before a' U = true := by
  intro w hw a' U hW
  have h : w ∈ WSg := by
    rcases List.mem_cons.mp hw with rfl | h
    · exact hc
    · exact h
  exact word_at hW (WSg_good h) (F.ts w h)
theorem G.callW {v : Int32} (α ρ : va_W) (F : Fx κ A D K base cc own nL) (h : CtIW l D K base y b n hh rm As σ v σ') (hω : ω = α ++ (σ ++ ρ)) (hω' : α ++ (σ' ++ ρ) = ω') (ck : CKw own idx y b n hh np) (hR : rm.frames + 1 ≤ R.frames ∧ 8 + (n + 11) + rm.locals ≤ R.locals) (hf : cells + rm.cells ≤ R.cells ∧ slots + rm.slots ≤ R.slots) (hn : As.length = np) (hst : S = As.reverse ++ rest) (hW : (rest.map fun v => v.category).sum ≤ 8) (hd : decode cc pc = .ok (.invokestatic idx, 3))
    (kk : G κ l R A Q D nL (cells + rm.cells) (slots + rm.slots) ω' (pc + 3) L (.int v :: rest)) : G κ l R A Q D nL cells slots ω pc L S := by
  subst hω; subst hω'
  obtain ⟨c1, c2, c3, c5, c6, c7⟩ := ck
  have hlen : ∀ sig, parseMethodDescriptor y.desc = some sig → np = sig.parameters.length := fun sig h => by
    rw [h] at c7
    exact (Option.some.inj c7).symm
  intro H locs ls hP hD hS hl
  have hP0 := P_mid hP
  have hD0 := D_mid hD
  have hF := F.free hD0 hS
  have hM := h H.size
  refine va_calli (vx_runSW (cc := cc) (nL := nL) (Ts := WSg) (own := own) (As := As) (rest := rest) (n := np) ⟨F.ex, F.hb, F.ml, F.ow, F.ts⟩ hM ⟨⟨rfl, rfl, hR.1, hR.2, F.payw c1, List.mem_cons_self⟩, F.ts _ c1, F.ts _ c2, c6, hlen, F.ts _ c5, F.ts _ c3⟩ ⟨PreC.blind, F.pre hP0 hD0 hS⟩ rfl hn hl.1 hst (lv_room hW) hd hf) hS (fun q _ h => hF q h) hF (fun x u t H1 locs1 ht hvm hp hB hz1 hk1 hS1 => ?_)
  obtain ⟨hP1, hD1⟩ := hB
  rw [ht] at hP1
  subst hp
  obtain ⟨hPj, hDj⟩ := frame_join hP hD hk1 hF hP1 hD1
  exact kk H1 locs1 ls hPj hDj hS1 hl
/-- a call that throws, caught by the row x of the method's own table -/
theorem G.callXc {q0 ci : Nat} {fs : List Value} {r : vw_C} {name : String} (α ρ : va_W) (pre : List ExceptionTableEntry) (x : ExceptionTableEntry) (suf : List ExceptionTableEntry) (F : Fx κ A D K base cc own nL) (h : CtX l D K base y b n ret rm (.ref a :: As) σ E) (hω : ω = α ++ (σ ++ ρ)) (ck : CK own idx y b n ret np) (hlk : Cond.methodLink own idx y ∈ WSg)
    (hsplit : κ.2.2.2.2.2.2.2.exceptionTable.toList = pre ++ x :: suf) (hpass : ∀ z ∈ pre, z.catchType ≠ 0 ∧ ∃ nm : String, Cond.classLink own z.catchType nm ∈ WSg ∧ (E, nm) ∈ NCl) (hx : covers x pc = true) (h0 : x.catchType ≠ 0) (hlink : Cond.classLink own x.catchType name ∈ WSg) (hcast : Cond.castable E name ∈ NWl)
    (hq : σ[q0]? = some (a, .inr (ci, fs))) (hc : cl4[ci]? = some r) (hr : r.1 = y.cls) (hz : rm.cells = 1 ∧ rm.slots = 6) (hR : rm.frames + 1 ≤ R.frames ∧ 8 + (n + 11) + rm.locals ≤ R.locals) (hf : cells + 1 ≤ R.cells ∧ slots + 6 ≤ R.slots) (hn : As.length = np) (hst : S = As.reverse ++ .ref a :: rest) (hW : (rest.map fun v => v.category).sum ≤ 8) (hd : decode cc pc = .ok (.invokevirtual idx, 3))
    (kk : ∀ q : Nat, G κ l R A Q D nL (cells + 1) (slots + 6) ω x.handlerPc L [.ref q]) : G κ l R A Q D nL cells slots ω pc L S := by
  subst hω
  refine G.callX (α := α) (ρ := ρ) (rest := rest) F h ck hlk hq hc hr hz hR hf hn hst hW hd ?_
  intro H locs ls q ce hP hD hS hl hce hcv hcl
  exact vx_catch (own := own) (name := name) (E := E) F.ow pre x suf hsplit (fun z hz => by
    obtain ⟨h1, nm, h2, h3⟩ := hpass z hz
    exact Or.inr ⟨h1, nm, F.ts _ h2, F.ev.2.2.2.1 _ h3⟩) hx h0 (F.ts _ hlink) (va_Nw.use rfl (F.ev.2.1 _ hcast)) hce hcv hcl (kk q H locs ls hP hD hS hl)
/-- out[0] -/
theorem G.stO {o : Nat} {v : Nat → Int64} {x : Int64} {i : Int32} (α : va_W) (q0 : Nat) (F : Fx κ A D K base cc own nL) (hω : ω = α ++ oW o K v) (hω' : α ++ oW o K (vp_updL v 0 x) = ω') (hq : α.length = q0) (hi : i = 0) (hd : decode cc pc = .ok (.lastore, 1))
    (kk : G κ l R A Q D nL cells slots ω' (pc + 1) L S) : G κ l R A Q D nL cells slots ω pc L (.long x :: .int i :: .ref o :: S) := by
  subst hω; subst hω'; subst hi
  intro H locs ls hP hD hS hl
  have he : (α ++ oW o K v)[q0]? = some (o, .inl (K 4, 1, .inr (.inl v))) := by
    rw [List.getElem?_append_right (by omega), hq, Nat.sub_self]; rfl
  refine va_last F.ex F.hb F.ev.1 hP hD hS q0 4 he rfl (by unfold vp_in; decide) hd (fun H1 locs1 hP1 hD1 hS1 => ?_)
  have e1 : (α ++ oW o K v).set q0 (o, .inl (K 4, 1, .inr (.inl (vp_updL v (0 : Int32).toNatClampNeg x)))) = α ++ oW o K (vp_updL v 0 x) := by
    rw [List.set_append_right _ _ (by omega), hq, Nat.sub_self]
    rfl
  rw [e1] at hP1 hD1
  exact kk H1 locs1 ls hP1 hD1 hS1 hl
theorem G.ldO {o : Nat} {v : Nat → Int64} {i : Int32} (α : va_W) (q0 : Nat) (F : Fx κ A D K base cc own nL) (hω : ω = α ++ oW o K v) (hq : α.length = q0) (hi : i = 0) (hd : decode cc pc = .ok (.laload, 1))
    (kk : G κ l R A Q D nL cells slots ω (pc + 1) L (.long (v 0) :: S)) : G κ l R A Q D nL cells slots ω pc L (.int i :: .ref o :: S) := by
  subst hω; subst hi
  intro H locs ls hP hD hS hl
  have he : (α ++ oW o K v)[q0]? = some (o, .inl (K 4, 1, .inr (.inl v))) := by
    rw [List.getElem?_append_right (by omega), hq, Nat.sub_self]; rfl
  exact va_lald F.ex F.hb F.ev.1 hP q0 4 he rfl (by unfold vp_in; decide) hd (kk H locs ls hP hD hS hl)
theorem G.topl {x : Int64} (y : Int64) (h : x = y) (kk : G κ l R A Q D nL cells slots ω pc L (.long y :: S)) : G κ l R A Q D nL cells slots ω pc L (.long x :: S) := h ▸ kk
end LAW

-- ===== making =====
section INI
variable {κ : KM} {l : Launch} {R : Room} {A : Nat → Prop} {Q : State → Prop} {D : va_G} {K : Nat → ClassId} {base : Nat} {cc : ByteArray} {own : String} {nL cells slots pc : Nat} {σ σ' α ρ ω ω' : va_W} {L : List (Nat × Value)} {S : List Value}
variable {y : MethodName} {b : ByteArray} {n np idx a : Nat} {rm : Room} {av As rest : List Value} {H : Heap} {locs : List Loc} {ls : Array Slot}
theorem CtV.enterI (hy : plainName y.cls = true) (hn : (lg_sl av).length ≤ n)
    (body : ∀ (κ : KM) (A : Nat → Prop) (Q : State → Prop), Fx κ A D K base b y.cls n → κ.2.2.2.2.2.2.1.name = y.name → (∀ pc L, decode b pc = .ok (.return_, 1) → G κ l rm A Q D n rm.cells rm.slots σ' pc L []) → G κ l rm A Q D n 0 0 σ 0 (lv_args 0 av) []) : CtV l D K base y b n rm av σ σ' := by
  intro sz
  refine Met.ofW (cc := b) (maxL := n) (ret := none) hy rfl ?_
  intro p e s m args below meth c s₁ B hml hv
  obtain ⟨rfl, hsz, hP, hD0, hbz, hE⟩ := hv
  subst hsz
  have hts := atoms_spec (ws := .code y b n none :: WSg) B.pre
  have hl := lv_entry av (n := n) hn
  rw [lg_entry_eq]
  refine body (p, e, s, m, av.toArray, below, meth, c) (va_A σ s.heap.size) _ ⟨B.exec, B.bytes, hml, findClass_of_methodNamed B.named, fun w hw => hts w (List.mem_cons_of_mem _ hw), hE, A_base hD0 hbz, fun q h => Or.inr h, B.notSynchronized, hbz⟩ (name_of_methodNamed B.named B.method).1 ?_ s.heap [] _ hP hD0.self va_S.rf hl
  intro pc L hd H locs ls hP hD hS hl
  exact W.vret B.exec B.bytes B.returns (fun t ht hW => ⟨⟨(), rfl, trivial, by rw [ht]; exact hP, hD⟩, hS.F ht⟩) hS.2.2 hd B.notSynchronized
/-- a constructor whose world comes with new addresses: the places X of what it made -/
def CtN (l : Launch) (D : va_G) (K : Nat → ClassId) (base : Nat) (y : MethodName) (b : ByteArray) (n : Nat) (rm : Room) (av : List Value) (σ : va_W) (px : (Nat → Nat) → Prop) (σ' : (Nat → Nat) → va_W) : Prop :=
  ∀ sz, Met l y (.code y b n none :: WSg) rm (va_Pc av (PreC D K base σ sz)) (va_Qv px (fun X => PostC D σ (σ' X) sz) (va_A σ sz)) rm.cells rm.slots (va_A σ sz)
theorem CtN.enter {px : (Nat → Nat) → Prop} {σ' : (Nat → Nat) → va_W} (hy : plainName y.cls = true) (hn : (lg_sl av).length ≤ n)
    (body : ∀ (κ : KM) (A : Nat → Prop) (Q : State → Prop), Fx κ A D K base b y.cls n → κ.2.2.2.2.2.2.1.name = y.name → (∀ pc L X, px X → decode b pc = .ok (.return_, 1) → G κ l rm A Q D n rm.cells rm.slots (σ' X) pc L []) → G κ l rm A Q D n 0 0 σ 0 (lv_args 0 av) []) : CtN l D K base y b n rm av σ px σ' := by
  intro sz
  refine Met.ofW (cc := b) (maxL := n) (ret := none) hy rfl ?_
  intro p e s m args below meth c s₁ B hml hv
  obtain ⟨rfl, hsz, hP, hD0, hbz, hE⟩ := hv
  subst hsz
  have hts := atoms_spec (ws := .code y b n none :: WSg) B.pre
  have hl := lv_entry av (n := n) hn
  rw [lg_entry_eq]
  refine body (p, e, s, m, av.toArray, below, meth, c) (va_A σ s.heap.size) _ ⟨B.exec, B.bytes, hml, findClass_of_methodNamed B.named, fun w hw => hts w (List.mem_cons_of_mem _ hw), hE, A_base hD0 hbz, fun q h => Or.inr h, B.notSynchronized, hbz⟩ (name_of_methodNamed B.named B.method).1 ?_ s.heap [] _ hP hD0.self va_S.rf hl
  intro pc L X hX hd H locs ls hP hD hS hl
  exact W.vret B.exec B.bytes B.returns (fun t ht hW => ⟨⟨X, rfl, hX, by rw [ht]; exact hP, hD⟩, hS.F ht⟩) hS.2.2 hd B.notSynchronized
theorem G.putF {ci k N idx a : Nat} {C : String} {T : u_T} {fs : List Value} {v : Value} {ty : FieldType} (ty0 : Nat → FieldType) (q0 : Nat) (F : Fx κ A D K base cc own nL) (hin2 : κ.2.2.2.2.2.2.1.name = "<init>") (hty : ∀ k, k < N → parseFieldDescriptor (T k).2.2.1 = some (ty0 k)) (hnm : ∀ a, a < N → ∀ b, b < N → a ≠ b → (T a).2.1 ≠ (T b).2.1) (he : σ[q0]? = some (a, .inr (ci, fs))) (hc : cl4[ci]? = some (C, T, N)) (hin : ∀ w ∈ u_ws C T N, w ∈ WSg) (hk : k < N) (ho : (T k).1 = C) (how : C = own) (hl : FL own idx C (T k).2.1 (T k).2.2.1) (hlk : Cond.fieldLink own idx C (T k).2.1 (T k).2.2.1 ∈ WSg) (hfin : (T k).2.2.2 = true) (hd0 : ty0 k = ty) (hn : narrow ty v = v) (hfit : fits ty v = true) (hlen : k < fs.length) (hd : decode cc pc = .ok (.putfield idx, 3)) (hσ : σ.set q0 (a, .inr (ci, fs.set k v)) = σ')
    (kk : G κ l R A Q D nL cells slots σ' (pc + 3) L S) : G κ l R A Q D nL cells slots σ pc L (v :: .ref a :: S) := by
  intro H locs ls hP hD hS hl9
  have hd1 : parseFieldDescriptor (T k).2.2.1 = some ty := by rw [hty k hk, hd0]
  refine va_putF F.ex F.hb F.ts hin ty0 hty hnm F.ow F.ev.1 hP hD hS q0 he hc k hk (F.ts _ hlk) (fun x hx => by rw [ho] at hx; exact hx) hfin hin2 (ho.trans how) hd1 hn hfit hlen hd (fun H1 locs1 hP1 hD1 hS1 => ?_)
  rw [hσ] at hP1 hD1
  exact kk H1 locs1 ls hP1 hD1 hS1 hl9
theorem G.objI (F : Fx κ A D K base cc own nL) (hlk : Cond.methodLink own idx objectInit ∈ WSg) (hin : Cond.instanceMethod objectInit ∈ WSg) (hcd : Cond.code objectInit ⟨#[0xb1]⟩ 1 none ∈ WSg) (hR : 1 ≤ R.frames ∧ (S.map fun v => v.category).sum + 12 ≤ R.locals) (hd : decode cc pc = .ok (.invokespecial idx, 3))
    (kk : G κ l R A Q D nL cells slots σ (pc + 3) L S) : G κ l R A Q D nL cells slots σ pc L (.ref a :: S) := by
  intro H locs ls hP hD hS hl9
  refine W.objInit F.ex F.hb F.ow (F.ts _ hlk) (F.ts _ hin) (F.ts _ hcd) rfl (by rw [F.ml]; exact hl9.1) rfl hd hR.1 (by show 2 * 0 + _ + 12 ≤ _; omega) (kk H locs ls hP hD hS hl9)
theorem G.newc {ci N idx : Nat} {C : String} {T : u_T} {fs : List Value} (ty : Nat → FieldType) (F : Fx κ A D K base cc own nL) (hin : ∀ w ∈ u_ws C T N, w ∈ WSg) (hty : ∀ k, k < N → parseFieldDescriptor (T k).2.2.1 = some (ty k)) (hcl : Cond.classLink own idx C ∈ WSg) (hins : Cond.instantiable C N ∈ WSg) (hini : Cond.initialized C ∈ WSg) (hc : cl4[ci]? = some (C, T, N)) (hfs : ∀ j, j < N → defaultValue (ty j) = vp_V fs j) (hR : cells + 1 ≤ R.cells ∧ slots + N ≤ R.slots) (hd : decode cc pc = .ok (.new idx, 3))
    (kk : ∀ q, G κ l R A Q D nL (cells + 1) (slots + N) (σ ++ [(q, .inr (ci, fs))]) (pc + 3) L (.ref q :: S)) : G κ l R A Q D nL cells slots σ pc L S := by
  intro H locs ls hP hD hS hl9
  exact va_new F.ex F.hb F.ts hin ty hty F.ow (F.ts _ hcl) (F.ts _ hins) (F.ts _ hini) F.ev.1 hP hD hS F.an hc hfs hR.1 hR.2 hd (fun q H1 hP1 hD1 hS1 => kk q H1 locs ls hP1 hD1 hS1 hl9)
theorem G.newa {n : Int32} {N' t0 : Nat} {atype : ArrayType} {ty : FieldType} {a0 : vp_A} {kA : ClassId} (F : Fx κ A D K base cc own nL) (harr : Cond.arrayClass (newarray.typeOf atype) ∈ WSg) (hty : newarray.typeOf atype = ty) (hk : (TY K)[t0]? = some (kA, ty)) (hob : ∀ C, ty ≠ .object C) (ha : ∀ cA : ClassId, vp_cell cA a0 = arrV cA N' (fun _ => defaultValue ty)) (hn : ¬ n < 0) (hN : n.toNatClampNeg = N') (hbytes : N' * componentBytes ty ≤ 536870912) (hR : cells + 1 ≤ R.cells ∧ slots + N' ≤ R.slots) (hd : decode cc pc = .ok (.newarray atype, 2))
    (kk : ∀ q, G κ l R A Q D nL (cells + 1) (slots + N') (σ ++ [(q, .inl (kA, a0))]) (pc + 2) L (.ref q :: S)) : G κ l R A Q D nL cells slots σ pc L (.int n :: S) := by
  intro H locs ls hP hD hS hl9
  refine va_newa F.ex F.hb (F.ts _ harr) hty F.ev.1 hP hD hS F.an ha hn hN hbytes hR.1 hR.2 hd (fun q cA H1 hK1 hP1 hD1 hS1 => ?_)
  have h1 := (hK1.2 (TY K).length (cA, ty) (by rw [List.getElem?_append_right (Nat.le_refl _), Nat.sub_self]; rfl)).2
  have h2 := (F.ev.1.2 t0 _ hk).2
  have e : cA = kA := by
    cases ty with
    | object C => exact absurd rfl (hob C)
    | _ => exact Option.some.inj ((show κ.2.2.1.vm.findClass _ = some cA from h1).symm.trans (show κ.2.2.1.vm.findClass _ = some kA from h2))
  subst e
  exact kk q H1 locs ls hP1 hD1 hS1 hl9
theorem G.newq {n : Int32} {N' t0 : Nat} {C : String} {kA : ClassId} (F : Fx κ A D K base cc own nL) (hcl : Cond.classLink own idx C ∈ WSg) (hov : va_AO C κ.2.2.1) (hk : (TY K)[t0]? = some (kA, .object C)) (hn : ¬ n < 0) (hN : n.toNatClampNeg = N') (hbytes : N' * 4 ≤ 536870912) (hR : cells + 1 ≤ R.cells ∧ slots + N' ≤ R.slots) (hd : decode cc pc = .ok (.anewarray idx, 3))
    (kk : ∀ q, G κ l R A Q D nL (cells + 1) (slots + N') (σ ++ [(q, .inl (kA, N', .inr (.inr (.inr (.inr (fun _ => none))))))]) (pc + 3) L (.ref q :: S)) : G κ l R A Q D nL cells slots σ pc L (.int n :: S) := by
  intro H locs ls hP hD hS hl9
  refine va_newq F.ex F.hb F.ow (F.ts _ hcl) hov F.ev.1 hP hD hS F.an hn hN hbytes hR.1 hR.2 hd (fun q cA H1 hK1 hP1 hD1 hS1 => ?_)
  obtain ⟨k1, c1, -, -, -, h1⟩ := (hK1.2 (TY K).length (cA, .object C) (by rw [List.getElem?_append_right (Nat.le_refl _), Nat.sub_self]; rfl)).2
  obtain ⟨k2, c2, -, -, -, h2⟩ := (F.ev.1.2 t0 _ hk).2
  have e : cA = kA := Option.some.inj (h1.symm.trans h2)
  subst e
  exact kk q H1 locs ls hP1 hD1 hS1 hl9
theorem G.aast {v a : Nat} {i : Int32} {N' ci : Nat} {kA : ClassId} {r : vw_C} {vs : List Value} {f : Nat → Option Nat} (q0 t0 qk : Nat) (F : Fx κ A D K base cc own nL) (ha : σ[q0]? = some (a, .inl (kA, N', .inr (.inr (.inr (.inr f)))))) (ht : (TY K)[t0]? = some (kA, .object r.1)) (hv : σ[qk]? = some (v, .inr (ci, vs))) (hc : cl4[ci]? = some r) (hin : vp_in i N') (hσ : σ.set q0 (a, .inl (kA, N', .inr (.inr (.inr (.inr (va_up f i.toNatClampNeg (some v))))))) = σ') (hd : decode cc pc = .ok (.aastore, 1))
    (kk : G κ l R A Q D nL cells slots σ' (pc + 1) L S) : G κ l R A Q D nL cells slots σ pc L (.ref v :: .int i :: .ref a :: S) := by
  intro H locs ls hP hD hS hl9
  refine va_astq F.ex F.hb F.ev.1 hP hD hS q0 t0 qk ci ha ht hv hc hin hd (fun H1 locs1 hP1 hD1 hS1 => ?_)
  rw [hσ] at hP1 hD1
  exact kk H1 locs1 ls hP1 hD1 hS1 hl9
/-- what the tables say of a constructor's call -/
def CKi (own : String) (idx : Nat) (y : MethodName) (b : ByteArray) (n np : Nat) : Prop :=
  Cond.code y b n none ∈ WSg ∧ Cond.initialized y.cls ∈ WSg ∧ Cond.instanceMethod y ∈ WSg ∧ (Cond.methodLink own idx y ∈ WSg ∨ ∃ host, Cond.methodLinkNest own idx y host ∈ NWl) ∧ y.name = "<init>" ∧ (y.cls ≠ "java/lang/invoke/MethodHandle" ∧ y.cls ≠ "java/lang/invoke/VarHandle") ∧ (parseMethodDescriptor y.desc).map (fun d => d.parameters.length) = some np
theorem Fx.runi {Pc : Array Value → State → Prop} {Qc : Array Value → State → Outcome → State → Prop} {mc ms : Nat} {free : Addr → Prop} (F : Fx κ A D K base cc own nL) (ck : CKi own idx y b n np) (hM : Met l y (.code y b n none :: WSg) rm Pc Qc mc ms free) (hmc : rm.cells = mc) (hms : rm.slots = ms) (hR : rm.frames + 1 ≤ R.frames ∧ 8 + (n + 11) + rm.locals ≤ R.locals)
    (hp : PreS κ.2.2.1 H Pc (.ref a :: As)) (hn : As.length = np) (hsz : ls.size = nL) (hst : S = As.reverse ++ .ref a :: rest) (hW : (rest.map fun v => v.category).sum ≤ 8) (hd : decode cc pc = .ok (.invokespecial idx, 3)) (hf : cells + mc ≤ R.cells ∧ slots + ms ≤ R.slots) :
    va_Run κ.1 l κ.2.1 R κ.2.2.1 κ.2.2.2.1 κ.2.2.2.2.1 κ.2.2.2.2.2.1 κ.2.2.2.2.2.2.1 κ.2.2.2.2.2.2.2 H locs cells slots mc ms (F0 κ.2.2.2.1 pc ls S) rest (Qc (Value.ref a :: As).toArray) free := by
  obtain ⟨c1, c2, c3, c5, c8, c6, c7⟩ := ck
  have hlen : ∀ sig, parseMethodDescriptor y.desc = some sig → np = sig.parameters.length := fun sig h => by
    rw [h] at c7
    exact (Option.some.inj c7).symm
  rcases c5 with c5 | ⟨host, c5⟩
  · exact va_runI (cc := cc) (nL := nL) (Ts := WSg) (own := own) ⟨F.ex, F.hb, F.ml, F.ow, F.ts⟩ hM ⟨⟨hmc, hms, hR.1, hR.2, F.pay c1, List.mem_cons_self, F.ts _ c1, F.ts _ c2, c6, hlen, F.ts _ c5⟩, c8, F.ts _ c3⟩ hp rfl hn hsz hst (lv_room hW) hd hf
  · exact va_runIN (cc := cc) (nL := nL) (Ts := WSg) (own := own) (host := host) ⟨F.ex, F.hb, F.ml, F.ow, F.ts⟩ hM ⟨⟨⟨hmc, hms, hR.1, hR.2, F.pay c1, List.mem_cons_self⟩, F.ts _ c1, F.ts _ c2, c6, hlen, va_Nw.use rfl (F.ev.2.1 _ c5)⟩, c8, F.ts _ c3⟩ hp rfl hn hsz hst (lv_room hW) hd hf
theorem G.calliv (α ρ : va_W) (F : Fx κ A D K base cc own nL) (h : CtV l D K base y b n rm (.ref a :: As) σ σ') (hω : ω = α ++ (σ ++ ρ)) (hω' : α ++ (σ' ++ ρ) = ω') (ck : CKi own idx y b n np) (hz : rm.cells = 0 ∧ rm.slots = 0) (hR : rm.frames + 1 ≤ R.frames ∧ 8 + (n + 11) + rm.locals ≤ R.locals) (hf : cells ≤ R.cells ∧ slots ≤ R.slots) (hn : As.length = np) (hst : S = As.reverse ++ .ref a :: rest) (hW : (rest.map fun v => v.category).sum ≤ 8) (hd : decode cc pc = .ok (.invokespecial idx, 3))
    (kk : G κ l R A Q D nL cells slots ω' (pc + 3) L rest) : G κ l R A Q D nL cells slots ω pc L S := by
  subst hω; subst hω'
  intro H locs ls hP hD hS hl
  have hP0 := P_mid hP
  have hD0 := D_mid hD
  have hF := F.free hD0 hS
  have hM := h H.size
  rw [hz.1, hz.2] at hM
  refine va_callv (F.runi (np := np) (a := a) (As := As) (rest := rest) ck hM hz.1 hz.2 hR ⟨PreC.blind, F.pre hP0 hD0 hS⟩ hn hl.1 hst hW hd hf) hS (fun q _ h => hF q h) hF (fun u t H1 locs1 ht hvm hp hB hz1 hk1 hS1 => ?_)
  obtain ⟨hP1, hD1⟩ := hB
  rw [ht] at hP1
  obtain ⟨hPj, hDj⟩ := frame_join hP hD hk1 hF hP1 hD1
  exact kk H1 locs1 ls hPj hDj hS1 hl
theorem G.callin {px : (Nat → Nat) → Prop} {σ' : (Nat → Nat) → va_W} (α ρ : va_W) (F : Fx κ A D K base cc own nL) (h : CtN l D K base y b n rm (.ref a :: As) σ px σ') (hω : ω = α ++ (σ ++ ρ)) (ck : CKi own idx y b n np) (hR : rm.frames + 1 ≤ R.frames ∧ 8 + (n + 11) + rm.locals ≤ R.locals) (hf : cells + rm.cells ≤ R.cells ∧ slots + rm.slots ≤ R.slots) (hn : As.length = np) (hst : S = As.reverse ++ .ref a :: rest) (hW : (rest.map fun v => v.category).sum ≤ 8) (hd : decode cc pc = .ok (.invokespecial idx, 3))
    (kk : ∀ X, px X → G κ l R A Q D nL (cells + rm.cells) (slots + rm.slots) (α ++ (σ' X ++ ρ)) (pc + 3) L rest) : G κ l R A Q D nL cells slots ω pc L S := by
  subst hω
  intro H locs ls hP hD hS hl
  have hP0 := P_mid hP
  have hD0 := D_mid hD
  have hF := F.free hD0 hS
  refine va_callv (F.runi (np := np) (a := a) (As := As) (rest := rest) ck (h H.size) rfl rfl hR ⟨PreC.blind, F.pre hP0 hD0 hS⟩ hn hl.1 hst hW hd hf) hS (fun q _ h => hF q h) hF (fun X t H1 locs1 ht hvm hp hB hz1 hk1 hS1 => ?_)
  obtain ⟨hP1, hD1⟩ := hB
  rw [ht] at hP1
  obtain ⟨hPj, hDj⟩ := frame_join hP hD hk1 hF hP1 hD1
  exact kk X hp H1 locs1 ls hPj hDj hS1 hl
end INI

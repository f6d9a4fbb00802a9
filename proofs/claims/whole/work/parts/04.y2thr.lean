-- ===== methods that throw =====
/-- room for d calls one in another, and for one exception -/
def rmX (d : Nat) : Room := { frames := d + 6, cells := 1, slots := 6, locals := 30 * d + 100 }
def Xf (D : va_G) (σ : va_W) (E : String) (sz : Nat) : String → State → State → Prop := vx_X (fun _ : Unit => True) (fun E' _ t => E' = E ∧ PostC D σ σ sz t) (va_A σ sz)
/-- a method that throws E; its world stays -/
def CtX (l : Launch) (D : va_G) (K : Nat → ClassId) (base : Nat) (y : MethodName) (b : ByteArray) (n : Nat) (ret : Option FieldType) (rm : Room) (av : List Value) (σ : va_W) (E : String) : Prop :=
  ∀ sz, vx_Met l y (.code y b n ret :: WSg) rm (va_Pc av (PreC D K base σ sz)) (fun _ _ _ _ => False) (Xf D σ E sz) rm.cells rm.slots (va_A σ sz)
def Qx (κ : KM) (D : va_G) (σ : va_W) (E : String) : State → Prop := vx_MQ κ.2.2.2.2.2.1 (fun _ _ _ _ => False) (Xf D σ E κ.2.2.1.heap.size) κ.2.2.2.2.1 κ.2.2.1 1 6 (va_A σ κ.2.2.1.heap.size)
/-- what the tables say of 'throw new E(text)' -/
def TW (own : String) (ik is ic : Nat) (cls text : String) (names : List String) : Prop :=
  Bundle.fit cls = true ∧ (∀ n ∈ names, Bundle.fit n = true) ∧ Cond.classLink own ik cls ∈ WSg ∧ Cond.initialized cls ∈ WSg ∧ (own, is, text) ∈ STl ∧ (∀ w ∈ vx_atS own ic cls names, w ∈ WSg ∨ w ∈ NWl) ∧ ∀ w ∈ Cond.classLink own ik cls :: Cond.initialized cls :: vx_atS own ic cls names, vx_ot w = true
section THR
variable {κ : KM} {l : Launch} {R : Room} {A : Nat → Prop} {Q : State → Prop} {D : va_G} {K : Nat → ClassId} {base : Nat} {cc : ByteArray} {own E : String} {nL cells slots pc : Nat} {σ σ' α ρ : va_W} {L : List (Nat × Value)} {S : List Value}
variable {y : MethodName} {b : ByteArray} {n np idx a : Nat} {ret : Option FieldType} {rm : Room} {av As rest : List Value} {H : Heap} {locs : List Loc} {ls : Array Slot}
theorem CtX.enter (hy : plainName y.cls = true) (hn : (lg_sl av).length ≤ n) (hz : rm.cells = 1 ∧ rm.slots = 6)
    (body : ∀ (κ : KM), Fx κ (va_A σ κ.2.2.1.heap.size) D K base b y.cls n → (∀ x ∈ κ.2.2.2.2.2.2.2.exceptionTable.toList, False) → G κ l rm (va_A σ κ.2.2.1.heap.size) (Qx κ D σ E) D n 0 0 σ 0 (lv_args 0 av) []) : CtX l D K base y b n ret rm av σ E := by
  intro sz
  refine vx_ofW (cc := b) (maxL := n) (ret := ret) hy rfl ?_
  intro p e s m args below meth c s₁ B hml htab hv
  obtain ⟨rfl, hsz, hP, hD0, hbz, hE⟩ := hv
  subst hsz
  have hts := atoms_spec (ws := .code y b n ret :: WSg) B.pre
  have hl := lv_entry av (n := n) hn
  rw [lg_entry_eq, hz.1, hz.2]
  exact body (p, e, s, m, av.toArray, below, meth, c) ⟨B.exec, B.bytes, hml, findClass_of_methodNamed B.named, fun w hw => hts w (List.mem_cons_of_mem _ hw), hE, A_base hD0 hbz, fun q h => Or.inr h, B.notSynchronized, hbz⟩ htab s.heap [] _ hP hD0.self va_S.rf hl
theorem G.throwS {cls text : String} {names : List String} {ik is ic : Nat} (F : Fx κ (va_A σ κ.2.2.1.heap.size) D K base cc own nL) (htab : ∀ x ∈ κ.2.2.2.2.2.2.2.exceptionTable.toList, False) (hl : l.stackTraces = false) (hw : TW own ik is ic cls text names)
    (d0 : decode cc pc = .ok (.new ik, 3)) (d3 : decode cc (pc + 3) = .ok (.dup, 1)) (d4 : decode cc (pc + 4) = .ok (.ldc is, 2)) (d6 : decode cc (pc + 6) = .ok (.invokespecial ic, 3)) (d9 : decode cc (pc + 9) = .ok (.athrow, 1))
    (hR : names.length + 3 < R.frames ∧ (S.map fun v => v.category).sum + (13 * (names.length + 1) + 43) ≤ R.locals ∧ 1 ≤ R.cells ∧ 6 ≤ R.slots) : G κ l R (va_A σ κ.2.2.1.heap.size) (Qx κ D σ cls) D nL 0 0 σ pc L S := by
  intro H locs ls hP hD hS hl9
  obtain ⟨w1, w2, w3, w4, w5, w6, w7⟩ := hw
  obtain ⟨sa, hsa⟩ := F.ev.2.2.1 _ w5
  refine vx_throwS F.ex F.hb hl F.ow w1 w2 (F.ts _ w3) (F.ts _ w4) hsa (fun w h => ?_) w7 (F.ev.2.2.2.2.1.narrow F.ab) (F.ev.2.2.2.2.2.1.narrow F.ab) hS (hl9.1.trans F.ml.symm) d0 d3 d4 d6 d9 (fun x hx => absurd hx (htab x)) hR.1 hR.2.1 (by omega) (by omega) F.lk (fun t hvm hz hk => ?_) hS.2.2 (by omega) (by omega)
  · rcases w6 w h with h | h
    · exact F.ts _ h
    · exact va_Nw.use (nest_tab (List.mem_filter.mp h).2) (F.ev.2.1 _ h)
  · refine ⟨(), trivial, ⟨rfl, hP.kept (fun k q hq => hk q.1 (hP k q hq).lt), hD⟩, Nat.le_trans hS.1 hz, fun q h1 h2 => ?_⟩
    rw [hk q (Nat.lt_of_lt_of_le h1 hS.1)]
    exact hS.2.1 q h1 h2
theorem Fx.runx {Pc : Array Value → State → Prop} {Qc : Array Value → State → Outcome → State → Prop} {XC : String → State → State → Prop} {mc ms : Nat} {free : Addr → Prop} (F : Fx κ A D K base cc own nL) (ck : CK own idx y b n ret np) (hlk : Cond.methodLink own idx y ∈ WSg) (hM : vx_Met l y (.code y b n ret :: WSg) rm Pc Qc XC mc ms free) (hmc : rm.cells = mc) (hms : rm.slots = ms) (hR : rm.frames + 1 ≤ R.frames ∧ 8 + (n + 11) + rm.locals ≤ R.locals)
    (hp : PreV κ.2.2.1 H y.cls a Pc As) (hn : As.length = np) (hsz : ls.size = nL) (hst : S = As.reverse ++ .ref a :: rest) (hW : (rest.map fun v => v.category).sum ≤ 8) (hd : decode cc pc = .ok (.invokevirtual idx, 3)) (hf : cells + mc ≤ R.cells ∧ slots + ms ≤ R.slots) :
    vx_Run κ.1 l κ.2.1 R κ.2.2.1 κ.2.2.2.1 κ.2.2.2.2.1 κ.2.2.2.2.2.1 κ.2.2.2.2.2.2.1 κ.2.2.2.2.2.2.2 H locs cells slots mc ms (F0 κ.2.2.2.1 pc ls S) rest (Qc (Value.ref a :: As).toArray) XC free := by
  obtain ⟨c1, c2, c3, c4, c5, c6, c7⟩ := ck
  have hlen : ∀ sig, parseMethodDescriptor y.desc = some sig → np = sig.parameters.length := fun sig h => by
    rw [h] at c7
    exact (Option.some.inj c7).symm
  exact vx_runV (cc := cc) (nL := nL) (Ts := WSg) (own := own) ⟨F.ex, F.hb, F.ml, F.ow, F.ts⟩ hM ⟨⟨hmc, hms, hR.1, hR.2, F.pay c1, List.mem_cons_self, F.ts _ c1, F.ts _ c2, c6, hlen, F.ts _ hlk⟩, F.ts _ c3, F.ts _ c4⟩ hp rfl hn hsz hst (lv_room hW) hd hf
/-- a call that throws: what comes then is asked of the frame with the exception over it -/
theorem G.callX {q0 ci : Nat} {fs : List Value} {r : vw_C} (F : Fx κ A D K base cc own nL) (h : CtX l D K base y b n ret rm (.ref a :: As) σ E) (ck : CK own idx y b n ret np) (hlk : Cond.methodLink own idx y ∈ WSg) (hq : σ[q0]? = some (a, .inr (ci, fs))) (hc : cl4[ci]? = some r) (hr : r.1 = y.cls) (hz : rm.cells = 1 ∧ rm.slots = 6) (hR : rm.frames + 1 ≤ R.frames ∧ 8 + (n + 11) + rm.locals ≤ R.locals) (hf : cells + 1 ≤ R.cells ∧ slots + 6 ≤ R.slots) (hn : As.length = np) (hst : S = As.reverse ++ .ref a :: rest) (hW : (rest.map fun v => v.category).sum ≤ 8) (hd : decode cc pc = .ok (.invokevirtual idx, 3))
    (kk : ∀ (H : Heap) (locs : List Loc) (ls : Array Slot) (q : Addr) (ce : Cell), va_P D cl4 (α ++ (σ ++ ρ)) H → va_D A (α ++ (σ ++ ρ)) → va_S A κ.2.2.1.heap H locs → lv_has ls nL L → H[q]? = some ce → ce.vm = .none → κ.2.2.1.vm.findClass E = some ce.cls →
      vx_W κ.1 l κ.2.1 R κ.2.2.1 κ.2.2.2.1 κ.2.2.2.2.1 κ.2.2.2.2.2.1 κ.2.2.2.2.2.2.1 κ.2.2.2.2.2.2.2 H locs (cells + 1) (slots + 6) Q (F0 κ.2.2.2.1 pc ls rest) q) : G κ l R A Q D nL cells slots (α ++ (σ ++ ρ)) pc L S := by
  intro H locs ls hP hD hS hl
  have hP1 := P_mid hP
  have hD1 := D_mid hD
  have hF := F.free hD1 hS
  have hM := h H.size
  rw [hz.1, hz.2] at hM
  have hrun := F.runx (np := np) (a := a) (As := As) (rest := rest) (locs := locs) (cells := cells) (slots := slots) ck hlk hM hz.1 hz.2 hR ⟨PreC.blind, F.recv hP1 hq hc hr, F.pre hP1 hD1 hS⟩ hn hl.1 hst hW hd hf
  intro T hT X
  rcases hrun T hT X with ⟨v, st₀, t, T', L', h0, X', hL, e1, e2, hq, st⟩ | ⟨q, st₀, t, T', L', E', ce, h0, X', hL, e1, e2, ⟨u, -, ⟨rfl, hPt, hDt⟩, hFt⟩, hce, hcv, hcl, st⟩
  · exact absurd hq id
  · obtain ⟨k1, k2, k3⟩ := vx_keep h0 e1 hS (fun q _ h => hF q h) hF hL hFt
    rw [← e1] at hPt
    obtain ⟨hPj, hDj⟩ := frame_join hP hD k2 hF hPt hDt
    obtain ⟨t2, a1, b1⟩ := kk T'.heap (locs ++ L') ls q ce hPj hDj k3 hl (by rw [e1]; exact hce) hcv hcl T' rfl X'
    exact ⟨t2, st.trans a1, b1⟩
/-- .. and goes on to the caller's caller -/
theorem G.callXo {q0 ci : Nat} {fs : List Value} {r : vw_C} (F : Fx κ (va_A σ κ.2.2.1.heap.size) D K base cc own nL) (htab : ∀ x ∈ κ.2.2.2.2.2.2.2.exceptionTable.toList, False) (h : CtX l D K base y b n ret rm (.ref a :: As) σ E) (ck : CK own idx y b n ret np) (hlk : Cond.methodLink own idx y ∈ WSg) (hq : σ[q0]? = some (a, .inr (ci, fs))) (hc : cl4[ci]? = some r) (hr : r.1 = y.cls) (hz : rm.cells = 1 ∧ rm.slots = 6) (hR : rm.frames + 1 ≤ R.frames ∧ 8 + (n + 11) + rm.locals ≤ R.locals) (hf : 0 + 1 ≤ R.cells ∧ 0 + 6 ≤ R.slots) (hn : As.length = np) (hst : S = As.reverse ++ .ref a :: rest) (hW : (rest.map fun v => v.category).sum ≤ 8) (hd : decode cc pc = .ok (.invokevirtual idx, 3)) :
    G κ l R (va_A σ κ.2.2.1.heap.size) (Qx κ D σ E) D nL 0 0 σ pc L S := by
  have e0 : ([] : va_W) ++ (σ ++ []) = σ := by simp
  rw [← e0]
  refine G.callX (α := []) (ρ := []) (rest := rest) (by rw [e0]; exact F) h ck hlk hq hc hr hz hR hf hn hst hW hd ?_
  intro H locs ls q ce hP hD hS hl hce hcv hcl
  rw [e0] at hP hD hS ⊢
  refine vx_out (E := E) (fun x hx => absurd hx (htab x)) F.lk hce hcv hcl (fun t ht hvm => ⟨(), trivial, ⟨rfl, by rw [ht]; exact hP, hD⟩, hS.F ht⟩) hS.2.2 (Nat.le_refl _) (Nat.le_refl _)
end THR

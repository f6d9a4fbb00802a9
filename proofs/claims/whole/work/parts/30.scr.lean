-- ===== the script =====
def PreX (D : va_G) (K : Nat → ClassId) (base : Nat) (b L : Nat) (xs : Nat → Int32) (sz : Nat) (U : State) : Prop := PreC D K base [] sz U ∧ va_X b L xs U U.heap ∧ b < base
/-- a static method that reads the script -/
def CtIX (l : Launch) (D : va_G) (K : Nat → ClassId) (base : Nat) (y : MethodName) (bc : ByteArray) (n : Nat) (rm : Room) (av : List Value) (b L : Nat) (xs : Nat → Int32) (r : Int32) : Prop :=
  ∀ sz, Met l y (.code y bc n (some .int) :: WSg) rm (va_Pc av (PreX D K base b L xs sz)) (va_Qi (fun (x : Int32) (_ : Unit) => x = r) (fun _ => PostC D [] [] sz) (va_A [] sz)) rm.cells rm.slots (va_A [] sz)
def f_cell (L : Nat) (xs : Nat → Int32) : Int32 := if Int32.ofNat L ≤ 0 then 0 else xs 0
section SCR
variable {κ : KM} {l : Launch} {R : Room} {A : Nat → Prop} {Q : State → Prop} {D : va_G} {K : Nat → ClassId} {base : Nat} {cc : ByteArray} {own : String} {nL cells slots pc : Nat} {σ σ' α β ρ ω ω' : va_W} {L : List (Nat × Value)} {S : List Value}
variable {y : MethodName} {bc : ByteArray} {n np idx a : Nat} {rm : Room} {av As rest : List Value} {b N : Nat} {xs : Nat → Int32}
theorem G.sld {i : Int32} (F : Fx κ A D K base cc own nL) (hX : va_X b N xs κ.2.2.1 κ.2.2.1.heap) (hb : b < base) (hin : vp_in i N) (hd : decode cc pc = .ok (.iaload, 1)) (kk : G κ l R A Q D nL cells slots σ (pc + 1) L (.int (xs i.toNatClampNeg) :: S)) : G κ l R A Q D nL cells slots σ pc L (.int i :: .ref b :: S) :=
  fun H locs ls hP hD hS hl => va_sld F.ex F.hb hX (Nat.lt_of_lt_of_le hb F.bs) (fun h => by have := F.ab _ h; omega) hS hin hd (kk H locs ls hP hD hS hl)
theorem G.slen (F : Fx κ A D K base cc own nL) (hX : va_X b N xs κ.2.2.1 κ.2.2.1.heap) (hb : b < base) (hd : decode cc pc = .ok (.arraylength, 1)) (kk : G κ l R A Q D nL cells slots σ (pc + 1) L (.int (Int32.ofNat N) :: S)) : G κ l R A Q D nL cells slots σ pc L (.ref b :: S) :=
  fun H locs ls hP hD hS hl => va_slen F.ex F.hb hX (Nat.lt_of_lt_of_le hb F.bs) (fun h => by have := F.ab _ h; omega) hS hd (kk H locs ls hP hD hS hl)
theorem nI_plus (i k : Nat) : nI i + nI k = nI (i + k) := (Int32.ofNat_add ..).symm
/-- script[i + k] -/
theorem G.arg {i : Nat} {n1 : Int} (k q0 q4 : Nat) (F : Fx κ A D K base cc own nL) (hX : va_X b N xs κ.2.2.1 κ.2.2.1.heap) (hb : b < base) (h0 : L[q0]? = some (0, .ref b)) (h4 : L[q4]? = some (4, .int (nI i))) (hk : i + k < N) (hN : N ≤ 2049) (hn1 : Int32.ofInt n1 = nI k)
    (d0 : decode cc pc = .ok (.aload_n 0, 1)) (d1 : decode cc (pc + 1) = .ok (.iload 4, 2)) (d2 : decode cc (pc + 1 + 2) = .ok (.iconst n1, 1)) (d3 : decode cc (pc + 1 + 2 + 1) = .ok (.iadd, 1)) (d4 : decode cc (pc + 1 + 2 + 1 + 1) = .ok (.iaload, 1))
    (kk : G κ l R A Q D nL cells slots σ (pc + 1 + 2 + 1 + 1 + 1) L (.int (xs (i + k)) :: S)) : G κ l R A Q D nL cells slots σ pc L S := by
  refine G.aload_n q0 F d0 rfl h0 ?_
  refine G.iload q4 F d1 h4 ?_
  refine G.iconst (nI k) F d2 hn1 ?_
  refine G.iadd F d3 ?_
  rw [nI_plus]
  refine G.sld F hX hb (vp_in_nI hk (by omega)) d4 ?_
  rw [nI_clamp (by omega)]
  exact kk
theorem CtIX.enter {r : Int32} (hy : plainName y.cls = true) (hn : (lg_sl av).length ≤ n)
    (body : ∀ (κ : KM) (A : Nat → Prop) (Q : State → Prop), Fx κ A D K base bc y.cls n → va_X b N xs κ.2.2.1 κ.2.2.1.heap → b < base → (∀ pc L v, decode bc pc = .ok (.ireturn, 1) → v = r → G κ l rm A Q D n rm.cells rm.slots [] pc L [.int v]) → G κ l rm A Q D n 0 0 [] 0 (lv_args 0 av) []) : CtIX l D K base y bc n rm av b N xs r := by
  intro sz
  refine Met.ofW (cc := bc) (maxL := n) (ret := some .int) hy rfl ?_
  intro p e s m args below meth c s₁ B hml hv
  obtain ⟨rfl, ⟨hsz, hP, hD0, hbz, hE⟩, hX, hb⟩ := hv
  subst hsz
  have hts := atoms_spec (ws := .code y bc n (some .int) :: WSg) B.pre
  have hl := lv_entry av (n := n) hn
  rw [lg_entry_eq]
  refine body (p, e, s, m, av.toArray, below, meth, c) (va_A [] s.heap.size) _ ⟨B.exec, B.bytes, hml, findClass_of_methodNamed B.named, fun w hw => hts w (List.mem_cons_of_mem _ hw), hE, A_base hD0 hbz, fun q h => Or.inr h, B.notSynchronized, hbz⟩ hX hb ?_ s.heap [] _ hP hD0.self va_S.rf hl
  intro pc L v hd hv H locs ls hP hD hS hl
  exact W.zret B.exec B.bytes B.returns rfl (fun t ht hW => ⟨⟨v, (), rfl, hv, by rw [ht]; exact hP, hD⟩, hS.F ht⟩) hS.2.2 hd B.notSynchronized
theorem k_cell (l : Launch) (D : va_G) (K : Nat → ClassId) (base b N : Nat) (xs : Nat → Int32) (hN : N ≤ 2049) : CtIX l D K base yL_cell cL_cell 2 (rmD 0) [.ref b, .int 0] b N xs (f_cell N xs) := by
  refine CtIX.enter (by decide) (Nat.le_of_ble_eq_true rfl) ?_
  intro κ A Q F hX hb hE
  show G κ l (rmD 0) A Q D 2 0 0 [] 0 [(0, .ref b), (1, .int 0)] []
  refine G.iload_n 1 F dL_cell_0 rfl rfl ?_
  refine G.aload_n 0 F dL_cell_1 rfl rfl ?_
  refine G.slen F hX hb dL_cell_2 ?_
  refine G.icmp_ge 12 F dL_cell_3 rfl (fun h => ?_) (fun h => ?_)
  · refine G.iconst 0 F dL_cell_12 (by decide) ?_
    exact hE _ _ _ dL_cell_13 (if_pos h).symm
  · refine G.aload_n 0 F dL_cell_6 rfl rfl ?_
    refine G.iload_n 1 F dL_cell_7 rfl rfl ?_
    have h0 : 0 < N := by
      rcases Nat.eq_zero_or_pos N with q | q
      · exact absurd (by rw [q]; decide) h
      · exact q
    refine G.sld F hX hb (show vp_in (nI 0) N from vp_in_nI h0 (by omega)) dL_cell_8 ?_
    refine G.goto 13 F dL_cell_9 rfl ?_
    exact hE _ _ _ dL_cell_13 (if_neg h).symm
theorem G.callCell {v : Int32} (F : Fx κ A D K base cc own nL) (hX : va_X b N xs κ.2.2.1 κ.2.2.1.heap) (hb : b < base) (h : CtIX l D K base y bc n rm As b N xs v) (ck : CKs own idx y bc n (some .int) np) (hz : rm.cells = 0 ∧ rm.slots = 0) (hR : rm.frames + 1 ≤ R.frames ∧ 8 + (n + 11) + rm.locals ≤ R.locals) (hf : cells ≤ R.cells ∧ slots ≤ R.slots) (hn : As.length = np) (hst : S = As.reverse ++ rest) (hW : (rest.map fun v => v.category).sum ≤ 8) (hd : decode cc pc = .ok (.invokestatic idx, 3))
    (kk : G κ l R A Q D nL cells slots σ (pc + 3) L (.int v :: rest)) : G κ l R A Q D nL cells slots σ pc L S := by
  intro H locs ls hP hD hS hl
  have hP0 : va_P D cl4 (σ ++ (([] : va_W) ++ [])) H := by simpa using hP
  have hD0 : va_D A (σ ++ (([] : va_W) ++ [])) := by simpa using hD
  have hP1 := P_mid hP0
  have hD1 := D_mid hD0
  have hF := F.free hD1 hS
  have hM := h H.size
  rw [hz.1, hz.2] at hM
  have hbk : H[b]? = κ.2.2.1.heap[b]? := hS.2.1 b (Nat.lt_of_lt_of_le hb F.bs) (fun h => by have := F.ab _ h; omega)
  have blind : FrameBlind (va_Pc As (PreX D K base b N xs H.size)) := by
    intro a U g mk h
    obtain ⟨h0, ⟨h1, h2, h3, h4, h5⟩, h6, h7⟩ := h
    exact ⟨h0, ⟨h1, h2, h3, h4, h5.warm (State.WarmedH.refl U) (fun _ _ _ => rfl)⟩, h6.moved (State.WarmedH.refl U).alike, h7⟩
  have pre : ∀ U : State, U.heap = H → κ.2.2.1.WarmedH U.vm → va_Pc As (PreX D K base b N xs H.size) As.toArray U := by
    intro U hU hW
    have := F.pre (av := As) hP1 hD1 hS U hU hW
    refine ⟨this.1, this.2, ?_, hb⟩
    rw [hU]
    exact (hX.kept hbk).moved hW.alike
  refine va_calli (F.runs (np := np) (As := As) (rest := rest) ck hM hz.1 hz.2 hR ⟨blind, pre⟩ hn hl.1 hst hW hd hf) hS (fun q _ h => hF q h) hF (fun x u t H1 locs1 ht hvm hp hB hz1 hk1 hS1 => ?_)
  obtain ⟨hPa, hDa⟩ := hB
  rw [ht] at hPa
  subst hp
  obtain ⟨hPj, hDj⟩ := frame_join hP0 hD0 hk1 hF hPa hDa
  exact kk H1 locs1 ls (by simpa using hPj) (by simpa using hDj) hS1 hl
/-- the parts of the world in another order -/
theorem G.swap (hω : ω = α ++ (β ++ ρ)) (kk : G κ l R A Q D nL cells slots (β ++ (α ++ ρ)) pc L S) : G κ l R A Q D nL cells slots ω pc L S := by
  subst hω
  have hp : (α ++ (β ++ ρ)).Perm (β ++ (α ++ ρ)) := by
    rw [← List.append_assoc, ← List.append_assoc]
    exact List.Perm.append_right ρ List.perm_append_comm
  intro H locs ls hP hD hS hl
  refine kk H locs ls (P_iff.mpr fun q hq => P_iff.mp hP q (hp.mem_iff.mpr hq)) ?_ hS hl
  rw [D_iff] at hD ⊢
  exact ⟨(hp.map _).nodup_iff.mp hD.1, fun q hq => hD.2 q (hp.mem_iff.mpr hq)⟩
theorem lim_nlt {i : Nat} (hN : N ≤ 2049) (hi : i ≤ 4000) (h : ¬ Int32.ofNat N - 4 < nI i) : i + 4 ≤ N := by
  rw [Int32.lt_iff_toInt_lt, nI_toInt (by omega), Int32.toInt_sub, show (Int32.ofNat N).toInt = (N : Int) from nI_toInt (n := N) (by omega), show (4 : Int32).toInt = 4 from rfl, Int.bmod_eq_of_le (by omega) (by omega)] at h
  omega
theorem cmp_self (x : Int64) : lg_cmp x x = 0 := by
  unfold lg_cmp
  simp
end SCR

-- ===== the class's constructors =====
def refs (f : Nat → Option Nat) : (Nat → Int32) ⊕ (Nat → Int64) ⊕ (Nat → UInt32) ⊕ (Nat → UInt64) ⊕ (Nat → Option Nat) := .inr (.inr (.inr (.inr f)))
def bI : List Value := [.int 0, .int 0, .int 0, .int 0, .int 0, .int (-1)]
def wI (n : Int32) : List Value := [.int n, .int 0, .int 0, .int 0, .int 0, .int 0, .int 0, .int 0, .int 0, .int 0, .int 0, .int (-1), .int (-1), .int (-1), .int (-1), .int (-1)]
def w0 : List Value := [.int 0, .int 0, .int 0, .int 0, .int 0, .int 0, .int 0, .int 0, .int 0, .int 0, .int 0, .int 0, .int 0, .int 0, .int 0, .int 0]
def sch (v : Int32) : Int32 := if v = 1 then v else if v = 2 then v else 0
def c0 (s : Int32) : CS := fun f i => if f = 5 then -1 else if f = 6 then nI i else if f = 17 ∨ f = 18 ∨ f = 19 ∨ f = 20 ∨ f = 21 then -1 else if f = 22 ∧ i = 0 then s else 0
def eB (X : Nat → Nat) (K : Nat → ClassId) (s : Int32) (k i : Nat) : va_E :=
  if i = 0 then .inr (0, [.int s, .ref (X 1), .null, .int 0, .int 0])
  else if i = 1 then .inl (K 0, 21, refs (fun j => if j < k then some (X (2 + j)) else none))
  else .inr (1, bI)
def eT (X : Nat → Nat) (K : Nat → ClassId) (s : Int32) (k i : Nat) : va_E :=
  if i = 0 then .inr (0, [.int s, .ref (X 1), .ref (X 23), .int 0, .int 0])
  else if i = 1 then .inl (K 0, 21, refs (fun j => if j < 21 then some (X (2 + j)) else none))
  else if i < 23 then .inr (1, bI)
  else if i = 23 then .inl (K 1, 4, refs (fun j => if j < k then some (X (24 + j)) else none))
  else .inr (2, wI (nI (i - 24)))
theorem gW_last {n : Nat} {X : Nat → Nat} {E : Nat → va_E} {q : Nat} {e : va_E} : (gW n X E ++ [(q, e)])[n]? = some (q, e) := by
  rw [List.getElem?_append_right (Nat.le_of_eq (gW_len ..)), gW_len, Nat.sub_self]; rfl
theorem gW_old {n i : Nat} {X : Nat → Nat} {E : Nat → va_E} {q : Nat} {e : va_E} (h : i < n) : (gW n X E ++ [(q, e)])[i]? = some (X i, E i) := by
  rw [List.getElem?_append_left (by rw [gW_len]; exact h), gW_get h]
/-- a cell more, and the cell i set -/
theorem gW_more {n i : Nat} {X X' : Nat → Nat} {E E' : Nat → va_E} {q : Nat} {e e1 : va_E} (hi : i < n) (h1 : E' i = e1) (hn : X' n = q) (he : E' n = e) (hX : ∀ j, j < n → X' j = X j) (hE : ∀ j, j < n → j ≠ i → E' j = E j) : (gW n X E ++ [(q, e)]).set i (X i, e1) = gW (n + 1) X' E' := by
  refine gW_ext (by rw [List.length_set, List.length_append, gW_len]; rfl) (fun j hj => ?_)
  by_cases hji : j = i
  · subst hji
    rw [List.getElem?_set_self (by rw [List.length_append, gW_len]; omega), hX j hi, h1]
  · rw [List.getElem?_set_ne (Ne.symm hji)]
    by_cases hjn : j = n
    · subst hjn
      rw [gW_last, hn, he]
    · rw [gW_old (by omega), hX j (by omega), hE j (by omega) hji]
theorem eB_step {X : Nat → Nat} {K : Nat → ClassId} {s : Int32} {k q : Nat} {f : Nat → Option Nat} (hk : k < 21) (hf : f = fun j => if j < k then some (X (2 + j)) else none) : (gW (2 + k) X (eB X K s k) ++ ([(q, .inr (1, bI))] : va_W)).set 1 (X 1, .inl (K 0, 21, refs (va_up f (nI k).toNatClampNeg (some q)))) = gW (2 + (k + 1)) (va_up X (2 + k) q) (eB (va_up X (2 + k) q) K s (k + 1)) := by
  have h1 : va_up X (2 + k) q 1 = X 1 := va_up_ne _ _ (by omega)
  refine gW_more (by omega) ?_ (va_up_self ..) ?_ (fun j hj => va_up_ne _ _ (by omega)) (fun j hj hj1 => ?_)
  · unfold eB
    rw [if_neg (by decide), if_pos rfl, nI_clamp (by omega)]
    congr 4
    subst hf
    funext j
    by_cases hj : j = k
    · subst hj
      rw [va_up_self, if_pos (by omega), va_up_self]
    · rw [va_up_ne _ _ hj, va_up_ne _ _ (by omega)]
      by_cases hjk : j < k
      · rw [if_pos hjk, if_pos (by omega)]
      · rw [if_neg hjk, if_neg (by omega)]
  · unfold eB
    rw [if_neg (by omega), if_neg (by omega)]
  · unfold eB
    by_cases h0 : j = 0
    · rw [if_pos h0, if_pos h0, h1]
    · rw [if_neg h0, if_neg h0, if_neg hj1, if_neg hj1]
theorem eT_step {X : Nat → Nat} {K : Nat → ClassId} {s : Int32} {k q : Nat} {f : Nat → Option Nat} (hk : k < 4) (hf : f = fun j => if j < k then some (X (24 + j)) else none) : (gW (24 + k) X (eT X K s k) ++ ([(q, .inr (2, wI (nI k)))] : va_W)).set 23 (X 23, .inl (K 1, 4, refs (va_up f (nI k).toNatClampNeg (some q)))) = gW (24 + (k + 1)) (va_up X (24 + k) q) (eT (va_up X (24 + k) q) K s (k + 1)) := by
  have h1 : ∀ j, j < 24 → va_up X (24 + k) q j = X j := fun j hj => va_up_ne _ _ (by omega)
  refine gW_more (by omega) ?_ (va_up_self ..) ?_ (fun j hj => va_up_ne _ _ (by omega)) (fun j hj hj1 => ?_)
  · unfold eT
    rw [if_neg (by decide), if_neg (by decide), if_neg (by decide), if_pos rfl, nI_clamp (by omega)]
    congr 4
    subst hf
    funext j
    by_cases hj : j = k
    · subst hj
      rw [va_up_self, if_pos (by omega), va_up_self]
    · rw [va_up_ne _ _ hj, va_up_ne _ _ (by omega)]
      by_cases hjk : j < k
      · rw [if_pos hjk, if_pos (by omega)]
      · rw [if_neg hjk, if_neg (by omega)]
  · unfold eT
    rw [if_neg (by omega), if_neg (by omega), if_neg (by omega), if_neg (by omega), show 24 + k - 24 = k by omega]
  · unfold eT
    by_cases h0 : j = 0
    · rw [if_pos h0, if_pos h0, h1 1 (by decide), h1 23 (by decide)]
    · rw [if_neg h0, if_neg h0]
      by_cases h2 : j = 1
      · rw [if_pos h2, if_pos h2]
        congr 4
        funext j
        by_cases hj : j < 21
        · rw [if_pos hj, if_pos hj, h1 _ (by omega)]
        · rw [if_neg hj, if_neg hj]
      · rw [if_neg h2, if_neg h2]
        by_cases h3 : j < 23
        · rw [if_pos h3, if_pos h3]
        · rw [if_neg h3, if_neg h3, if_neg hj1, if_neg hj1]
/-- the same cells by other functions -/
theorem at_refs {D : va_G} {cl : List vw_C} {a n : Nat} {cA : ClassId} {f g : Nat → Option Nat} {H : Heap} (h : ∀ j, j < n → f j = g j) (hf : va_at D cl (a, .inl (cA, n, refs f)) H) : va_at D cl (a, .inl (cA, n, refs g)) H := by
  have e : vp_cell cA (n, refs f) = vp_cell cA (n, refs g) := by
    show vp_cell cA (n, .inr (.inr (.inr (.inr f)))) = vp_cell cA (n, .inr (.inr (.inr (.inr g))))
    rw [vp_cell_q, vp_cell_q]
    unfold arrV
    congr 1
    apply Array.ext
    · simp
    · intro i h1 h2
      simp only [Array.getElem_ofFn]
      rw [h i (by simpa using h1)]
  show H[a]? = some (vp_cell cA (n, refs g))
  rw [← e]
  exact hf
theorem G.conv {κ : KM} {l : Launch} {R : Room} {A : Nat → Prop} {Q : State → Prop} {D : va_G} {nL cells slots pc n : Nat} {X : Nat → Nat} {E E' : Nat → va_E} {L : List (Nat × Value)} {S : List Value} (h : ∀ i, i < n → ∀ H, va_at D cl4 (X i, E i) H → va_at D cl4 (X i, E' i) H) (kk : G κ l R A Q D nL cells slots (gW n X E') pc L S) : G κ l R A Q D nL cells slots (gW n X E) pc L S := by
  intro H locs ls hP hD hS hl
  refine kk H locs ls (fun k q hq => ?_) ?_ hS hl
  · have hk : k < n := by
      have := (List.getElem?_eq_some_iff.mp hq).1
      rw [gW_len] at this; exact this
    rw [gW_get hk] at hq
    cases hq
    exact h k hk H (hP k _ (gW_get hk))
  · rw [D_iff] at hD ⊢
    have e : (gW n X E).map (·.1) = (gW n X E').map (·.1) := by simp [gW]
    refine ⟨e ▸ hD.1, fun q hq => ?_⟩
    have : q.1 ∈ (gW n X E').map (·.1) := List.mem_map.mpr ⟨q, hq, rfl⟩
    rw [← e] at this
    obtain ⟨z, hz, hzq⟩ := List.mem_map.mp this
    have := hD.2 z hz
    rw [hzq] at this
    exact this
theorem eT_cE {D : va_G} {cl : List vw_C} {X : Nat → Nat} {K : Nat → ClassId} {s : Int32} {i : Nat} {H : Heap} (hi : i < 28) (h : va_at D cl (X i, eT X K s 4 i) H) : va_at D cl (X i, cE X K (c0 s) i) H := by
  unfold eT at h
  unfold cE
  by_cases h0 : i = 0
  · subst h0
    exact h
  · rw [if_neg h0] at h ⊢
    by_cases h1 : i = 1
    · subst h1
      exact at_refs (fun j hj => if_pos hj) h
    · rw [if_neg h1] at h ⊢
      by_cases h2 : i < 23
      · rw [if_pos h2] at h ⊢
        exact h
      · rw [if_neg h2] at h ⊢
        by_cases h3 : i = 23
        · subst h3
          exact at_refs (fun j hj => if_pos hj) h
        · rw [if_neg h3] at h ⊢
          exact h
theorem ob_S : Cond.methodLink RS 1 objectInit ∈ WSg := WSg_in (List.mem_of_getElem? (i := 76) (by decide +kernel)) rfl
theorem ob_B : Cond.methodLink RB 3 objectInit ∈ WSg := WSg_in (List.mem_of_getElem? (i := 85) (by decide +kernel)) rfl
theorem ob_K : Cond.methodLink RK 3 objectInit ∈ WSg := WSg_in (List.mem_of_getElem? (i := 117) (by decide +kernel)) rfl
theorem ob_M : Cond.methodLink RM 1 objectInit ∈ WSg := WSg_in (List.mem_of_getElem? (i := 581) (by decide +kernel)) rfl
theorem ob_i : Cond.instanceMethod objectInit ∈ WSg := WSg_in (List.mem_of_getElem? (i := 77) (by decide +kernel)) rfl
theorem ob_c : Cond.code objectInit ⟨#[0xb1]⟩ 1 none ∈ WSg := WSg_in (List.mem_of_getElem? (i := 78) (by decide +kernel)) rfl
theorem in_L : Cond.initialized RL ∈ WSg := WSg_in (List.mem_of_getElem? (i := 58) (by decide +kernel)) rfl
theorem in_S : Cond.initialized RS ∈ WSg := WSg_in (List.mem_of_getElem? (i := 59) (by decide +kernel)) rfl
theorem in_B : Cond.initialized RB ∈ WSg := WSg_in (List.mem_of_getElem? (i := 60) (by decide +kernel)) rfl
theorem in_K : Cond.initialized RK ∈ WSg := WSg_in (List.mem_of_getElem? (i := 61) (by decide +kernel)) rfl
theorem in_M : Cond.initialized RM ∈ WSg := WSg_in (List.mem_of_getElem? (i := 62) (by decide +kernel)) rfl
theorem itS : Cond.instantiable RS 5 ∈ WSg := WSg_in (List.mem_of_getElem? (i := 72) (by decide +kernel)) rfl
theorem ciL_59 : CKi RL 59 yS_init cS_init 3 1 := ⟨WSg_in (List.mem_of_getElem? (i := 75) (by decide +kernel)) rfl, WSg_in (List.mem_of_getElem? (i := 59) (by decide +kernel)) rfl, WSg_in (List.mem_of_getElem? (i := 74) (by decide +kernel)) rfl, Or.inl (WSg_in (List.mem_of_getElem? (i := 73) (by decide +kernel)) rfl), rfl, ⟨by decide, by decide⟩, by decide +kernel⟩
theorem clS_13 : Cond.classLink RS 13 RB ∈ WSg := WSg_in (List.mem_of_getElem? (i := 79) (by decide +kernel)) rfl
theorem itB : Cond.instantiable RB 6 ∈ WSg := WSg_in (List.mem_of_getElem? (i := 81) (by decide +kernel)) rfl
theorem ciS_19 : CKi RS 19 yB_init cB_init 1 0 := ⟨WSg_in (List.mem_of_getElem? (i := 84) (by decide +kernel)) rfl, WSg_in (List.mem_of_getElem? (i := 60) (by decide +kernel)) rfl, WSg_in (List.mem_of_getElem? (i := 83) (by decide +kernel)) rfl, Or.inr ⟨"SteppedList", NWl_in (List.mem_of_getElem? (i := 82) (by decide +kernel)) rfl⟩, rfl, ⟨by decide, by decide⟩, by decide +kernel⟩
theorem clS_20 : Cond.classLink RS 20 RK ∈ WSg := WSg_in (List.mem_of_getElem? (i := 111) (by decide +kernel)) rfl
theorem itK : Cond.instantiable RK 16 ∈ WSg := WSg_in (List.mem_of_getElem? (i := 113) (by decide +kernel)) rfl
theorem ciS_26 : CKi RS 26 yK_init cK_init 2 1 := ⟨WSg_in (List.mem_of_getElem? (i := 116) (by decide +kernel)) rfl, WSg_in (List.mem_of_getElem? (i := 61) (by decide +kernel)) rfl, WSg_in (List.mem_of_getElem? (i := 115) (by decide +kernel)) rfl, Or.inr ⟨"SteppedList", NWl_in (List.mem_of_getElem? (i := 114) (by decide +kernel)) rfl⟩, rfl, ⟨by decide, by decide⟩, by decide +kernel⟩
theorem ar_byte : Cond.arrayClass .byte ∈ WSg := WSg_in (List.mem_of_getElem? (i := 299) (by decide +kernel)) rfl
theorem itM : Cond.instantiable RM 24 ∈ WSg := WSg_in (List.mem_of_getElem? (i := 577) (by decide +kernel)) rfl
theorem ciL_64 : CKi RL 64 yM_init cM_init 3 1 := ⟨WSg_in (List.mem_of_getElem? (i := 580) (by decide +kernel)) rfl, WSg_in (List.mem_of_getElem? (i := 62) (by decide +kernel)) rfl, WSg_in (List.mem_of_getElem? (i := 579) (by decide +kernel)) rfl, Or.inl (WSg_in (List.mem_of_getElem? (i := 578) (by decide +kernel)) rfl), rfl, ⟨by decide, by decide⟩, by decide +kernel⟩
theorem ar_int : Cond.arrayClass .int ∈ WSg := WSg_in (List.mem_of_getElem? (i := 655) (by decide +kernel)) rfl
theorem ar_boolean : Cond.arrayClass .boolean ∈ WSg := WSg_in (List.mem_of_getElem? (i := 656) (by decide +kernel)) rfl
theorem ar_long : Cond.arrayClass .long ∈ WSg := WSg_in (List.mem_of_getElem? (i := 804) (by decide +kernel)) rfl
theorem fkK_30 : Cond.fieldLink RK 30 RK "number" "I" ∈ WSg := WSg_in (List.mem_of_getElem? (i := 118) (by decide +kernel)) rfl
theorem fkS_9 : Cond.fieldLink RS 9 RS "scheme" "I" ∈ WSg := WSg_in (List.mem_of_getElem? (i := 181) (by decide +kernel)) rfl
theorem fkS_15 : Cond.fieldLink RS 15 RS "blocks" "[LSteppedList$Block;" ∈ WSg := WSg_in (List.mem_of_getElem? (i := 182) (by decide +kernel)) rfl
theorem fkS_22 : Cond.fieldLink RS 22 RS "workers" "[LSteppedList$Worker;" ∈ WSg := WSg_in (List.mem_of_getElem? (i := 183) (by decide +kernel)) rfl
set_option maxRecDepth 100000 in
set_option maxHeartbeats 4000000 in
theorem k_Binit (l : Launch) (D : va_G) (K : Nat → ClassId) (base q : Nat) : CtV l D K base yB_init cB_init 1 (rmD 1) [.ref q] [(q, .inr (1, [.int 0, .int 0, .int 0, .int 0, .int 0, .int 0]))] [(q, .inr (1, bI))] := by
  refine CtV.enterI (by decide) (Nat.le_of_ble_eq_true rfl) ?_
  intro κ A Q F hin hE
  show G κ l (rmD 1) A Q D 1 0 0 [(q, .inr (1, [.int 0, .int 0, .int 0, .int 0, .int 0, .int 0]))] 0 [(0, .ref q)] []
  refine G.aload_n 0 F dB_init_0 rfl rfl ?_
  refine G.objI F ob_B ob_i ob_c ⟨by decide, (Nat.le_of_ble_eq_true rfl)⟩ dB_init_1 ?_
  refine G.aload_n 0 F dB_init_4 rfl rfl ?_
  refine G.iconst 0 F dB_init_5 (by decide) ?_
  refine G.putf (k := 0) tyTB 0 F tyTB_ok nmTB rfl rfl inTB (by decide) rfl flB_9 rfl rfl rfl rfl (Nat.le_of_ble_eq_true rfl) dB_init_6 rfl ?_
  refine G.aload_n 0 F dB_init_9 rfl rfl ?_
  refine G.iconst (-1) F dB_init_10 (by decide) ?_
  refine G.putf (k := 5) tyTB 0 F tyTB_ok nmTB rfl rfl inTB (by decide) rfl flB_15 rfl rfl rfl rfl (Nat.le_of_ble_eq_true rfl) dB_init_11 rfl ?_
  exact hE _ _ dB_init_14
set_option maxRecDepth 100000 in
set_option maxHeartbeats 4000000 in
theorem k_Kinit (l : Launch) (D : va_G) (K : Nat → ClassId) (base q : Nat) (n : Int32) : CtV l D K base yK_init cK_init 2 (rmD 1) [.ref q, .int n] [(q, .inr (2, w0))] [(q, .inr (2, (wI n)))] := by
  refine CtV.enterI (by decide) (Nat.le_of_ble_eq_true rfl) ?_
  intro κ A Q F hin hE
  show G κ l (rmD 1) A Q D 2 0 0 [(q, .inr (2, w0))] 0 [(0, .ref q), (1, .int n)] []
  refine G.aload_n 0 F dK_init_0 rfl rfl ?_
  refine G.objI F ob_K ob_i ob_c ⟨by decide, (Nat.le_of_ble_eq_true rfl)⟩ dK_init_1 ?_
  refine G.aload_n 0 F dK_init_4 rfl rfl ?_
  refine G.iconst 0 F dK_init_5 (by decide) ?_
  refine G.putf (k := 1) tyTK 0 F tyTK_ok nmTK rfl rfl inTK (by decide) rfl flK_9 rfl rfl rfl rfl (Nat.le_of_ble_eq_true rfl) dK_init_6 rfl ?_
  refine G.aload_n 0 F dK_init_9 rfl rfl ?_
  refine G.iconst (-1) F dK_init_10 (by decide) ?_
  refine G.putf (k := 11) tyTK 0 F tyTK_ok nmTK rfl rfl inTK (by decide) rfl flK_15 rfl rfl rfl rfl (Nat.le_of_ble_eq_true rfl) dK_init_11 rfl ?_
  refine G.aload_n 0 F dK_init_14 rfl rfl ?_
  refine G.iconst (-1) F dK_init_15 (by decide) ?_
  refine G.putf (k := 12) tyTK 0 F tyTK_ok nmTK rfl rfl inTK (by decide) rfl flK_18 rfl rfl rfl rfl (Nat.le_of_ble_eq_true rfl) dK_init_16 rfl ?_
  refine G.aload_n 0 F dK_init_19 rfl rfl ?_
  refine G.iconst (-1) F dK_init_20 (by decide) ?_
  refine G.putf (k := 13) tyTK 0 F tyTK_ok nmTK rfl rfl inTK (by decide) rfl flK_21 rfl rfl rfl rfl (Nat.le_of_ble_eq_true rfl) dK_init_21 rfl ?_
  refine G.aload_n 0 F dK_init_24 rfl rfl ?_
  refine G.iconst (-1) F dK_init_25 (by decide) ?_
  refine G.putf (k := 14) tyTK 0 F tyTK_ok nmTK rfl rfl inTK (by decide) rfl flK_24 rfl rfl rfl rfl (Nat.le_of_ble_eq_true rfl) dK_init_26 rfl ?_
  refine G.aload_n 0 F dK_init_29 rfl rfl ?_
  refine G.iconst (-1) F dK_init_30 (by decide) ?_
  refine G.putf (k := 15) tyTK 0 F tyTK_ok nmTK rfl rfl inTK (by decide) rfl flK_27 rfl rfl rfl rfl (Nat.le_of_ble_eq_true rfl) dK_init_31 rfl ?_
  refine G.aload_n 0 F dK_init_34 rfl rfl ?_
  refine G.iload_n 1 F dK_init_35 rfl rfl ?_
  refine G.putF (k := 0) tyTK 0 F (hin.trans rfl) tyTK_ok nmTK rfl rfl inTK (by decide) rfl rfl flK_30 fkK_30 rfl rfl rfl rfl (Nat.le_of_ble_eq_true rfl) dK_init_36 rfl ?_
  exact hE _ _ dK_init_39
def rmC : Room := { frames := 2, cells := 27, slots := 215, locals := 60 }
set_option maxRecDepth 100000 in
set_option maxHeartbeats 4000000 in
theorem k_Sinit (l : Launch) (D : va_G) (K : Nat → ClassId) (base x : Nat) (v : Int32) : CtN l D K base yS_init cS_init 3 rmC [.ref x, .int v] [(x, .inr (0, [.int 0, .null, .null, .int 0, .int 0]))] (fun X => X 0 = x) (fun X => cW X K (c0 (sch v))) := by
  refine CtN.enter (by decide) (Nat.le_of_ble_eq_true rfl) ?_
  intro κ A Q F hin hE
  show G κ l rmC A Q D 3 0 0 [(x, .inr (0, [.int 0, .null, .null, .int 0, .int 0]))] 0 [(0, .ref x), (1, .int v)] []
  have hin : κ.2.2.2.2.2.2.1.name = "<init>" := hin
  have loopT : ∀ (n k : Nat) (X : Nat → Nat), k + n = 4 → X 0 = x → G κ l rmC A Q D 3 (23 + k) (151 + 16 * k) (gW (24 + k) X (eT X K (sch v) k)) 69 [(2, .int (nI k)), (0, .ref x), (1, .int v)] [] := by
    intro n
    induction n with
    | zero =>
      intro k X hk hX
      obtain rfl : k = 4 := by omega
      refine G.iload_n 0 F dS_init_69 rfl rfl ?_
      refine G.iconst 4 F dS_init_70 (by decide) ?_
      refine G.icmp_ge 94 F dS_init_71 rfl (fun _ => ?_) (fun h9 => absurd (by decide) h9)
      refine G.conv (fun i hi H h => eT_cE hi h) ?_
      exact hE _ _ X hX dS_init_94
    | succ n ih =>
      intro k X hkn hX
      have hk : k < 4 := by omega
      refine G.iload_n 0 F dS_init_69 rfl rfl ?_
      refine G.iconst 4 F dS_init_70 (by decide) ?_
      refine G.icmp_ge 94 F dS_init_71 rfl (fun h9 => absurd h9 (nI_ge (b := 4) hk (by decide))) (fun _ => ?_)
      refine G.aload_n 1 F dS_init_74 rfl rfl ?_
      refine G.getf (k := 2) (v := .ref (X 23)) 0 F (a := x) (by rw [gW_get (by omega), hX]; rfl) rfl inTS (by decide) rfl flS_22 rfl dS_init_75 ?_
      refine G.iload_n 0 F dS_init_78 rfl rfl ?_
      refine G.newc (ci := 2) (fs := w0) tyTK F inTK tyTK_ok clS_20 itK in_K rfl (fun j hj => by rcases (show j = 0 ∨ j = 1 ∨ j = 2 ∨ j = 3 ∨ j = 4 ∨ j = 5 ∨ j = 6 ∨ j = 7 ∨ j = 8 ∨ j = 9 ∨ j = 10 ∨ j = 11 ∨ j = 12 ∨ j = 13 ∨ j = 14 ∨ j = 15 by omega) with rfl | rfl | rfl | rfl | rfl | rfl | rfl | rfl | rfl | rfl | rfl | rfl | rfl | rfl | rfl | rfl <;> rfl) ⟨by show _ ≤ 27; omega, by show _ ≤ 215; omega⟩ dS_init_79 (fun q => ?_)
      refine G.dup F dS_init_82 rfl ?_
      refine G.iload_n 0 F dS_init_83 rfl rfl ?_
      refine G.calliv (gW (24 + k) X (eT X K (sch v) k)) [] F (k_Kinit l D K base q (nI k)) rfl rfl ciS_26 ⟨rfl, rfl⟩ ⟨by decide, by decide⟩ ⟨by show _ ≤ 27; omega, by show _ ≤ 215; omega⟩ rfl rfl (Nat.le_of_ble_eq_true rfl) dS_init_84 ?_
      refine G.aast (i := nI k) (ci := 2) (f := fun j => if j < k then some (X (24 + j)) else none) 23 1 (24 + k) F (a := X 23) (gW_old (by omega)) rfl gW_last rfl (vp_in_nI hk (by decide)) (eT_step hk rfl) dS_init_87 ?_
      refine G.iinc 0 (nI (k + 1)) F dS_init_88 rfl (nI_succ k).symm (by decide) rfl ?_
      refine G.goto 69 F dS_init_91 rfl ?_
      refine G.widen (k := 23 + (k + 1)) (n := 151 + 16 * (k + 1)) (by omega) (by omega) ?_
      exact ih (k + 1) (va_up X (24 + k) q) (by omega) (by rw [va_up_ne _ _ (by omega)]; exact hX)
  have loopB : ∀ (n k : Nat) (X : Nat → Nat), k + n = 21 → X 0 = x → G κ l rmC A Q D 3 (1 + k) (21 + 6 * k) (gW (2 + k) X (eB X K (sch v) k)) 34 [(2, .int (nI k)), (0, .ref x), (1, .int v)] [] := by
    intro n
    induction n with
    | zero =>
      intro k X hk hX
      obtain rfl : k = 21 := by omega
      refine G.iload_n 0 F dS_init_34 rfl rfl ?_
      refine G.bipush 20 F dS_init_35 (by decide) ?_
      refine G.icmp_gt 59 F dS_init_37 rfl (fun _ => ?_) (fun h9 => absurd (by decide) h9)
      refine G.aload_n 1 F dS_init_59 rfl rfl ?_
      refine G.iconst 4 F dS_init_60 (by decide) ?_
      refine G.newq (C := RK) (t0 := 1) (N' := 4) F clS_20 F.ev.2.2.2.2.2.2.2 rfl (by decide) (by decide) (by decide) ⟨by decide, by decide⟩ dS_init_61 (fun q => ?_)
      refine G.putF (k := 2) (v := .ref q) (σ' := gW 24 (va_up X 23 q) (eT (va_up X 23 q) K (sch v) 0)) tyTS 0 F hin tyTS_ok nmTS (a := x) (by rw [gW_old (by omega), hX]; rfl) rfl inTS (by decide) rfl rfl flS_22 fkS_22 rfl rfl rfl rfl (Nat.le_of_ble_eq_true rfl) dS_init_64 ?_ ?_
      · rw [← hX]
        refine gW_more (n := 23) (by omega) ?_ (va_up_self ..) ?_ (fun j hj => va_up_ne _ _ (by omega)) (fun j hj hj1 => ?_)
        · unfold eT
          rw [if_pos rfl, va_up_self, va_up_ne _ _ (by decide)]
          rfl
        · unfold eT
          rw [if_neg (by decide), if_neg (by decide), if_neg (by decide), if_pos rfl]
          congr 4
        · unfold eT eB
          rw [if_neg hj1, if_neg hj1]
          by_cases h2 : j = 1
          · rw [if_pos h2, if_pos h2]
            congr 4
            funext i
            by_cases hi : i < 21
            · rw [if_pos hi, if_pos hi, va_up_ne _ _ (by omega)]
            · rw [if_neg hi, if_neg hi]
          · rw [if_neg h2, if_neg h2, if_pos hj]
      · refine G.iconst 0 F dS_init_67 (by decide) ?_
        refine G.istore_n 0 F dS_init_68 rfl rfl (by decide) rfl ?_
        exact loopT 4 0 _ (by decide) (by rw [va_up_ne _ _ (by decide)]; exact hX)
    | succ n ih =>
      intro k X hkn hX
      have hk : k < 21 := by omega
      refine G.iload_n 0 F dS_init_34 rfl rfl ?_
      refine G.bipush 20 F dS_init_35 (by decide) ?_
      refine G.icmp_gt 59 F dS_init_37 rfl (fun h9 => absurd h9 (nI_nlt (a := 20) (Nat.le_of_lt_succ hk) (by decide))) (fun _ => ?_)
      refine G.aload_n 1 F dS_init_40 rfl rfl ?_
      refine G.getf (k := 1) (v := .ref (X 1)) 0 F (a := x) (by rw [gW_get (by omega), hX]; rfl) rfl inTS (by decide) rfl flS_15 rfl dS_init_41 ?_
      refine G.iload_n 0 F dS_init_44 rfl rfl ?_
      refine G.newc (ci := 1) (fs := [.int 0, .int 0, .int 0, .int 0, .int 0, .int 0]) tyTB F inTB tyTB_ok clS_13 itB in_B rfl (fun j hj => by rcases (show j = 0 ∨ j = 1 ∨ j = 2 ∨ j = 3 ∨ j = 4 ∨ j = 5 by omega) with rfl | rfl | rfl | rfl | rfl | rfl <;> rfl) ⟨by show _ ≤ 27; omega, by show _ ≤ 215; omega⟩ dS_init_45 (fun q => ?_)
      refine G.dup F dS_init_48 rfl ?_
      refine G.calliv (gW (2 + k) X (eB X K (sch v) k)) [] F (k_Binit l D K base q) rfl rfl ciS_19 ⟨rfl, rfl⟩ ⟨by decide, by decide⟩ ⟨by show _ ≤ 27; omega, by show _ ≤ 215; omega⟩ rfl rfl (Nat.le_of_ble_eq_true rfl) dS_init_49 ?_
      refine G.aast (i := nI k) (ci := 1) (f := fun j => if j < k then some (X (2 + j)) else none) 1 0 (2 + k) F (a := X 1) (gW_old (by omega)) rfl gW_last rfl (vp_in_nI hk (by decide)) (eB_step hk rfl) dS_init_52 ?_
      refine G.iinc 0 (nI (k + 1)) F dS_init_53 rfl (nI_succ k).symm (by decide) rfl ?_
      refine G.goto 34 F dS_init_56 rfl ?_
      refine G.widen (k := 1 + (k + 1)) (n := 21 + 6 * (k + 1)) (by omega) (by omega) ?_
      exact ih (k + 1) (va_up X (2 + k) q) (by omega) (by rw [va_up_ne _ _ (by omega)]; exact hX)
  have cont : ∀ s, s = sch v → G κ l rmC A Q D 3 0 0 [(x, .inr (0, [.int 0, .null, .null, .int 0, .int 0]))] 20 [(0, .ref x), (1, .int v)] [.int s, .ref x] := by
    intro s hs
    subst hs
    refine G.putF (k := 0) tyTS 0 F hin tyTS_ok nmTS rfl rfl inTS (by decide) rfl rfl flS_9 fkS_9 rfl rfl rfl rfl (Nat.le_of_ble_eq_true rfl) dS_init_20 rfl ?_
    refine G.aload_n 0 F dS_init_23 rfl rfl ?_
    refine G.bipush 21 F dS_init_24 (by decide) ?_
    refine G.newq (C := RB) (t0 := 0) (N' := 21) F clS_13 F.ev.2.2.2.2.2.2.1 rfl (by decide) (by decide) (by decide) ⟨by decide, by decide⟩ dS_init_26 (fun q => ?_)
    refine G.putF (k := 1) (v := .ref q) (σ' := gW 2 (fun i => if i = 0 then x else q) (eB (fun i => if i = 0 then x else q) K (sch v) 0)) tyTS 0 F hin tyTS_ok nmTS (a := x) rfl rfl inTS (by decide) rfl rfl flS_15 fkS_15 rfl rfl rfl rfl (Nat.le_of_ble_eq_true rfl) dS_init_29 ?_ ?_
    · rfl
    · refine G.iconst 0 F dS_init_32 (by decide) ?_
      refine G.istore_nN F dS_init_33 rfl (by decide) rfl ?_
      exact loopB 21 0 _ (by decide) rfl
  refine G.aload_n 0 F dS_init_0 rfl rfl ?_
  refine G.objI F ob_S ob_i ob_c ⟨by decide, Nat.le_of_ble_eq_true rfl⟩ dS_init_1 ?_
  refine G.aload_n 0 F dS_init_4 rfl rfl ?_
  refine G.iload_n 1 F dS_init_5 rfl rfl ?_
  refine G.iconst 1 F dS_init_6 (by decide) ?_
  refine G.icmp_eq 15 F dS_init_7 rfl (fun h1 => ?_) (fun h1 => ?_)
  · refine G.iload_n 1 F dS_init_15 rfl rfl ?_
    refine G.goto 20 F dS_init_16 rfl ?_
    exact cont v (if_pos h1).symm
  · refine G.iload_n 1 F dS_init_10 rfl rfl ?_
    refine G.iconst 2 F dS_init_11 (by decide) ?_
    refine G.icmp_ne 19 F dS_init_12 rfl (fun h2 => ?_) (fun h2 => ?_)
    · refine G.iconst 0 F dS_init_19 (by decide) ?_
      exact cont 0 ((if_neg h1).trans (if_neg h2)).symm
    · refine G.iload_n 1 F dS_init_15 rfl rfl ?_
      refine G.goto 20 F dS_init_16 rfl ?_
      exact cont v ((if_neg h1).trans (if_pos h2)).symm

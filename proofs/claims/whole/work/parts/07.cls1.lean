def f_faults (c : CS) : Int32 := c 22 2
set_option maxRecDepth 100000 in
set_option maxHeartbeats 4000000 in
theorem k_faults (l : Launch) (D : va_G) (K : Nat → ClassId) (base : Nat) (X : Nat → Nat)  (c : CS) (hI : Inv c) : CtI l D K base yS_faults cS_faults 1 .int (rmD 0) [.ref (X 0)] (cW X K c) (f_faults c) (cW X K c) := by
  refine CtI.enter (by decide) (Nat.le_of_ble_eq_true rfl) ?_
  intro κ A Q F hE
  show G κ l (rmD 0) A Q D 1 0 0 (cW X K c) 0 [(0, .ref (X 0))] []
  refine G.aload_n 0 F dS_faults_0 rfl rfl ?_
  refine G.gX 4 F (by decide) flS_139 rfl dS_faults_1 ?_
  exact hE _ _ (c 22 2) dS_faults_4 rfl rfl.symm

def f_epoch (c : CS) : Int32 := c 22 1
set_option maxRecDepth 100000 in
set_option maxHeartbeats 4000000 in
theorem k_epoch (l : Launch) (D : va_G) (K : Nat → ClassId) (base : Nat) (X : Nat → Nat)  (c : CS) (hI : Inv c) : CtI l D K base yS_epoch cS_epoch 1 .int (rmD 0) [.ref (X 0)] (cW X K c) (f_epoch c) (cW X K c) := by
  refine CtI.enter (by decide) (Nat.le_of_ble_eq_true rfl) ?_
  intro κ A Q F hE
  show G κ l (rmD 0) A Q D 1 0 0 (cW X K c) 0 [(0, .ref (X 0))] []
  refine G.aload_n 0 F dS_epoch_0 rfl rfl ?_
  refine G.gX 3 F (by decide) flS_111 rfl dS_epoch_1 ?_
  exact hE _ _ (c 22 1) dS_epoch_4 rfl rfl.symm

def f_lookAtBack (t : Nat) (c : CS) : CS := (if c 10 t = 0 then c else (f_countFault ((c 10 t).toNatClampNeg) (c 11 t) c))
theorem i_lookAtBack (t : Nat) (ht : t < 4) (c : CS) (hI : Inv c) : Inv (f_lookAtBack t c) := by
  unfold f_lookAtBack
  exact (ite_c (fun h1 => hI) (fun h1 => (i_countFault ((c 10 t).toNatClampNeg) (ix_lt (hI 10 _ rfl)) (c 11 t) c hI)))
set_option maxRecDepth 100000 in
set_option maxHeartbeats 4000000 in
theorem k_lookAtBack (l : Launch) (D : va_G) (K : Nat → ClassId) (base : Nat) (X : Nat → Nat) (t : Nat) (ht : t < 4) (c : CS) (hI : Inv c) : CtV l D K base yS_lookAtBack cS_lookAtBack 2 (rmD 1) [.ref (X 0), .ref (X (24 + t))] (cW X K c) (cW X K (f_lookAtBack t c)) := by
  refine CtV.enter (by decide) (Nat.le_of_ble_eq_true rfl) ?_
  intro κ A Q F hE
  show G κ l (rmD 1) A Q D 2 0 0 (cW X K c) 0 [(0, .ref (X 0)), (1, .ref (X (24 + t)))] []
  refine G.aload_n 1 F dS_lookAtBack_0 rfl rfl ?_
  refine G.gT 4 10 F rfl ht (by decide) flS_74 dS_lookAtBack_1 ?_
  refine G.if_eq 24 F dS_lookAtBack_4 rfl (fun h1 => ?_) (fun h1 => ?_)
  · skip
    exact G.st (congrArg (cW X K) (if_pos h1)) (hE _ _ dS_lookAtBack_24)
  · skip
    refine G.aload_n 0 F dS_lookAtBack_7 rfl rfl ?_
    refine G.aload_n 0 F dS_lookAtBack_8 rfl rfl ?_
    refine G.gX 1 F (by decide) flS_15 rfl dS_lookAtBack_9 ?_
    refine G.aload_n 1 F dS_lookAtBack_12 rfl rfl ?_
    refine G.gT 4 10 F rfl ht (by decide) flS_74 dS_lookAtBack_13 ?_
    refine G.ldB F (hI 10 _ rfl) dS_lookAtBack_16 ?_
    refine G.aload_n 1 F dS_lookAtBack_17 rfl rfl ?_
    refine G.gT 5 11 F rfl ht (by decide) flS_176 dS_lookAtBack_18 ?_
    refine G.callv F (k_countFault l D K base X ((c 10 t).toNatClampNeg) (ix_lt (hI 10 _ rfl)) (c 11 t) c hI) ckS_231 cW_x rfl rfl ⟨rfl, rfl⟩ ⟨by decide, by decide⟩ ⟨Nat.zero_le _, Nat.zero_le _⟩ rfl rfl (Nat.le_of_ble_eq_true rfl) dS_lookAtBack_21 ?_
    exact G.st (congrArg (cW X K) (if_neg h1)) (hE _ _ dS_lookAtBack_24)

def f_lookAtHere (t : Nat) (c : CS) : CS := (f_countFault ((c 12 t).toNatClampNeg) (c 13 t) c)
theorem i_lookAtHere (t : Nat) (ht : t < 4) (c : CS) (hI : Inv c) : Inv (f_lookAtHere t c) := by
  unfold f_lookAtHere
  exact (i_countFault ((c 12 t).toNatClampNeg) (ix_lt (hI 12 _ rfl)) (c 13 t) c hI)
set_option maxRecDepth 100000 in
set_option maxHeartbeats 4000000 in
theorem k_lookAtHere (l : Launch) (D : va_G) (K : Nat → ClassId) (base : Nat) (X : Nat → Nat) (t : Nat) (ht : t < 4) (c : CS) (hI : Inv c) : CtV l D K base yS_lookAtHere cS_lookAtHere 2 (rmD 1) [.ref (X 0), .ref (X (24 + t))] (cW X K c) (cW X K (f_lookAtHere t c)) := by
  refine CtV.enter (by decide) (Nat.le_of_ble_eq_true rfl) ?_
  intro κ A Q F hE
  show G κ l (rmD 1) A Q D 2 0 0 (cW X K c) 0 [(0, .ref (X 0)), (1, .ref (X (24 + t)))] []
  refine G.aload_n 0 F dS_lookAtHere_0 rfl rfl ?_
  refine G.aload_n 0 F dS_lookAtHere_1 rfl rfl ?_
  refine G.gX 1 F (by decide) flS_15 rfl dS_lookAtHere_2 ?_
  refine G.aload_n 1 F dS_lookAtHere_5 rfl rfl ?_
  refine G.gT 6 12 F rfl ht (by decide) flS_77 dS_lookAtHere_6 ?_
  refine G.ldB F (hI 12 _ rfl) dS_lookAtHere_9 ?_
  refine G.aload_n 1 F dS_lookAtHere_10 rfl rfl ?_
  refine G.gT 7 13 F rfl ht (by decide) flS_196 dS_lookAtHere_11 ?_
  refine G.callv F (k_countFault l D K base X ((c 12 t).toNatClampNeg) (ix_lt (hI 12 _ rfl)) (c 13 t) c hI) ckS_231 cW_x rfl rfl ⟨rfl, rfl⟩ ⟨by decide, by decide⟩ ⟨Nat.zero_le _, Nat.zero_le _⟩ rfl rfl (Nat.le_of_ble_eq_true rfl) dS_lookAtHere_14 ?_
  exact G.st (congrArg (cW X K) rfl) (hE _ _ dS_lookAtHere_17)

def fl_countRetiredBy_4 (t : Nat) : Nat → Nat → Int32 → CS → Int32
  | 0, _, n2, c => n2
  | n + 1, k, n2, c => (if f_isRetiredBy t k c = 0 then (fl_countRetiredBy_4 t n (k + 1) n2 c) else (fl_countRetiredBy_4 t n (k + 1) (n2 + 1) c))
def f_countRetiredBy (t : Nat) (c : CS) : Int32 := (fl_countRetiredBy_4 t 20 1 0 c)
set_option maxRecDepth 100000 in
set_option maxHeartbeats 4000000 in
theorem k_countRetiredBy (l : Launch) (D : va_G) (K : Nat → ClassId) (base : Nat) (X : Nat → Nat) (t : Nat) (ht : t < 4) (c : CS) (hI : Inv c) : CtI l D K base yS_countRetiredBy cS_countRetiredBy 4 .int (rmD 1) [.ref (X 0), .ref (X (24 + t))] (cW X K c) (f_countRetiredBy t c) (cW X K c) := by
  refine CtI.enter (by decide) (Nat.le_of_ble_eq_true rfl) ?_
  intro κ A Q F hE
  show G κ l (rmD 1) A Q D 4 0 0 (cW X K c) 0 [(0, .ref (X 0)), (1, .ref (X (24 + t)))] []
  have hloop4 : ∀ (n k : Nat) (n2 : Int32), k + n = 21 → f_countRetiredBy t c = fl_countRetiredBy_4 t n k n2 c → G κ l (rmD 1) A Q D 4 0 0 (cW X K c) 4 [(3, .int (nI k)), (2, .int n2), (0, .ref (X 0)), (1, .ref (X (24 + t)))] [] := by
    intro n
    induction n with
    | zero =>
      intro k n2 hkn hρ
      obtain rfl : k = 21 := by omega
      refine G.iload_n 0 F dS_countRetiredBy_4 rfl rfl ?_
      refine G.bipush 20 F dS_countRetiredBy_5 (by decide) ?_
      refine G.icmp_gt 28 F dS_countRetiredBy_7 rfl (fun _ => ?_) (fun h9 => absurd (by decide) h9)
      refine G.iload_n 1 F dS_countRetiredBy_28 rfl rfl ?_
      exact hE _ _ n2 dS_countRetiredBy_29 rfl hρ.symm
    | succ n ih =>
      intro k n2 hkn hρ
      have hk : k < 21 := by omega
      refine G.iload_n 0 F dS_countRetiredBy_4 rfl rfl ?_
      refine G.bipush 20 F dS_countRetiredBy_5 (by decide) ?_
      refine G.icmp_gt 28 F dS_countRetiredBy_7 rfl (fun h9 => absurd h9 (nI_nlt (a := 20) (Nat.le_of_lt_succ (Nat.lt_of_lt_of_le hk (by decide))) (by decide))) (fun _ => ?_)
      refine G.aload_n 2 F dS_countRetiredBy_10 rfl rfl ?_
      refine G.aload_n 3 F dS_countRetiredBy_11 rfl rfl ?_
      refine G.iload_n 0 F dS_countRetiredBy_12 rfl rfl ?_
      refine G.calli F (k_isRetiredBy l D K base X t ht k hk c hI) ckS_253 cW_x rfl rfl ⟨rfl, rfl⟩ ⟨by decide, by decide⟩ ⟨Nat.zero_le _, Nat.zero_le _⟩ rfl rfl (Nat.le_of_ble_eq_true rfl) dS_countRetiredBy_13 ?_
      refine G.if_eq 22 F dS_countRetiredBy_16 rfl (fun h1 => ?_) (fun h1 => ?_)
      · skip
        refine G.iinc 0 (nI (k + 1)) F dS_countRetiredBy_22 rfl (nI_succ k).symm (by decide) rfl ?_
        refine G.goto 4 F dS_countRetiredBy_25 rfl ?_
        exact ih (k + 1) n2 (by omega) (hρ.trans (if_pos h1))
      · skip
        refine G.iinc 1 (n2 + 1) F dS_countRetiredBy_19 rfl rfl (by decide) rfl ?_
        refine G.iinc 0 (nI (k + 1)) F dS_countRetiredBy_22 rfl (nI_succ k).symm (by decide) rfl ?_
        refine G.goto 4 F dS_countRetiredBy_25 rfl ?_
        exact ih (k + 1) (n2 + 1) (by omega) (hρ.trans (if_neg h1))
  refine G.iconst 0 F dS_countRetiredBy_0 (by decide) ?_
  refine G.istore_nN F dS_countRetiredBy_1 rfl (by decide) rfl ?_
  refine G.iconst 1 F dS_countRetiredBy_2 (by decide) ?_
  refine G.istore_nN F dS_countRetiredBy_3 rfl (by decide) rfl ?_
  exact hloop4 20 1 0 (by decide) rfl

def fl_freeUnnamed_4 (t : Nat) : Nat → Nat → Int32 → CS → Int32 × CS
  | 0, _, n2, c9 => (n2, c9)
  | n + 1, k, n2, c9 => (if f_isRetiredBy t k c9 = 0 then (fl_freeUnnamed_4 t n (k + 1) n2 c9) else (if f_isNamed (nI k) c9 = 0 then (fl_freeUnnamed_4 t n (k + 1) (n2 + 1) (f_setFree k c9)) else (fl_freeUnnamed_4 t n (k + 1) n2 c9)))
def f_freeUnnamed (t : Nat) (c : CS) : Int32 × CS := (fl_freeUnnamed_4 t 20 1 0 c)
theorem i_fl_freeUnnamed_4 (t : Nat) (ht : t < 4) : ∀ (n k : Nat) (n2 : Int32) (c9 : CS), k + n = 21 → Inv c9 → Inv (fl_freeUnnamed_4 t n k n2 c9).2 := by
  intro n
  induction n with
  | zero =>
    intro k n2 c9 hkn hI9
    exact hI9
  | succ n ih =>
    intro k n2 c9 hkn hI9
    have hk : k < 21 := by omega
    unfold fl_freeUnnamed_4
    exact (ite_c2 (fun h1 => (ih (k + 1) n2 _ (by omega) hI9)) (fun h1 => (ite_c2 (fun h2 => (ih (k + 1) (n2 + 1) _ (by omega) (i_setFree k hk c9 hI9))) (fun h2 => (ih (k + 1) n2 _ (by omega) hI9)))))
theorem i_freeUnnamed (t : Nat) (ht : t < 4) (c : CS) (hI : Inv c) : Inv (f_freeUnnamed t c).2 := by
  unfold f_freeUnnamed
  exact (i_fl_freeUnnamed_4 t ht 20 1 0 _ (by decide) hI)
set_option maxRecDepth 100000 in
set_option maxHeartbeats 4000000 in
theorem k_freeUnnamed (l : Launch) (D : va_G) (K : Nat → ClassId) (base : Nat) (X : Nat → Nat) (t : Nat) (ht : t < 4) (c : CS) (hI : Inv c) : CtI l D K base yS_freeUnnamed cS_freeUnnamed 4 .int (rmD 1) [.ref (X 0), .ref (X (24 + t))] (cW X K c) (f_freeUnnamed t c).1 (cW X K (f_freeUnnamed t c).2) := by
  refine CtI.enter (by decide) (Nat.le_of_ble_eq_true rfl) ?_
  intro κ A Q F hE
  show G κ l (rmD 1) A Q D 4 0 0 (cW X K c) 0 [(0, .ref (X 0)), (1, .ref (X (24 + t)))] []
  have hloop4 : ∀ (n k : Nat) (n2 : Int32) (c9 : CS), k + n = 21 → Inv c9 → f_freeUnnamed t c = fl_freeUnnamed_4 t n k n2 c9 → G κ l (rmD 1) A Q D 4 0 0 (cW X K c9) 4 [(3, .int (nI k)), (2, .int n2), (0, .ref (X 0)), (1, .ref (X (24 + t)))] [] := by
    intro n
    induction n with
    | zero =>
      intro k n2 c9 hkn hI9 hρ
      obtain rfl : k = 21 := by omega
      refine G.iload_n 0 F dS_freeUnnamed_4 rfl rfl ?_
      refine G.bipush 20 F dS_freeUnnamed_5 (by decide) ?_
      refine G.icmp_gt 45 F dS_freeUnnamed_7 rfl (fun _ => ?_) (fun h9 => absurd (by decide) h9)
      refine G.iload_n 1 F dS_freeUnnamed_45 rfl rfl ?_
      have hr9 : f_freeUnnamed t c = (n2, c9) := hρ
      exact G.st (congrArg (fun z : Int32 × CS => cW X K z.2) hr9) (hE _ _ n2 dS_freeUnnamed_46 rfl (congrArg Prod.fst hr9).symm)
    | succ n ih =>
      intro k n2 c9 hkn hI9 hρ
      have hk : k < 21 := by omega
      refine G.iload_n 0 F dS_freeUnnamed_4 rfl rfl ?_
      refine G.bipush 20 F dS_freeUnnamed_5 (by decide) ?_
      refine G.icmp_gt 45 F dS_freeUnnamed_7 rfl (fun h9 => absurd h9 (nI_nlt (a := 20) (Nat.le_of_lt_succ (Nat.lt_of_lt_of_le hk (by decide))) (by decide))) (fun _ => ?_)
      refine G.aload_n 2 F dS_freeUnnamed_10 rfl rfl ?_
      refine G.aload_n 3 F dS_freeUnnamed_11 rfl rfl ?_
      refine G.iload_n 0 F dS_freeUnnamed_12 rfl rfl ?_
      refine G.calli F (k_isRetiredBy l D K base X t ht k hk c9 hI9) ckS_253 cW_x rfl rfl ⟨rfl, rfl⟩ ⟨by decide, by decide⟩ ⟨Nat.zero_le _, Nat.zero_le _⟩ rfl rfl (Nat.le_of_ble_eq_true rfl) dS_freeUnnamed_13 ?_
      refine G.if_eq 39 F dS_freeUnnamed_16 rfl (fun h1 => ?_) (fun h1 => ?_)
      · skip
        refine G.iinc 0 (nI (k + 1)) F dS_freeUnnamed_39 rfl (nI_succ k).symm (by decide) rfl ?_
        refine G.goto 4 F dS_freeUnnamed_42 rfl ?_
        exact ih (k + 1) n2 _ (by omega) hI9 (hρ.trans (if_pos h1))
      · skip
        refine G.aload_n 2 F dS_freeUnnamed_19 rfl rfl ?_
        refine G.iload_n 0 F dS_freeUnnamed_20 rfl rfl ?_
        refine G.calli F (k_isNamed l D K base X (nI k) c9 hI9) ckS_257 cW_x rfl rfl ⟨rfl, rfl⟩ ⟨by decide, by decide⟩ ⟨Nat.zero_le _, Nat.zero_le _⟩ rfl rfl (Nat.le_of_ble_eq_true rfl) dS_freeUnnamed_21 ?_
        refine G.if_ne 39 F dS_freeUnnamed_24 rfl (fun h2 => ?_) (fun h2 => ?_)
        · skip
          refine G.iinc 0 (nI (k + 1)) F dS_freeUnnamed_39 rfl (nI_succ k).symm (by decide) rfl ?_
          refine G.goto 4 F dS_freeUnnamed_42 rfl ?_
          exact ih (k + 1) n2 _ (by omega) hI9 (hρ.trans ((if_neg h1).trans (if_neg h2)))
        · skip
          refine G.aload_n 2 F dS_freeUnnamed_27 rfl rfl ?_
          refine G.gX 1 F (by decide) flS_15 rfl dS_freeUnnamed_28 ?_
          refine G.iload_n 0 F dS_freeUnnamed_31 rfl rfl ?_
          refine G.ldBn k F rfl hk dS_freeUnnamed_32 ?_
          refine G.callv F (k_setFree l D K base X k hk c9 hI9) ckS_238 (cW_b hk) rfl rfl ⟨rfl, rfl⟩ ⟨by decide, by decide⟩ ⟨Nat.zero_le _, Nat.zero_le _⟩ rfl rfl (Nat.le_of_ble_eq_true rfl) dS_freeUnnamed_33 ?_
          refine G.iinc 1 (n2 + 1) F dS_freeUnnamed_36 rfl rfl (by decide) rfl ?_
          refine G.iinc 0 (nI (k + 1)) F dS_freeUnnamed_39 rfl (nI_succ k).symm (by decide) rfl ?_
          refine G.goto 4 F dS_freeUnnamed_42 rfl ?_
          exact ih (k + 1) (n2 + 1) _ (by omega) (i_setFree k hk c9 hI9) (hρ.trans ((if_neg h1).trans (if_pos h2)))
  refine G.iconst 0 F dS_freeUnnamed_0 (by decide) ?_
  refine G.istore_nN F dS_freeUnnamed_1 rfl (by decide) rfl ?_
  refine G.iconst 1 F dS_freeUnnamed_2 (by decide) ?_
  refine G.istore_nN F dS_freeUnnamed_3 rfl (by decide) rfl ?_
  exact hloop4 20 1 0 _ (by decide) hI rfl

def fl_freeOldEpochs_2  : Nat → Nat → CS → CS
  | 0, _, c9 => c9
  | n + 1, k, c9 => (if c9 0 k = 2 then (if (c9 22 1) - 2 < c9 5 k then (fl_freeOldEpochs_2  n (k + 1) c9) else (fl_freeOldEpochs_2  n (k + 1) (f_setFree k c9))) else (fl_freeOldEpochs_2  n (k + 1) c9))
def f_freeOldEpochs (c : CS) : CS := (fl_freeOldEpochs_2 20 1 c)
theorem i_fl_freeOldEpochs_2  : ∀ (n k : Nat) (c9 : CS), k + n = 21 → Inv c9 → Inv (fl_freeOldEpochs_2  n k c9) := by
  intro n
  induction n with
  | zero =>
    intro k c9 hkn hI9
    exact hI9
  | succ n ih =>
    intro k c9 hkn hI9
    have hk : k < 21 := by omega
    unfold fl_freeOldEpochs_2
    exact (ite_c (fun h1 => (ite_c (fun h2 => (ih (k + 1) _ (by omega) hI9)) (fun h2 => (ih (k + 1) _ (by omega) (i_setFree k hk c9 hI9))))) (fun h1 => (ih (k + 1) _ (by omega) hI9)))
theorem i_freeOldEpochs  (c : CS) (hI : Inv c) : Inv (f_freeOldEpochs  c) := by
  unfold f_freeOldEpochs
  exact (i_fl_freeOldEpochs_2  20 1 _ (by decide) hI)
set_option maxRecDepth 100000 in
set_option maxHeartbeats 4000000 in
theorem k_freeOldEpochs (l : Launch) (D : va_G) (K : Nat → ClassId) (base : Nat) (X : Nat → Nat)  (c : CS) (hI : Inv c) : CtV l D K base yS_freeOldEpochs cS_freeOldEpochs 3 (rmD 1) [.ref (X 0)] (cW X K c) (cW X K (f_freeOldEpochs c)) := by
  refine CtV.enter (by decide) (Nat.le_of_ble_eq_true rfl) ?_
  intro κ A Q F hE
  show G κ l (rmD 1) A Q D 3 0 0 (cW X K c) 0 [(0, .ref (X 0))] []
  have hloop2 : ∀ (n k : Nat) (c9 : CS), k + n = 21 → Inv c9 → f_freeOldEpochs c = fl_freeOldEpochs_2  n k c9 → G κ l (rmD 1) A Q D 3 0 0 (cW X K c9) 2 [(1, .int (nI k)), (0, .ref (X 0))] [] := by
    intro n
    induction n with
    | zero =>
      intro k c9 hkn hI9 hρ
      obtain rfl : k = 21 := by omega
      refine G.iload_n 0 F dS_freeOldEpochs_2 rfl rfl ?_
      refine G.bipush 20 F dS_freeOldEpochs_3 (by decide) ?_
      refine G.icmp_gt 46 F dS_freeOldEpochs_5 rfl (fun _ => ?_) (fun h9 => absurd (by decide) h9)
      exact G.st (congrArg (cW X K) hρ) (hE _ _ dS_freeOldEpochs_46)
    | succ n ih =>
      intro k c9 hkn hI9 hρ
      have hk : k < 21 := by omega
      refine G.iload_n 0 F dS_freeOldEpochs_2 rfl rfl ?_
      refine G.bipush 20 F dS_freeOldEpochs_3 (by decide) ?_
      refine G.icmp_gt 46 F dS_freeOldEpochs_5 rfl (fun h9 => absurd h9 (nI_nlt (a := 20) (Nat.le_of_lt_succ (Nat.lt_of_lt_of_le hk (by decide))) (by decide))) (fun _ => ?_)
      refine G.aload_n 1 F dS_freeOldEpochs_8 rfl rfl ?_
      refine G.gX 1 F (by decide) flS_15 rfl dS_freeOldEpochs_9 ?_
      refine G.iload_n 0 F dS_freeOldEpochs_12 rfl rfl ?_
      refine G.ldBn k F rfl hk dS_freeOldEpochs_13 ?_
      refine G.astore_nN F dS_freeOldEpochs_14 rfl (by decide) rfl ?_
      refine G.aload_n 0 F dS_freeOldEpochs_15 rfl rfl ?_
      refine G.gB 0 F hk (by decide) flS_235 dS_freeOldEpochs_16 ?_
      refine G.iconst 2 F dS_freeOldEpochs_19 (by decide) ?_
      refine G.icmp_ne 40 F dS_freeOldEpochs_20 rfl (fun h1 => ?_) (fun h1 => ?_)
      · skip
        refine G.iinc 1 (nI (k + 1)) F dS_freeOldEpochs_40 rfl (nI_succ k).symm (by decide) rfl ?_
        refine G.goto 2 F dS_freeOldEpochs_43 rfl ?_
        refine G.drop ?_
        exact ih (k + 1) _ (by omega) hI9 (hρ.trans (if_neg h1))
      · skip
        refine G.aload_n 0 F dS_freeOldEpochs_23 rfl rfl ?_
        refine G.gB 5 F hk (by decide) flS_250 dS_freeOldEpochs_24 ?_
        refine G.aload_n 2 F dS_freeOldEpochs_27 rfl rfl ?_
        refine G.gX 3 F (by decide) flS_111 rfl dS_freeOldEpochs_28 ?_
        refine G.iconst 2 F dS_freeOldEpochs_31 (by decide) ?_
        refine G.isub F dS_freeOldEpochs_32 ?_
        refine G.icmp_gt 40 F dS_freeOldEpochs_33 rfl (fun h2 => ?_) (fun h2 => ?_)
        · skip
          refine G.iinc 1 (nI (k + 1)) F dS_freeOldEpochs_40 rfl (nI_succ k).symm (by decide) rfl ?_
          refine G.goto 2 F dS_freeOldEpochs_43 rfl ?_
          refine G.drop ?_
          exact ih (k + 1) _ (by omega) hI9 (hρ.trans ((if_pos h1).trans (if_pos h2)))
        · skip
          refine G.aload_n 0 F dS_freeOldEpochs_36 rfl rfl ?_
          refine G.callv F (k_setFree l D K base X k hk c9 hI9) ckS_238 (cW_b hk) rfl rfl ⟨rfl, rfl⟩ ⟨by decide, by decide⟩ ⟨Nat.zero_le _, Nat.zero_le _⟩ rfl rfl (Nat.le_of_ble_eq_true rfl) dS_freeOldEpochs_37 ?_
          refine G.iinc 1 (nI (k + 1)) F dS_freeOldEpochs_40 rfl (nI_succ k).symm (by decide) rfl ?_
          refine G.goto 2 F dS_freeOldEpochs_43 rfl ?_
          refine G.drop ?_
          exact ih (k + 1) _ (by omega) (i_setFree k hk c9 hI9) (hρ.trans ((if_pos h1).trans (if_neg h2)))
  refine G.iconst 1 F dS_freeOldEpochs_0 (by decide) ?_
  refine G.istore_nN F dS_freeOldEpochs_1 rfl (by decide) rfl ?_
  exact hloop2 20 1 _ (by decide) hI rfl

def f_giveNewBlockBack (t : Nat) (c : CS) : CS := (if c 16 t = 0 then c else (up2 (f_setFree ((c 16 t).toNatClampNeg) c) 16 t 0))
theorem i_giveNewBlockBack (t : Nat) (ht : t < 4) (c : CS) (hI : Inv c) : Inv (f_giveNewBlockBack t c) := by
  unfold f_giveNewBlockBack
  exact (ite_c (fun h1 => hI) (fun h1 => (Inv.upi (i_setFree ((c 16 t).toNatClampNeg) (ix_lt (hI 16 _ rfl)) c hI) vp0)))
set_option maxRecDepth 100000 in
set_option maxHeartbeats 4000000 in
theorem k_giveNewBlockBack (l : Launch) (D : va_G) (K : Nat → ClassId) (base : Nat) (X : Nat → Nat) (t : Nat) (ht : t < 4) (c : CS) (hI : Inv c) : CtV l D K base yS_giveNewBlockBack cS_giveNewBlockBack 2 (rmD 1) [.ref (X 0), .ref (X (24 + t))] (cW X K c) (cW X K (f_giveNewBlockBack t c)) := by
  refine CtV.enter (by decide) (Nat.le_of_ble_eq_true rfl) ?_
  intro κ A Q F hE
  show G κ l (rmD 1) A Q D 2 0 0 (cW X K c) 0 [(0, .ref (X 0)), (1, .ref (X (24 + t)))] []
  refine G.aload_n 1 F dS_giveNewBlockBack_0 rfl rfl ?_
  refine G.gT 10 16 F rfl ht (by decide) flS_83 dS_giveNewBlockBack_1 ?_
  refine G.if_eq 24 F dS_giveNewBlockBack_4 rfl (fun h1 => ?_) (fun h1 => ?_)
  · skip
    exact G.st (congrArg (cW X K) (if_pos h1)) (hE _ _ dS_giveNewBlockBack_24)
  · skip
    refine G.aload_n 0 F dS_giveNewBlockBack_7 rfl rfl ?_
    refine G.gX 1 F (by decide) flS_15 rfl dS_giveNewBlockBack_8 ?_
    refine G.aload_n 1 F dS_giveNewBlockBack_11 rfl rfl ?_
    refine G.gT 10 16 F rfl ht (by decide) flS_83 dS_giveNewBlockBack_12 ?_
    refine G.ldB F (hI 16 _ rfl) dS_giveNewBlockBack_15 ?_
    refine G.callv F (k_setFree l D K base X ((c 16 t).toNatClampNeg) (ix_lt (hI 16 _ rfl)) c hI) ckS_238 (cW_b (ix_lt (hI 16 _ rfl))) rfl rfl ⟨rfl, rfl⟩ ⟨by decide, by decide⟩ ⟨Nat.zero_le _, Nat.zero_le _⟩ rfl rfl (Nat.le_of_ble_eq_true rfl) dS_giveNewBlockBack_16 ?_
    refine G.aload_n 1 F dS_giveNewBlockBack_19 rfl rfl ?_
    refine G.iconst 0 F dS_giveNewBlockBack_20 (by decide) ?_
    refine G.pT 10 16 F rfl ht (by decide) (by decide) flS_83 rfl rfl dS_giveNewBlockBack_21 ?_
    exact G.st (congrArg (cW X K) (if_neg h1)) (hE _ _ dS_giveNewBlockBack_24)

def f_goToHead (t : Nat) (c : CS) : CS := (f_moveHereTo t (c 2 0) (up2 (up2 c 10 t 0) 11 t 0))
theorem i_goToHead (t : Nat) (ht : t < 4) (c : CS) (hI : Inv c) : Inv (f_goToHead t c) := by
  unfold f_goToHead
  exact (i_moveHereTo t ht (c 2 0) (hI 2 _ rfl) (up2 (up2 c 10 t 0) 11 t 0) (Inv.upo (Inv.upi hI vp0) rfl))
set_option maxRecDepth 100000 in
set_option maxHeartbeats 4000000 in
theorem k_goToHead (l : Launch) (D : va_G) (K : Nat → ClassId) (base : Nat) (X : Nat → Nat) (t : Nat) (ht : t < 4) (c : CS) (hI : Inv c) : CtV l D K base yS_goToHead cS_goToHead 2 (rmD 1) [.ref (X 0), .ref (X (24 + t))] (cW X K c) (cW X K (f_goToHead t c)) := by
  refine CtV.enter (by decide) (Nat.le_of_ble_eq_true rfl) ?_
  intro κ A Q F hE
  show G κ l (rmD 1) A Q D 2 0 0 (cW X K c) 0 [(0, .ref (X 0)), (1, .ref (X (24 + t)))] []
  refine G.aload_n 1 F dS_goToHead_0 rfl rfl ?_
  refine G.iconst 0 F dS_goToHead_1 (by decide) ?_
  refine G.pT 4 10 F rfl ht (by decide) (by decide) flS_74 rfl rfl dS_goToHead_2 ?_
  refine G.aload_n 1 F dS_goToHead_5 rfl rfl ?_
  refine G.iconst 0 F dS_goToHead_6 (by decide) ?_
  refine G.pT 5 11 F rfl ht (by decide) (by decide) flS_176 rfl rfl dS_goToHead_7 ?_
  refine G.aload_n 0 F dS_goToHead_10 rfl rfl ?_
  refine G.aload_n 1 F dS_goToHead_11 rfl rfl ?_
  refine G.aload_n 0 F dS_goToHead_12 rfl rfl ?_
  refine G.gX 1 F (by decide) flS_15 rfl dS_goToHead_13 ?_
  refine G.iconst 0 F dS_goToHead_16 (by decide) ?_
  refine G.ldBn 0 F rfl (by decide) dS_goToHead_17 ?_
  refine G.gB 2 F (by decide) (by decide) flS_131 dS_goToHead_18 ?_
  refine G.tope (y := c 2 0) ((up2_f _ _ _ _ (by decide)).trans (up2_f _ _ _ _ (by decide))) ?_
  refine G.callv F (k_moveHereTo l D K base X t ht (c 2 0) (hI 2 _ rfl) (up2 (up2 c 10 t 0) 11 t 0) (Inv.upo (Inv.upi hI vp0) rfl)) ckS_179 cW_x rfl rfl ⟨rfl, rfl⟩ ⟨by decide, by decide⟩ ⟨Nat.zero_le _, Nat.zero_le _⟩ rfl rfl (Nat.le_of_ble_eq_true rfl) dS_goToHead_21 ?_
  exact G.st (congrArg (cW X K) rfl) (hE _ _ dS_goToHead_24)

set_option maxRecDepth 100000 in
set_option maxHeartbeats 4000000 in
theorem k_busyWorkerOf (l : Launch) (D : va_G) (K : Nat → ClassId) (base : Nat) (X : Nat → Nat) (t : Nat) (ht : t < 4) (c : CS) (hI : Inv c) (hb : ¬ c 7 t = 0) : CtR l D K base yS_busyWorkerOf cS_busyWorkerOf 3 RK (rmD 1) [.ref (X 0), .int (nI t)] (cW X K c) (X (24 + t)) (cW X K c) := by
  refine CtR.enter (by decide) (Nat.le_of_ble_eq_true rfl) ?_
  intro κ A Q F hE
  show G κ l (rmD 1) A Q D 3 0 0 (cW X K c) 0 [(0, .ref (X 0)), (1, .int (nI t))] []
  refine G.aload_n 0 F dS_busyWorkerOf_0 rfl rfl ?_
  refine G.iload_n 1 F dS_busyWorkerOf_1 rfl rfl ?_
  refine G.callr F (k_workerOf l D K base X t ht c hI) ckS_29 cW_x rfl rfl ⟨rfl, rfl⟩ ⟨by decide, by decide⟩ ⟨Nat.zero_le _, Nat.zero_le _⟩ rfl rfl (Nat.le_of_ble_eq_true rfl) dS_busyWorkerOf_2 ?_
  refine G.astore_nN F dS_busyWorkerOf_5 rfl (by decide) rfl ?_
  refine G.aload_n 0 F dS_busyWorkerOf_6 rfl rfl ?_
  refine G.gT 1 7 F rfl ht (by decide) flS_42 dS_busyWorkerOf_7 ?_
  refine G.if_ne 23 F dS_busyWorkerOf_10 rfl (fun _ => ?_) (fun h9 => absurd h9 hb)
  refine G.aload_n 0 F dS_busyWorkerOf_23 rfl rfl ?_
  exact hE _ _ _ dS_busyWorkerOf_24 rfl

def f_begin (t : Nat) (o : Int32) (y : Int32) (c : CS) : CS := (up2 (up2 (up2 (f_forget t c) 8 t o) 9 t y) 7 t 1)
theorem i_begin (t : Nat) (ht : t < 4) (o : Int32) (y : Int32) (c : CS) (hI : Inv c) (ho : ¬ o < 0) (ho2 : o ≤ 2) (hy : ¬ y < 0) (hy2 : y < 32) (hb : c 7 t = 0) : Inv (f_begin t o y c) := by
  unfold f_begin
  exact (Inv.upo (Inv.upo (Inv.upo (i_forget t ht c hI) rfl) rfl) rfl)
set_option maxRecDepth 100000 in
set_option maxHeartbeats 4000000 in
theorem k_begin (l : Launch) (D : va_G) (K : Nat → ClassId) (base : Nat) (X : Nat → Nat) (t : Nat) (ht : t < 4) (o : Int32) (y : Int32) (c : CS) (hI : Inv c) (ho : ¬ o < 0) (ho2 : o ≤ 2) (hy : ¬ y < 0) (hy2 : y < 32) (hb : c 7 t = 0) : CtV l D K base yS_begin cS_begin 5 (rmD 1) [.ref (X 0), .int (nI t), .int o, .int y] (cW X K c) (cW X K (f_begin t o y c)) := by
  refine CtV.enter (by decide) (Nat.le_of_ble_eq_true rfl) ?_
  intro κ A Q F hE
  show G κ l (rmD 1) A Q D 5 0 0 (cW X K c) 0 [(0, .ref (X 0)), (1, .int (nI t)), (2, .int o), (3, .int y)] []
  refine G.aload_n 0 F dS_begin_0 rfl rfl ?_
  refine G.iload_n 1 F dS_begin_1 rfl rfl ?_
  refine G.callr F (k_workerOf l D K base X t ht c hI) ckS_29 cW_x rfl rfl ⟨rfl, rfl⟩ ⟨by decide, by decide⟩ ⟨Nat.zero_le _, Nat.zero_le _⟩ rfl rfl (Nat.le_of_ble_eq_true rfl) dS_begin_2 ?_
  refine G.astoreN F dS_begin_5 (by decide) rfl ?_
  refine G.iload_n 3 F dS_begin_7 rfl rfl ?_
  refine G.if_lt 16 F dS_begin_8 rfl (fun h9 => absurd h9 ho) (fun _ => ?_)
  refine G.iload_n 3 F dS_begin_11 rfl rfl ?_
  refine G.iconst 2 F dS_begin_12 (by decide) ?_
  refine G.icmp_le 26 F dS_begin_13 rfl (fun _ => ?_) (fun h9 => absurd ho2 h9)
  refine G.iload_n 4 F dS_begin_26 rfl rfl ?_
  refine G.if_lt 36 F dS_begin_27 rfl (fun h9 => absurd h9 hy) (fun _ => ?_)
  refine G.iload_n 4 F dS_begin_30 rfl rfl ?_
  refine G.bipush 32 F dS_begin_31 (by decide) ?_
  refine G.icmp_lt 46 F dS_begin_33 rfl (fun _ => ?_) (fun h9 => absurd hy2 h9)
  refine G.aload 0 F dS_begin_46 rfl ?_
  refine G.gT 1 7 F rfl ht (by decide) flS_42 dS_begin_48 ?_
  refine G.if_eq 64 F dS_begin_51 rfl (fun _ => ?_) (fun h9 => absurd hb h9)
  refine G.aload 0 F dS_begin_64 rfl ?_
  refine G.callv F (k_forget l D K base X t ht c hI) ckS_50 (cW_t ht) rfl rfl ⟨rfl, rfl⟩ ⟨by decide, by decide⟩ ⟨Nat.zero_le _, Nat.zero_le _⟩ rfl rfl (Nat.le_of_ble_eq_true rfl) dS_begin_66 ?_
  refine G.aload 0 F dS_begin_69 rfl ?_
  refine G.iload_n 3 F dS_begin_71 rfl rfl ?_
  refine G.pT 2 8 F rfl ht (by decide) (by decide) flS_53 rfl rfl dS_begin_72 ?_
  refine G.aload 0 F dS_begin_75 rfl ?_
  refine G.iload_n 4 F dS_begin_77 rfl rfl ?_
  refine G.pT 3 9 F rfl ht (by decide) (by decide) flS_56 rfl rfl dS_begin_78 ?_
  refine G.aload 0 F dS_begin_81 rfl ?_
  refine G.iconst 1 F dS_begin_83 (by decide) ?_
  refine G.pT 1 7 F rfl ht (by decide) (by decide) flS_42 rfl rfl dS_begin_84 ?_
  exact G.st (congrArg (cW X K) rfl) (hE _ _ dS_begin_87)

def f_result (t : Nat) (c : CS) : Int32 := c 18 t
set_option maxRecDepth 100000 in
set_option maxHeartbeats 4000000 in
theorem k_result (l : Launch) (D : va_G) (K : Nat → ClassId) (base : Nat) (X : Nat → Nat) (t : Nat) (ht : t < 4) (c : CS) (hI : Inv c) (hb : ¬ c 18 t = (-1)) : CtI l D K base yS_result cS_result 3 .int (rmD 1) [.ref (X 0), .int (nI t)] (cW X K c) (f_result t c) (cW X K c) := by
  refine CtI.enter (by decide) (Nat.le_of_ble_eq_true rfl) ?_
  intro κ A Q F hE
  show G κ l (rmD 1) A Q D 3 0 0 (cW X K c) 0 [(0, .ref (X 0)), (1, .int (nI t))] []
  refine G.aload_n 0 F dS_result_0 rfl rfl ?_
  refine G.iload_n 1 F dS_result_1 rfl rfl ?_
  refine G.callr F (k_workerOf l D K base X t ht c hI) ckS_29 cW_x rfl rfl ⟨rfl, rfl⟩ ⟨by decide, by decide⟩ ⟨Nat.zero_le _, Nat.zero_le _⟩ rfl rfl (Nat.le_of_ble_eq_true rfl) dS_result_2 ?_
  refine G.astore_nN F dS_result_5 rfl (by decide) rfl ?_
  refine G.aload_n 0 F dS_result_6 rfl rfl ?_
  refine G.gT 12 18 F rfl ht (by decide) flS_66 dS_result_7 ?_
  refine G.iconst (-1) F dS_result_10 (by decide) ?_
  refine G.icmp_ne 24 F dS_result_11 rfl (fun _ => ?_) (fun h9 => absurd h9 hb)
  refine G.aload_n 0 F dS_result_24 rfl rfl ?_
  refine G.gT 12 18 F rfl ht (by decide) flS_66 dS_result_25 ?_
  exact hE _ _ (c 18 t) dS_result_28 rfl rfl.symm

def f_at (t : Nat) (c : CS) : Int32 := c 7 t
set_option maxRecDepth 100000 in
set_option maxHeartbeats 4000000 in
theorem k_at (l : Launch) (D : va_G) (K : Nat → ClassId) (base : Nat) (X : Nat → Nat) (t : Nat) (ht : t < 4) (c : CS) (hI : Inv c) : CtI l D K base yS_at cS_at 2 .int (rmD 1) [.ref (X 0), .int (nI t)] (cW X K c) (f_at t c) (cW X K c) := by
  refine CtI.enter (by decide) (Nat.le_of_ble_eq_true rfl) ?_
  intro κ A Q F hE
  show G κ l (rmD 1) A Q D 2 0 0 (cW X K c) 0 [(0, .ref (X 0)), (1, .int (nI t))] []
  refine G.aload_n 0 F dS_at_0 rfl rfl ?_
  refine G.iload_n 1 F dS_at_1 rfl rfl ?_
  refine G.callr F (k_workerOf l D K base X t ht c hI) ckS_29 cW_x rfl rfl ⟨rfl, rfl⟩ ⟨by decide, by decide⟩ ⟨Nat.zero_le _, Nat.zero_le _⟩ rfl rfl (Nat.le_of_ble_eq_true rfl) dS_at_2 ?_
  refine G.gT 1 7 F rfl ht (by decide) flS_42 dS_at_5 ?_
  exact hE _ _ (c 7 t) dS_at_8 rfl rfl.symm

def f_block (k : Nat) (w : Int32) (c : CS) : Int32 := (if nI k = 0 then (if w = 2 then f_tell k w c else (-1)) else f_tell k w c)
set_option maxRecDepth 100000 in
set_option maxHeartbeats 4000000 in
theorem k_block (l : Launch) (D : va_G) (K : Nat → ClassId) (base : Nat) (X : Nat → Nat) (k : Nat) (hk : k < 21) (w : Int32) (c : CS) (hI : Inv c) (hw : ¬ w < 0) (hw2 : w ≤ 5) : CtI l D K base yS_block cS_block 3 .int (rmD 1) [.ref (X 0), .int (nI k), .int w] (cW X K c) (f_block k w c) (cW X K c) := by
  refine CtI.enter (by decide) (Nat.le_of_ble_eq_true rfl) ?_
  intro κ A Q F hE
  show G κ l (rmD 1) A Q D 3 0 0 (cW X K c) 0 [(0, .ref (X 0)), (1, .int (nI k)), (2, .int w)] []
  refine G.iload_n 1 F dS_block_0 rfl rfl ?_
  refine G.if_lt 10 F dS_block_1 rfl (fun h9 => absurd h9 (cm_lt0 hk (by decide))) (fun _ => ?_)
  refine G.iload_n 1 F dS_block_4 rfl rfl ?_
  refine G.bipush 20 F dS_block_5 (by decide) ?_
  refine G.icmp_le 20 F dS_block_7 rfl (fun _ => ?_) (fun h9 => absurd (nI_le (b := 20) (Nat.le_of_lt_succ (Nat.lt_of_lt_of_le hk (by decide))) (by decide)) h9)
  refine G.iload_n 2 F dS_block_20 rfl rfl ?_
  refine G.if_lt 29 F dS_block_21 rfl (fun h9 => absurd h9 hw) (fun _ => ?_)
  refine G.iload_n 2 F dS_block_24 rfl rfl ?_
  refine G.iconst 5 F dS_block_25 (by decide) ?_
  refine G.icmp_le 39 F dS_block_26 rfl (fun _ => ?_) (fun h9 => absurd hw2 h9)
  refine G.iload_n 1 F dS_block_39 rfl rfl ?_
  refine G.if_ne 50 F dS_block_40 rfl (fun h1 => ?_) (fun h1 => ?_)
  · skip
    refine G.aload_n 0 F dS_block_50 rfl rfl ?_
    refine G.gX 1 F (by decide) flS_15 rfl dS_block_51 ?_
    refine G.iload_n 1 F dS_block_54 rfl rfl ?_
    refine G.ldBn k F rfl hk dS_block_55 ?_
    refine G.iload_n 2 F dS_block_56 rfl rfl ?_
    refine G.calli F (k_tell l D K base X k hk w c hI) ckS_127 (cW_b hk) rfl rfl ⟨rfl, rfl⟩ ⟨by decide, by decide⟩ ⟨Nat.zero_le _, Nat.zero_le _⟩ rfl rfl (Nat.le_of_ble_eq_true rfl) dS_block_57 ?_
    exact hE _ _ (f_tell k w c) dS_block_60 rfl (if_neg h1).symm
  · skip
    refine G.iload_n 2 F dS_block_43 rfl rfl ?_
    refine G.iconst 2 F dS_block_44 (by decide) ?_
    refine G.icmp_eq 50 F dS_block_45 rfl (fun h2 => ?_) (fun h2 => ?_)
    · skip
      refine G.aload_n 0 F dS_block_50 rfl rfl ?_
      refine G.gX 1 F (by decide) flS_15 rfl dS_block_51 ?_
      refine G.iload_n 1 F dS_block_54 rfl rfl ?_
      refine G.ldBn k F rfl hk dS_block_55 ?_
      refine G.iload_n 2 F dS_block_56 rfl rfl ?_
      refine G.calli F (k_tell l D K base X k hk w c hI) ckS_127 (cW_b hk) rfl rfl ⟨rfl, rfl⟩ ⟨by decide, by decide⟩ ⟨Nat.zero_le _, Nat.zero_le _⟩ rfl rfl (Nat.le_of_ble_eq_true rfl) dS_block_57 ?_
      exact hE _ _ (f_tell k w c) dS_block_60 rfl ((if_pos h1).trans (if_pos h2)).symm
    · skip
      refine G.iconst (-1) F dS_block_48 (by decide) ?_
      exact hE _ _ (-1) dS_block_49 rfl ((if_pos h1).trans (if_neg h2)).symm

def f_known0 (t : Nat) (c : CS) : Int32 := c 10 t
set_option maxRecDepth 100000 in
set_option maxHeartbeats 4000000 in
theorem k_known0 (l : Launch) (D : va_G) (K : Nat → ClassId) (base : Nat) (X : Nat → Nat) (t : Nat) (ht : t < 4) (c : CS) (hI : Inv c) : CtI l D K base yS_known cS_known 4 .int (rmD 1) [.ref (X 0), .int (nI t), .int 0] (cW X K c) (f_known0 t c) (cW X K c) := by
  refine CtI.enter (by decide) (Nat.le_of_ble_eq_true rfl) ?_
  intro κ A Q F hE
  show G κ l (rmD 1) A Q D 4 0 0 (cW X K c) 0 [(0, .ref (X 0)), (1, .int (nI t)), (2, .int 0)] []
  refine G.aload_n 0 F dS_known_0 rfl rfl ?_
  refine G.iload_n 1 F dS_known_1 rfl rfl ?_
  refine G.callr F (k_workerOf l D K base X t ht c hI) ckS_29 cW_x rfl rfl ⟨rfl, rfl⟩ ⟨by decide, by decide⟩ ⟨Nat.zero_le _, Nat.zero_le _⟩ rfl rfl (Nat.le_of_ble_eq_true rfl) dS_known_2 ?_
  refine G.astore_nN F dS_known_5 rfl (by decide) rfl ?_
  refine G.iload_n 3 F dS_known_6 rfl rfl ?_
  refine G.tabIn 36 (off := 29) F dS_known_7 (by decide) (by decide) rfl rfl ?_
  refine G.aload_n 0 F dS_known_36 rfl rfl ?_
  refine G.gT 4 10 F rfl ht (by decide) flS_74 dS_known_37 ?_
  exact hE _ _ (c 10 t) dS_known_40 rfl rfl.symm

def f_known1 (t : Nat) (c : CS) : Int32 := c 12 t
set_option maxRecDepth 100000 in
set_option maxHeartbeats 4000000 in
theorem k_known1 (l : Launch) (D : va_G) (K : Nat → ClassId) (base : Nat) (X : Nat → Nat) (t : Nat) (ht : t < 4) (c : CS) (hI : Inv c) : CtI l D K base yS_known cS_known 4 .int (rmD 1) [.ref (X 0), .int (nI t), .int 1] (cW X K c) (f_known1 t c) (cW X K c) := by
  refine CtI.enter (by decide) (Nat.le_of_ble_eq_true rfl) ?_
  intro κ A Q F hE
  show G κ l (rmD 1) A Q D 4 0 0 (cW X K c) 0 [(0, .ref (X 0)), (1, .int (nI t)), (2, .int 1)] []
  refine G.aload_n 0 F dS_known_0 rfl rfl ?_
  refine G.iload_n 1 F dS_known_1 rfl rfl ?_
  refine G.callr F (k_workerOf l D K base X t ht c hI) ckS_29 cW_x rfl rfl ⟨rfl, rfl⟩ ⟨by decide, by decide⟩ ⟨Nat.zero_le _, Nat.zero_le _⟩ rfl rfl (Nat.le_of_ble_eq_true rfl) dS_known_2 ?_
  refine G.astore_nN F dS_known_5 rfl (by decide) rfl ?_
  refine G.iload_n 3 F dS_known_6 rfl rfl ?_
  refine G.tabIn 41 (off := 34) F dS_known_7 (by decide) (by decide) rfl rfl ?_
  refine G.aload_n 0 F dS_known_41 rfl rfl ?_
  refine G.gT 6 12 F rfl ht (by decide) flS_77 dS_known_42 ?_
  exact hE _ _ (c 12 t) dS_known_45 rfl rfl.symm

def f_known2 (t : Nat) (c : CS) : Int32 := c 14 t
set_option maxRecDepth 100000 in
set_option maxHeartbeats 4000000 in
theorem k_known2 (l : Launch) (D : va_G) (K : Nat → ClassId) (base : Nat) (X : Nat → Nat) (t : Nat) (ht : t < 4) (c : CS) (hI : Inv c) : CtI l D K base yS_known cS_known 4 .int (rmD 1) [.ref (X 0), .int (nI t), .int 2] (cW X K c) (f_known2 t c) (cW X K c) := by
  refine CtI.enter (by decide) (Nat.le_of_ble_eq_true rfl) ?_
  intro κ A Q F hE
  show G κ l (rmD 1) A Q D 4 0 0 (cW X K c) 0 [(0, .ref (X 0)), (1, .int (nI t)), (2, .int 2)] []
  refine G.aload_n 0 F dS_known_0 rfl rfl ?_
  refine G.iload_n 1 F dS_known_1 rfl rfl ?_
  refine G.callr F (k_workerOf l D K base X t ht c hI) ckS_29 cW_x rfl rfl ⟨rfl, rfl⟩ ⟨by decide, by decide⟩ ⟨Nat.zero_le _, Nat.zero_le _⟩ rfl rfl (Nat.le_of_ble_eq_true rfl) dS_known_2 ?_
  refine G.astore_nN F dS_known_5 rfl (by decide) rfl ?_
  refine G.iload_n 3 F dS_known_6 rfl rfl ?_
  refine G.tabIn 46 (off := 39) F dS_known_7 (by decide) (by decide) rfl rfl ?_
  refine G.aload_n 0 F dS_known_46 rfl rfl ?_
  refine G.gT 8 14 F rfl ht (by decide) flS_80 dS_known_47 ?_
  exact hE _ _ (c 14 t) dS_known_50 rfl rfl.symm

def f_known3 (t : Nat) (c : CS) : Int32 := c 16 t
set_option maxRecDepth 100000 in
set_option maxHeartbeats 4000000 in
theorem k_known3 (l : Launch) (D : va_G) (K : Nat → ClassId) (base : Nat) (X : Nat → Nat) (t : Nat) (ht : t < 4) (c : CS) (hI : Inv c) : CtI l D K base yS_known cS_known 4 .int (rmD 1) [.ref (X 0), .int (nI t), .int 3] (cW X K c) (f_known3 t c) (cW X K c) := by
  refine CtI.enter (by decide) (Nat.le_of_ble_eq_true rfl) ?_
  intro κ A Q F hE
  show G κ l (rmD 1) A Q D 4 0 0 (cW X K c) 0 [(0, .ref (X 0)), (1, .int (nI t)), (2, .int 3)] []
  refine G.aload_n 0 F dS_known_0 rfl rfl ?_
  refine G.iload_n 1 F dS_known_1 rfl rfl ?_
  refine G.callr F (k_workerOf l D K base X t ht c hI) ckS_29 cW_x rfl rfl ⟨rfl, rfl⟩ ⟨by decide, by decide⟩ ⟨Nat.zero_le _, Nat.zero_le _⟩ rfl rfl (Nat.le_of_ble_eq_true rfl) dS_known_2 ?_
  refine G.astore_nN F dS_known_5 rfl (by decide) rfl ?_
  refine G.iload_n 3 F dS_known_6 rfl rfl ?_
  refine G.tabIn 51 (off := 44) F dS_known_7 (by decide) (by decide) rfl rfl ?_
  refine G.aload_n 0 F dS_known_51 rfl rfl ?_
  refine G.gT 10 16 F rfl ht (by decide) flS_83 dS_known_52 ?_
  exact hE _ _ (c 16 t) dS_known_55 rfl rfl.symm

def f_says0 (t : Nat) (c : CS) : Int32 := c 19 t
set_option maxRecDepth 100000 in
set_option maxHeartbeats 4000000 in
theorem k_says0 (l : Launch) (D : va_G) (K : Nat → ClassId) (base : Nat) (X : Nat → Nat) (t : Nat) (ht : t < 4) (c : CS) (hI : Inv c) : CtI l D K base yS_says cS_says 4 .int (rmD 1) [.ref (X 0), .int (nI t), .int 0] (cW X K c) (f_says0 t c) (cW X K c) := by
  refine CtI.enter (by decide) (Nat.le_of_ble_eq_true rfl) ?_
  intro κ A Q F hE
  show G κ l (rmD 1) A Q D 4 0 0 (cW X K c) 0 [(0, .ref (X 0)), (1, .int (nI t)), (2, .int 0)] []
  refine G.aload_n 0 F dS_says_0 rfl rfl ?_
  refine G.iload_n 1 F dS_says_1 rfl rfl ?_
  refine G.callr F (k_workerOf l D K base X t ht c hI) ckS_29 cW_x rfl rfl ⟨rfl, rfl⟩ ⟨by decide, by decide⟩ ⟨Nat.zero_le _, Nat.zero_le _⟩ rfl rfl (Nat.le_of_ble_eq_true rfl) dS_says_2 ?_
  refine G.astore_nN F dS_says_5 rfl (by decide) rfl ?_
  refine G.iload_n 3 F dS_says_6 rfl rfl ?_
  refine G.tabIn 32 (off := 25) F dS_says_7 (by decide) (by decide) rfl rfl ?_
  refine G.aload_n 0 F dS_says_32 rfl rfl ?_
  refine G.gT 13 19 F rfl ht (by decide) flS_91 dS_says_33 ?_
  exact hE _ _ (c 19 t) dS_says_36 rfl rfl.symm

def f_says1 (t : Nat) (c : CS) : Int32 := c 20 t
set_option maxRecDepth 100000 in
set_option maxHeartbeats 4000000 in
theorem k_says1 (l : Launch) (D : va_G) (K : Nat → ClassId) (base : Nat) (X : Nat → Nat) (t : Nat) (ht : t < 4) (c : CS) (hI : Inv c) : CtI l D K base yS_says cS_says 4 .int (rmD 1) [.ref (X 0), .int (nI t), .int 1] (cW X K c) (f_says1 t c) (cW X K c) := by
  refine CtI.enter (by decide) (Nat.le_of_ble_eq_true rfl) ?_
  intro κ A Q F hE
  show G κ l (rmD 1) A Q D 4 0 0 (cW X K c) 0 [(0, .ref (X 0)), (1, .int (nI t)), (2, .int 1)] []
  refine G.aload_n 0 F dS_says_0 rfl rfl ?_
  refine G.iload_n 1 F dS_says_1 rfl rfl ?_
  refine G.callr F (k_workerOf l D K base X t ht c hI) ckS_29 cW_x rfl rfl ⟨rfl, rfl⟩ ⟨by decide, by decide⟩ ⟨Nat.zero_le _, Nat.zero_le _⟩ rfl rfl (Nat.le_of_ble_eq_true rfl) dS_says_2 ?_
  refine G.astore_nN F dS_says_5 rfl (by decide) rfl ?_
  refine G.iload_n 3 F dS_says_6 rfl rfl ?_
  refine G.tabIn 37 (off := 30) F dS_says_7 (by decide) (by decide) rfl rfl ?_
  refine G.aload_n 0 F dS_says_37 rfl rfl ?_
  refine G.gT 14 20 F rfl ht (by decide) flS_94 dS_says_38 ?_
  exact hE _ _ (c 20 t) dS_says_41 rfl rfl.symm

def f_says2 (t : Nat) (c : CS) : Int32 := c 21 t
set_option maxRecDepth 100000 in
set_option maxHeartbeats 4000000 in
theorem k_says2 (l : Launch) (D : va_G) (K : Nat → ClassId) (base : Nat) (X : Nat → Nat) (t : Nat) (ht : t < 4) (c : CS) (hI : Inv c) : CtI l D K base yS_says cS_says 4 .int (rmD 1) [.ref (X 0), .int (nI t), .int 2] (cW X K c) (f_says2 t c) (cW X K c) := by
  refine CtI.enter (by decide) (Nat.le_of_ble_eq_true rfl) ?_
  intro κ A Q F hE
  show G κ l (rmD 1) A Q D 4 0 0 (cW X K c) 0 [(0, .ref (X 0)), (1, .int (nI t)), (2, .int 2)] []
  refine G.aload_n 0 F dS_says_0 rfl rfl ?_
  refine G.iload_n 1 F dS_says_1 rfl rfl ?_
  refine G.callr F (k_workerOf l D K base X t ht c hI) ckS_29 cW_x rfl rfl ⟨rfl, rfl⟩ ⟨by decide, by decide⟩ ⟨Nat.zero_le _, Nat.zero_le _⟩ rfl rfl (Nat.le_of_ble_eq_true rfl) dS_says_2 ?_
  refine G.astore_nN F dS_says_5 rfl (by decide) rfl ?_
  refine G.iload_n 3 F dS_says_6 rfl rfl ?_
  refine G.tabIn 42 (off := 35) F dS_says_7 (by decide) (by decide) rfl rfl ?_
  refine G.aload_n 0 F dS_says_42 rfl rfl ?_
  refine G.gT 15 21 F rfl ht (by decide) flS_97 dS_says_43 ?_
  exact hE _ _ (c 21 t) dS_says_46 rfl rfl.symm

def f_retireHere (t : Nat) (c : CS) : CS := (if c 22 0 = 2 then (f_setFree ((c 12 t).toNatClampNeg) c) else (if c 22 0 = 0 then (f_retireWith ((c 12 t).toNatClampNeg) (c 22 1) c) else (if f_countRetiredBy t (f_retireWith ((c 12 t).toNatClampNeg) (c 6 t) c) < 4 then (f_retireWith ((c 12 t).toNatClampNeg) (c 6 t) c) else (f_freeUnnamed t (f_retireWith ((c 12 t).toNatClampNeg) (c 6 t) c)).2)))
theorem i_retireHere (t : Nat) (ht : t < 4) (c : CS) (hI : Inv c) : Inv (f_retireHere t c) := by
  unfold f_retireHere
  exact (ite_c (fun h1 => (i_setFree ((c 12 t).toNatClampNeg) (ix_lt (hI 12 _ rfl)) c hI)) (fun h1 => (ite_c (fun h2 => (i_retireWith ((c 12 t).toNatClampNeg) (ix_lt (hI 12 _ rfl)) (c 22 1) c hI)) (fun h2 => (ite_c (fun h3 => (i_retireWith ((c 12 t).toNatClampNeg) (ix_lt (hI 12 _ rfl)) (c 6 t) c hI)) (fun h3 => (i_freeUnnamed t ht (f_retireWith ((c 12 t).toNatClampNeg) (c 6 t) c) (i_retireWith ((c 12 t).toNatClampNeg) (ix_lt (hI 12 _ rfl)) (c 6 t) c hI))))))))
set_option maxRecDepth 100000 in
set_option maxHeartbeats 4000000 in
theorem k_retireHere (l : Launch) (D : va_G) (K : Nat → ClassId) (base : Nat) (X : Nat → Nat) (t : Nat) (ht : t < 4) (c : CS) (hI : Inv c) : CtV l D K base yS_retireHere cS_retireHere 3 (rmD 2) [.ref (X 0), .ref (X (24 + t))] (cW X K c) (cW X K (f_retireHere t c)) := by
  refine CtV.enter (by decide) (Nat.le_of_ble_eq_true rfl) ?_
  intro κ A Q F hE
  show G κ l (rmD 2) A Q D 3 0 0 (cW X K c) 0 [(0, .ref (X 0)), (1, .ref (X (24 + t)))] []
  refine G.aload_n 0 F dS_retireHere_0 rfl rfl ?_
  refine G.gX 1 F (by decide) flS_15 rfl dS_retireHere_1 ?_
  refine G.aload_n 1 F dS_retireHere_4 rfl rfl ?_
  refine G.gT 6 12 F rfl ht (by decide) flS_77 dS_retireHere_5 ?_
  refine G.ldB F (hI 12 _ rfl) dS_retireHere_8 ?_
  refine G.astore_nN F dS_retireHere_9 rfl (by decide) rfl ?_
  refine G.aload_n 1 F dS_retireHere_10 rfl rfl ?_
  refine G.gX 0 F (by decide) flS_9 rfl dS_retireHere_11 ?_
  refine G.iconst 2 F dS_retireHere_14 (by decide) ?_
  refine G.icmp_ne 25 F dS_retireHere_15 rfl (fun h1 => ?_) (fun h1 => ?_)
  · skip
    refine G.aload_n 1 F dS_retireHere_25 rfl rfl ?_
    refine G.gX 0 F (by decide) flS_9 rfl dS_retireHere_26 ?_
    refine G.if_ne 43 F dS_retireHere_29 rfl (fun h2 => ?_) (fun h2 => ?_)
    · skip
      refine G.aload_n 0 F dS_retireHere_43 rfl rfl ?_
      refine G.aload_n 2 F dS_retireHere_44 rfl rfl ?_
      refine G.gT 0 6 F rfl ht (by decide) flS_244 dS_retireHere_45 ?_
      refine G.callv F (k_retireWith l D K base X ((c 12 t).toNatClampNeg) (ix_lt (hI 12 _ rfl)) (c 6 t) c hI) ckS_241 (cW_b (ix_lt (hI 12 _ rfl))) rfl rfl ⟨rfl, rfl⟩ ⟨by decide, by decide⟩ ⟨Nat.zero_le _, Nat.zero_le _⟩ rfl rfl (Nat.le_of_ble_eq_true rfl) dS_retireHere_48 ?_
      refine G.aload_n 1 F dS_retireHere_51 rfl rfl ?_
      refine G.aload_n 2 F dS_retireHere_52 rfl rfl ?_
      refine G.calli F (k_countRetiredBy l D K base X t ht (f_retireWith ((c 12 t).toNatClampNeg) (c 6 t) c) (i_retireWith ((c 12 t).toNatClampNeg) (ix_lt (hI 12 _ rfl)) (c 6 t) c hI)) ckS_247 cW_x rfl rfl ⟨rfl, rfl⟩ ⟨by decide, by decide⟩ ⟨Nat.zero_le _, Nat.zero_le _⟩ rfl rfl (Nat.le_of_ble_eq_true rfl) dS_retireHere_53 ?_
      refine G.iconst 4 F dS_retireHere_56 (by decide) ?_
      refine G.icmp_lt 66 F dS_retireHere_57 rfl (fun h3 => ?_) (fun h3 => ?_)
      · skip
        exact G.st (congrArg (cW X K) ((if_neg h1).trans ((if_neg h2).trans (if_pos h3)))) (hE _ _ dS_retireHere_66)
      · skip
        refine G.aload_n 1 F dS_retireHere_60 rfl rfl ?_
        refine G.aload_n 2 F dS_retireHere_61 rfl rfl ?_
        refine G.calli F (k_freeUnnamed l D K base X t ht (f_retireWith ((c 12 t).toNatClampNeg) (c 6 t) c) (i_retireWith ((c 12 t).toNatClampNeg) (ix_lt (hI 12 _ rfl)) (c 6 t) c hI)) ckS_119 cW_x rfl rfl ⟨rfl, rfl⟩ ⟨by decide, by decide⟩ ⟨Nat.zero_le _, Nat.zero_le _⟩ rfl rfl (Nat.le_of_ble_eq_true rfl) dS_retireHere_62 ?_
        refine G.pop F dS_retireHere_65 rfl ?_
        exact G.st (congrArg (cW X K) ((if_neg h1).trans ((if_neg h2).trans (if_neg h3)))) (hE _ _ dS_retireHere_66)
    · skip
      refine G.aload_n 0 F dS_retireHere_32 rfl rfl ?_
      refine G.aload_n 1 F dS_retireHere_33 rfl rfl ?_
      refine G.gX 3 F (by decide) flS_111 rfl dS_retireHere_34 ?_
      refine G.callv F (k_retireWith l D K base X ((c 12 t).toNatClampNeg) (ix_lt (hI 12 _ rfl)) (c 22 1) c hI) ckS_241 (cW_b (ix_lt (hI 12 _ rfl))) rfl rfl ⟨rfl, rfl⟩ ⟨by decide, by decide⟩ ⟨Nat.zero_le _, Nat.zero_le _⟩ rfl rfl (Nat.le_of_ble_eq_true rfl) dS_retireHere_37 ?_
      refine G.goto 66 F dS_retireHere_40 rfl ?_
      exact G.st (congrArg (cW X K) ((if_neg h1).trans (if_pos h2))) (hE _ _ dS_retireHere_66)
  · skip
    refine G.aload_n 0 F dS_retireHere_18 rfl rfl ?_
    refine G.callv F (k_setFree l D K base X ((c 12 t).toNatClampNeg) (ix_lt (hI 12 _ rfl)) c hI) ckS_238 (cW_b (ix_lt (hI 12 _ rfl))) rfl rfl ⟨rfl, rfl⟩ ⟨by decide, by decide⟩ ⟨Nat.zero_le _, Nat.zero_le _⟩ rfl rfl (Nat.le_of_ble_eq_true rfl) dS_retireHere_19 ?_
    refine G.goto 66 F dS_retireHere_22 rfl ?_
    exact G.st (congrArg (cW X K) (if_pos h1)) (hE _ _ dS_retireHere_66)

def f_hangNewBlock (t : Nat) (c : CS) : CS := (if f_leadsTo (((f_lookAtBack t c) 10 t).toNatClampNeg) ((f_lookAtBack t c) 12 t) (f_lookAtBack t c) = 0 then (up2 (f_lookAtBack t c) 7 t 2) else (f_conclude t 1 (f_lead (((f_lookAtBack t c) 10 t).toNatClampNeg) ((f_lookAtBack t c) 16 t) (f_lookAtBack t c))))
theorem i_hangNewBlock (t : Nat) (ht : t < 4) (c : CS) (hI : Inv c) : Inv (f_hangNewBlock t c) := by
  unfold f_hangNewBlock
  exact (ite_c (fun h1 => (Inv.upo (i_lookAtBack t ht c hI) rfl)) (fun h1 => (i_conclude t ht 1 (f_lead (((f_lookAtBack t c) 10 t).toNatClampNeg) ((f_lookAtBack t c) 16 t) (f_lookAtBack t c)) (i_lead (((f_lookAtBack t c) 10 t).toNatClampNeg) (ix_lt ((i_lookAtBack t ht c hI) 10 _ rfl)) ((f_lookAtBack t c) 16 t) ((i_lookAtBack t ht c hI) 16 _ rfl) (f_lookAtBack t c) (i_lookAtBack t ht c hI)))))
set_option maxRecDepth 100000 in
set_option maxHeartbeats 4000000 in
theorem k_hangNewBlock (l : Launch) (D : va_G) (K : Nat → ClassId) (base : Nat) (X : Nat → Nat) (t : Nat) (ht : t < 4) (c : CS) (hI : Inv c) : CtV l D K base yS_hangNewBlock cS_hangNewBlock 3 (rmD 2) [.ref (X 0), .ref (X (24 + t))] (cW X K c) (cW X K (f_hangNewBlock t c)) := by
  refine CtV.enter (by decide) (Nat.le_of_ble_eq_true rfl) ?_
  intro κ A Q F hE
  show G κ l (rmD 2) A Q D 3 0 0 (cW X K c) 0 [(0, .ref (X 0)), (1, .ref (X (24 + t)))] []
  refine G.aload_n 0 F dS_hangNewBlock_0 rfl rfl ?_
  refine G.aload_n 1 F dS_hangNewBlock_1 rfl rfl ?_
  refine G.callv F (k_lookAtBack l D K base X t ht c hI) ckS_183 cW_x rfl rfl ⟨rfl, rfl⟩ ⟨by decide, by decide⟩ ⟨Nat.zero_le _, Nat.zero_le _⟩ rfl rfl (Nat.le_of_ble_eq_true rfl) dS_hangNewBlock_2 ?_
  refine G.aload_n 0 F dS_hangNewBlock_5 rfl rfl ?_
  refine G.gX 1 F (by decide) flS_15 rfl dS_hangNewBlock_6 ?_
  refine G.aload_n 1 F dS_hangNewBlock_9 rfl rfl ?_
  refine G.gT 4 10 F rfl ht (by decide) flS_74 dS_hangNewBlock_10 ?_
  refine G.ldB F ((i_lookAtBack t ht c hI) 10 _ rfl) dS_hangNewBlock_13 ?_
  refine G.astore_nN F dS_hangNewBlock_14 rfl (by decide) rfl ?_
  refine G.aload_n 0 F dS_hangNewBlock_15 rfl rfl ?_
  refine G.aload_n 2 F dS_hangNewBlock_16 rfl rfl ?_
  refine G.gT 6 12 F rfl ht (by decide) flS_77 dS_hangNewBlock_17 ?_
  refine G.calli F (k_leadsTo l D K base X (((f_lookAtBack t c) 10 t).toNatClampNeg) (ix_lt ((i_lookAtBack t ht c hI) 10 _ rfl)) ((f_lookAtBack t c) 12 t) (f_lookAtBack t c) (i_lookAtBack t ht c hI)) ckS_186 (cW_b (ix_lt ((i_lookAtBack t ht c hI) 10 _ rfl))) rfl rfl ⟨rfl, rfl⟩ ⟨by decide, by decide⟩ ⟨Nat.zero_le _, Nat.zero_le _⟩ rfl rfl (Nat.le_of_ble_eq_true rfl) dS_hangNewBlock_20 ?_
  refine G.if_eq 43 F dS_hangNewBlock_23 rfl (fun h1 => ?_) (fun h1 => ?_)
  · skip
    refine G.aload_n 2 F dS_hangNewBlock_43 rfl rfl ?_
    refine G.iconst 2 F dS_hangNewBlock_44 (by decide) ?_
    refine G.pT 1 7 F rfl ht (by decide) (by decide) flS_42 rfl rfl dS_hangNewBlock_45 ?_
    exact G.st (congrArg (cW X K) (if_pos h1)) (hE _ _ dS_hangNewBlock_48)
  · skip
    refine G.aload_n 0 F dS_hangNewBlock_26 rfl rfl ?_
    refine G.aload_n 2 F dS_hangNewBlock_27 rfl rfl ?_
    refine G.gT 10 16 F rfl ht (by decide) flS_83 dS_hangNewBlock_28 ?_
    refine G.callv F (k_lead l D K base X (((f_lookAtBack t c) 10 t).toNatClampNeg) (ix_lt ((i_lookAtBack t ht c hI) 10 _ rfl)) ((f_lookAtBack t c) 16 t) ((i_lookAtBack t ht c hI) 16 _ rfl) (f_lookAtBack t c) (i_lookAtBack t ht c hI)) ckS_219 (cW_b (ix_lt ((i_lookAtBack t ht c hI) 10 _ rfl))) rfl rfl ⟨rfl, rfl⟩ ⟨by decide, by decide⟩ ⟨Nat.zero_le _, Nat.zero_le _⟩ rfl rfl (Nat.le_of_ble_eq_true rfl) dS_hangNewBlock_31 ?_
    refine G.aload_n 1 F dS_hangNewBlock_34 rfl rfl ?_
    refine G.aload_n 2 F dS_hangNewBlock_35 rfl rfl ?_
    refine G.iconst 1 F dS_hangNewBlock_36 (by decide) ?_
    refine G.callv F (k_conclude l D K base X t ht 1 (f_lead (((f_lookAtBack t c) 10 t).toNatClampNeg) ((f_lookAtBack t c) 16 t) (f_lookAtBack t c)) (i_lead (((f_lookAtBack t c) 10 t).toNatClampNeg) (ix_lt ((i_lookAtBack t ht c hI) 10 _ rfl)) ((f_lookAtBack t c) 16 t) ((i_lookAtBack t ht c hI) 16 _ rfl) (f_lookAtBack t c) (i_lookAtBack t ht c hI))) ckS_209 cW_x rfl rfl ⟨rfl, rfl⟩ ⟨by decide, by decide⟩ ⟨Nat.zero_le _, Nat.zero_le _⟩ rfl rfl (Nat.le_of_ble_eq_true rfl) dS_hangNewBlock_37 ?_
    refine G.goto 48 F dS_hangNewBlock_40 rfl ?_
    exact G.st (congrArg (cW X K) (if_neg h1)) (hE _ _ dS_hangNewBlock_48)

def f_markForRemoval (t : Nat) (c : CS) : CS := (if c 15 t = 0 then (f_conclude t 0 c) else (if f_leadsTo (((f_lookAtHere t c) 12 t).toNatClampNeg) ((f_lookAtHere t c) 14 t) (f_lookAtHere t c) = 0 then (up2 (f_lookAtHere t c) 7 t 2) else (up2 (up2 (f_lookAtHere t c) 3 (((f_lookAtHere t c) 12 t).toNatClampNeg) 1) 7 t 10)))
theorem i_markForRemoval (t : Nat) (ht : t < 4) (c : CS) (hI : Inv c) : Inv (f_markForRemoval t c) := by
  unfold f_markForRemoval
  exact (ite_c (fun h1 => (i_conclude t ht 0 c hI)) (fun h1 => (ite_c (fun h2 => (Inv.upo (i_lookAtHere t ht c hI) rfl)) (fun h2 => (Inv.upo (Inv.upo (i_lookAtHere t ht c hI) rfl) rfl)))))
set_option maxRecDepth 100000 in
set_option maxHeartbeats 4000000 in
theorem k_markForRemoval (l : Launch) (D : va_G) (K : Nat → ClassId) (base : Nat) (X : Nat → Nat) (t : Nat) (ht : t < 4) (c : CS) (hI : Inv c) : CtV l D K base yS_markForRemoval cS_markForRemoval 3 (rmD 2) [.ref (X 0), .ref (X (24 + t))] (cW X K c) (cW X K (f_markForRemoval t c)) := by
  refine CtV.enter (by decide) (Nat.le_of_ble_eq_true rfl) ?_
  intro κ A Q F hE
  show G κ l (rmD 2) A Q D 3 0 0 (cW X K c) 0 [(0, .ref (X 0)), (1, .ref (X (24 + t)))] []
  refine G.aload_n 1 F dS_markForRemoval_0 rfl rfl ?_
  refine G.gT 9 15 F rfl ht (by decide) flS_190 dS_markForRemoval_1 ?_
  refine G.if_ne 14 F dS_markForRemoval_4 rfl (fun h1 => ?_) (fun h1 => ?_)
  · skip
    refine G.aload_n 0 F dS_markForRemoval_14 rfl rfl ?_
    refine G.aload_n 1 F dS_markForRemoval_15 rfl rfl ?_
    refine G.callv F (k_lookAtHere l D K base X t ht c hI) ckS_193 cW_x rfl rfl ⟨rfl, rfl⟩ ⟨by decide, by decide⟩ ⟨Nat.zero_le _, Nat.zero_le _⟩ rfl rfl (Nat.le_of_ble_eq_true rfl) dS_markForRemoval_16 ?_
    refine G.aload_n 0 F dS_markForRemoval_19 rfl rfl ?_
    refine G.gX 1 F (by decide) flS_15 rfl dS_markForRemoval_20 ?_
    refine G.aload_n 1 F dS_markForRemoval_23 rfl rfl ?_
    refine G.gT 6 12 F rfl ht (by decide) flS_77 dS_markForRemoval_24 ?_
    refine G.ldB F ((i_lookAtHere t ht c hI) 12 _ rfl) dS_markForRemoval_27 ?_
    refine G.astore_nN F dS_markForRemoval_28 rfl (by decide) rfl ?_
    refine G.aload_n 0 F dS_markForRemoval_29 rfl rfl ?_
    refine G.aload_n 2 F dS_markForRemoval_30 rfl rfl ?_
    refine G.gT 8 14 F rfl ht (by decide) flS_80 dS_markForRemoval_31 ?_
    refine G.calli F (k_leadsTo l D K base X (((f_lookAtHere t c) 12 t).toNatClampNeg) (ix_lt ((i_lookAtHere t ht c hI) 12 _ rfl)) ((f_lookAtHere t c) 14 t) (f_lookAtHere t c) (i_lookAtHere t ht c hI)) ckS_186 (cW_b (ix_lt ((i_lookAtHere t ht c hI) 12 _ rfl))) rfl rfl ⟨rfl, rfl⟩ ⟨by decide, by decide⟩ ⟨Nat.zero_le _, Nat.zero_le _⟩ rfl rfl (Nat.le_of_ble_eq_true rfl) dS_markForRemoval_34 ?_
    refine G.if_eq 54 F dS_markForRemoval_37 rfl (fun h2 => ?_) (fun h2 => ?_)
    · skip
      refine G.aload_n 2 F dS_markForRemoval_54 rfl rfl ?_
      refine G.iconst 2 F dS_markForRemoval_55 (by decide) ?_
      refine G.pT 1 7 F rfl ht (by decide) (by decide) flS_42 rfl rfl dS_markForRemoval_56 ?_
      exact G.st (congrArg (cW X K) ((if_neg h1).trans (if_pos h2))) (hE _ _ dS_markForRemoval_59)
    · skip
      refine G.aload_n 0 F dS_markForRemoval_40 rfl rfl ?_
      refine G.iconst 1 F dS_markForRemoval_41 (by decide) ?_
      refine G.pB 3 F (ix_lt ((i_lookAtHere t ht c hI) 12 _ rfl)) (by decide) flS_134 rfl rfl dS_markForRemoval_42 ?_
      refine G.aload_n 2 F dS_markForRemoval_45 rfl rfl ?_
      refine G.bipush 10 F dS_markForRemoval_46 (by decide) ?_
      refine G.pT 1 7 F rfl ht (by decide) (by decide) flS_42 rfl rfl dS_markForRemoval_48 ?_
      refine G.goto 59 F dS_markForRemoval_51 rfl ?_
      exact G.st (congrArg (cW X K) ((if_neg h1).trans (if_neg h2))) (hE _ _ dS_markForRemoval_59)
  · skip
    refine G.aload_n 0 F dS_markForRemoval_7 rfl rfl ?_
    refine G.aload_n 1 F dS_markForRemoval_8 rfl rfl ?_
    refine G.iconst 0 F dS_markForRemoval_9 (by decide) ?_
    refine G.callv F (k_conclude l D K base X t ht 0 c hI) ckS_209 cW_x rfl rfl ⟨rfl, rfl⟩ ⟨by decide, by decide⟩ ⟨Nat.zero_le _, Nat.zero_le _⟩ rfl rfl (Nat.le_of_ble_eq_true rfl) dS_markForRemoval_10 ?_
    exact G.st (congrArg (cW X K) (if_pos h1)) (hE _ _ dS_markForRemoval_13)

def f_prepareInsert (t : Nat) (c : CS) : CS := (if c 15 t = 0 then (if c 16 t = 0 then (if (f_takeFreeBlock c).1 = 0 then (f_conclude t 2 (up2 (f_takeFreeBlock c).2 16 t ((f_takeFreeBlock c).1))) else (up2 (f_lead (((f_takeFreeBlock c).1).toNatClampNeg) ((f_takeFreeBlock c).2 12 t) (up2 (up2 (f_takeFreeBlock c).2 16 t ((f_takeFreeBlock c).1)) 1 (((f_takeFreeBlock c).1).toNatClampNeg) ((f_takeFreeBlock c).2 9 t))) 7 t 8)) else (if c 16 t = 0 then (f_conclude t 2 c) else (up2 (f_lead ((c 16 t).toNatClampNeg) (c 12 t) (up2 c 1 ((c 16 t).toNatClampNeg) (c 9 t))) 7 t 8))) else (f_conclude t 0 (f_giveNewBlockBack t c)))
theorem i_prepareInsert (t : Nat) (ht : t < 4) (c : CS) (hI : Inv c) : Inv (f_prepareInsert t c) := by
  unfold f_prepareInsert
  exact (ite_c (fun h1 => (ite_c (fun h2 => (ite_c (fun h4 => (i_conclude t ht 2 (up2 (f_takeFreeBlock c).2 16 t ((f_takeFreeBlock c).1)) (Inv.upi (i_takeFreeBlock  c hI) (r_takeFreeBlock c)))) (fun h4 => (Inv.upo (i_lead (((f_takeFreeBlock c).1).toNatClampNeg) (ix_lt (r_takeFreeBlock c)) ((f_takeFreeBlock c).2 12 t) ((i_takeFreeBlock  c hI) 12 _ rfl) (up2 (up2 (f_takeFreeBlock c).2 16 t ((f_takeFreeBlock c).1)) 1 (((f_takeFreeBlock c).1).toNatClampNeg) ((f_takeFreeBlock c).2 9 t)) (Inv.upo (Inv.upi (i_takeFreeBlock  c hI) (r_takeFreeBlock c)) rfl)) rfl)))) (fun h2 => (ite_c (fun h3 => (i_conclude t ht 2 c hI)) (fun h3 => (Inv.upo (i_lead ((c 16 t).toNatClampNeg) (ix_lt (hI 16 _ rfl)) (c 12 t) (hI 12 _ rfl) (up2 c 1 ((c 16 t).toNatClampNeg) (c 9 t)) (Inv.upo hI rfl)) rfl)))))) (fun h1 => (i_conclude t ht 0 (f_giveNewBlockBack t c) (i_giveNewBlockBack t ht c hI))))
set_option maxRecDepth 100000 in
set_option maxHeartbeats 4000000 in
theorem k_prepareInsert (l : Launch) (D : va_G) (K : Nat → ClassId) (base : Nat) (X : Nat → Nat) (t : Nat) (ht : t < 4) (c : CS) (hI : Inv c) : CtV l D K base yS_prepareInsert cS_prepareInsert 3 (rmD 2) [.ref (X 0), .ref (X (24 + t))] (cW X K c) (cW X K (f_prepareInsert t c)) := by
  refine CtV.enter (by decide) (Nat.le_of_ble_eq_true rfl) ?_
  intro κ A Q F hE
  show G κ l (rmD 2) A Q D 3 0 0 (cW X K c) 0 [(0, .ref (X 0)), (1, .ref (X (24 + t)))] []
  refine G.aload_n 1 F dS_prepareInsert_0 rfl rfl ?_
  refine G.gT 9 15 F rfl ht (by decide) flS_190 dS_prepareInsert_1 ?_
  refine G.if_eq 19 F dS_prepareInsert_4 rfl (fun h1 => ?_) (fun h1 => ?_)
  · skip
    refine G.aload_n 1 F dS_prepareInsert_19 rfl rfl ?_
    refine G.gT 10 16 F rfl ht (by decide) flS_83 dS_prepareInsert_20 ?_
    refine G.if_ne 34 F dS_prepareInsert_23 rfl (fun h2 => ?_) (fun h2 => ?_)
    · skip
      refine G.aload_n 1 F dS_prepareInsert_34 rfl rfl ?_
      refine G.gT 10 16 F rfl ht (by decide) flS_83 dS_prepareInsert_35 ?_
      refine G.if_ne 48 F dS_prepareInsert_38 rfl (fun h3 => ?_) (fun h3 => ?_)
      · skip
        refine G.aload_n 0 F dS_prepareInsert_48 rfl rfl ?_
        refine G.gX 1 F (by decide) flS_15 rfl dS_prepareInsert_49 ?_
        refine G.aload_n 1 F dS_prepareInsert_52 rfl rfl ?_
        refine G.gT 10 16 F rfl ht (by decide) flS_83 dS_prepareInsert_53 ?_
        refine G.ldB F (hI 16 _ rfl) dS_prepareInsert_56 ?_
        refine G.astore_nN F dS_prepareInsert_57 rfl (by decide) rfl ?_
        refine G.aload_n 0 F dS_prepareInsert_58 rfl rfl ?_
        refine G.aload_n 2 F dS_prepareInsert_59 rfl rfl ?_
        refine G.gT 3 9 F rfl ht (by decide) flS_56 dS_prepareInsert_60 ?_
        refine G.pB 1 F (ix_lt (hI 16 _ rfl)) (by decide) flS_138 rfl rfl dS_prepareInsert_63 ?_
        refine G.aload_n 0 F dS_prepareInsert_66 rfl rfl ?_
        refine G.aload_n 2 F dS_prepareInsert_67 rfl rfl ?_
        refine G.gT 6 12 F rfl ht (by decide) flS_77 dS_prepareInsert_68 ?_
        refine G.tope (y := c 12 t) (up2_f _ _ _ _ (by decide)) ?_
        refine G.callv F (k_lead l D K base X ((c 16 t).toNatClampNeg) (ix_lt (hI 16 _ rfl)) (c 12 t) (hI 12 _ rfl) (up2 c 1 ((c 16 t).toNatClampNeg) (c 9 t)) (Inv.upo hI rfl)) ckS_219 (cW_b (ix_lt (hI 16 _ rfl))) rfl rfl ⟨rfl, rfl⟩ ⟨by decide, by decide⟩ ⟨Nat.zero_le _, Nat.zero_le _⟩ rfl rfl (Nat.le_of_ble_eq_true rfl) dS_prepareInsert_71 ?_
        refine G.aload_n 2 F dS_prepareInsert_74 rfl rfl ?_
        refine G.bipush 8 F dS_prepareInsert_75 (by decide) ?_
        refine G.pT 1 7 F rfl ht (by decide) (by decide) flS_42 rfl rfl dS_prepareInsert_77 ?_
        exact G.st (congrArg (cW X K) ((if_pos h1).trans ((if_neg h2).trans (if_neg h3)))) (hE _ _ dS_prepareInsert_80)
      · skip
        refine G.aload_n 0 F dS_prepareInsert_41 rfl rfl ?_
        refine G.aload_n 1 F dS_prepareInsert_42 rfl rfl ?_
        refine G.iconst 2 F dS_prepareInsert_43 (by decide) ?_
        refine G.callv F (k_conclude l D K base X t ht 2 c hI) ckS_209 cW_x rfl rfl ⟨rfl, rfl⟩ ⟨by decide, by decide⟩ ⟨Nat.zero_le _, Nat.zero_le _⟩ rfl rfl (Nat.le_of_ble_eq_true rfl) dS_prepareInsert_44 ?_
        exact G.st (congrArg (cW X K) ((if_pos h1).trans ((if_neg h2).trans (if_pos h3)))) (hE _ _ dS_prepareInsert_47)
    · skip
      refine G.aload_n 1 F dS_prepareInsert_26 rfl rfl ?_
      refine G.aload_n 0 F dS_prepareInsert_27 rfl rfl ?_
      refine G.calli F (k_takeFreeBlock l D K base X  c hI) ckS_215 cW_x rfl rfl ⟨rfl, rfl⟩ ⟨by decide, by decide⟩ ⟨Nat.zero_le _, Nat.zero_le _⟩ rfl rfl (Nat.le_of_ble_eq_true rfl) dS_prepareInsert_28 ?_
      refine G.pT 10 16 F rfl ht (by decide) (by decide) flS_83 rfl rfl dS_prepareInsert_31 ?_
      refine G.aload_n 1 F dS_prepareInsert_34 rfl rfl ?_
      refine G.gT 10 16 F rfl ht (by decide) flS_83 dS_prepareInsert_35 ?_
      refine G.tope (y := (f_takeFreeBlock c).1) (up2_eq _ _ _ _) ?_
      refine G.if_ne 48 F dS_prepareInsert_38 rfl (fun h4 => ?_) (fun h4 => ?_)
      · skip
        refine G.aload_n 0 F dS_prepareInsert_48 rfl rfl ?_
        refine G.gX 1 F (by decide) flS_15 rfl dS_prepareInsert_49 ?_
        refine G.aload_n 1 F dS_prepareInsert_52 rfl rfl ?_
        refine G.gT 10 16 F rfl ht (by decide) flS_83 dS_prepareInsert_53 ?_
        refine G.tope (y := (f_takeFreeBlock c).1) (up2_eq _ _ _ _) ?_
        refine G.ldB F (r_takeFreeBlock c) dS_prepareInsert_56 ?_
        refine G.astore_nN F dS_prepareInsert_57 rfl (by decide) rfl ?_
        refine G.aload_n 0 F dS_prepareInsert_58 rfl rfl ?_
        refine G.aload_n 2 F dS_prepareInsert_59 rfl rfl ?_
        refine G.gT 3 9 F rfl ht (by decide) flS_56 dS_prepareInsert_60 ?_
        refine G.tope (y := (f_takeFreeBlock c).2 9 t) (up2_f _ _ _ _ (by decide)) ?_
        refine G.pB 1 F (ix_lt (r_takeFreeBlock c)) (by decide) flS_138 rfl rfl dS_prepareInsert_63 ?_
        refine G.aload_n 0 F dS_prepareInsert_66 rfl rfl ?_
        refine G.aload_n 2 F dS_prepareInsert_67 rfl rfl ?_
        refine G.gT 6 12 F rfl ht (by decide) flS_77 dS_prepareInsert_68 ?_
        refine G.tope (y := (f_takeFreeBlock c).2 12 t) ((up2_f _ _ _ _ (by decide)).trans (up2_f _ _ _ _ (by decide))) ?_
        refine G.callv F (k_lead l D K base X (((f_takeFreeBlock c).1).toNatClampNeg) (ix_lt (r_takeFreeBlock c)) ((f_takeFreeBlock c).2 12 t) ((i_takeFreeBlock  c hI) 12 _ rfl) (up2 (up2 (f_takeFreeBlock c).2 16 t ((f_takeFreeBlock c).1)) 1 (((f_takeFreeBlock c).1).toNatClampNeg) ((f_takeFreeBlock c).2 9 t)) (Inv.upo (Inv.upi (i_takeFreeBlock  c hI) (r_takeFreeBlock c)) rfl)) ckS_219 (cW_b (ix_lt (r_takeFreeBlock c))) rfl rfl ⟨rfl, rfl⟩ ⟨by decide, by decide⟩ ⟨Nat.zero_le _, Nat.zero_le _⟩ rfl rfl (Nat.le_of_ble_eq_true rfl) dS_prepareInsert_71 ?_
        refine G.aload_n 2 F dS_prepareInsert_74 rfl rfl ?_
        refine G.bipush 8 F dS_prepareInsert_75 (by decide) ?_
        refine G.pT 1 7 F rfl ht (by decide) (by decide) flS_42 rfl rfl dS_prepareInsert_77 ?_
        exact G.st (congrArg (cW X K) ((if_pos h1).trans ((if_pos h2).trans (if_neg h4)))) (hE _ _ dS_prepareInsert_80)
      · skip
        refine G.aload_n 0 F dS_prepareInsert_41 rfl rfl ?_
        refine G.aload_n 1 F dS_prepareInsert_42 rfl rfl ?_
        refine G.iconst 2 F dS_prepareInsert_43 (by decide) ?_
        refine G.callv F (k_conclude l D K base X t ht 2 (up2 (f_takeFreeBlock c).2 16 t ((f_takeFreeBlock c).1)) (Inv.upi (i_takeFreeBlock  c hI) (r_takeFreeBlock c))) ckS_209 cW_x rfl rfl ⟨rfl, rfl⟩ ⟨by decide, by decide⟩ ⟨Nat.zero_le _, Nat.zero_le _⟩ rfl rfl (Nat.le_of_ble_eq_true rfl) dS_prepareInsert_44 ?_
        exact G.st (congrArg (cW X K) ((if_pos h1).trans ((if_pos h2).trans (if_pos h4)))) (hE _ _ dS_prepareInsert_47)
  · skip
    refine G.aload_n 0 F dS_prepareInsert_7 rfl rfl ?_
    refine G.aload_n 1 F dS_prepareInsert_8 rfl rfl ?_
    refine G.callv F (k_giveNewBlockBack l D K base X t ht c hI) ckS_212 cW_x rfl rfl ⟨rfl, rfl⟩ ⟨by decide, by decide⟩ ⟨Nat.zero_le _, Nat.zero_le _⟩ rfl rfl (Nat.le_of_ble_eq_true rfl) dS_prepareInsert_9 ?_
    refine G.aload_n 0 F dS_prepareInsert_12 rfl rfl ?_
    refine G.aload_n 1 F dS_prepareInsert_13 rfl rfl ?_
    refine G.iconst 0 F dS_prepareInsert_14 (by decide) ?_
    refine G.callv F (k_conclude l D K base X t ht 0 (f_giveNewBlockBack t c) (i_giveNewBlockBack t ht c hI)) ckS_209 cW_x rfl rfl ⟨rfl, rfl⟩ ⟨by decide, by decide⟩ ⟨Nat.zero_le _, Nat.zero_le _⟩ rfl rfl (Nat.le_of_ble_eq_true rfl) dS_prepareInsert_15 ?_
    exact G.st (congrArg (cW X K) (if_neg h1)) (hE _ _ dS_prepareInsert_18)

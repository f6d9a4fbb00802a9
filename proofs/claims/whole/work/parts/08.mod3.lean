def f_m_act (t : Nat) (m : CS) : Int32 × CS := (if m 7 t = 0 then (if m 14 t = 0 then (9, (up2 m 16 t 0)) else (9, (up2 m 16 t 1))) else (if m 7 t = 1 then ((f_m_insert t m).1, (f_m_insert t m).2) else ((f_m_remove t m).1, (f_m_remove t m).2)))
theorem i_m_act (t : Nat) (ht : t < 4) (m : CS) (hI : InvM m) : InvM (f_m_act t m).2 := by
  unfold f_m_act
  exact (ite_m2 (fun h1 => (ite_m2 (fun h3 => (InvM.upo hI rfl)) (fun h3 => (InvM.upo hI rfl)))) (fun h1 => (ite_m2 (fun h2 => (i_m_insert t ht m hI)) (fun h2 => (i_m_remove t ht m hI)))))
set_option maxRecDepth 100000 in
set_option maxHeartbeats 4000000 in
theorem k_m_act (l : Launch) (D : va_G) (K : Nat → ClassId) (base : Nat) (Y : Nat → Nat) (t : Nat) (ht : t < 4) (m : CS) (hI : InvM m) : CtI l D K base yM_act cM_act 2 .int (rmD 2) [.ref (Y 0), .int (nI t)] (mW Y K m) (f_m_act t m).1 (mW Y K (f_m_act t m).2) := by
  refine CtI.enter (by decide) (Nat.le_of_ble_eq_true rfl) ?_
  intro κ A Q F hE
  show G κ l (rmD 2) A Q D 2 0 0 (mW Y K m) 0 [(0, .ref (Y 0)), (1, .int (nI t))] []
  refine G.aload_n 0 F dM_act_0 rfl rfl ?_
  refine G.gM 11 F (by decide) flM_32 rfl dM_act_1 ?_
  refine G.iload_n 1 F dM_act_4 rfl rfl ?_
  refine G.ldMn 7 F (by decide) rfl (k := t) rfl ht dM_act_5 ?_
  refine G.if_ne 32 F dM_act_6 rfl (fun h1 => ?_) (fun h1 => ?_)
  · skip
    refine G.aload_n 0 F dM_act_32 rfl rfl ?_
    refine G.gM 11 F (by decide) flM_32 rfl dM_act_33 ?_
    refine G.iload_n 1 F dM_act_36 rfl rfl ?_
    refine G.ldMn 7 F (by decide) rfl (k := t) rfl ht dM_act_37 ?_
    refine G.iconst 1 F dM_act_38 (by decide) ?_
    refine G.icmp_ne 50 F dM_act_39 rfl (fun h2 => ?_) (fun h2 => ?_)
    · skip
      refine G.aload_n 0 F dM_act_50 rfl rfl ?_
      refine G.iload_n 1 F dM_act_51 rfl rfl ?_
      refine G.calli F (k_m_remove l D K base Y t ht m hI) ckM_120 mW_m rfl rfl ⟨rfl, rfl⟩ ⟨by decide, by decide⟩ ⟨Nat.zero_le _, Nat.zero_le _⟩ rfl rfl (Nat.le_of_ble_eq_true rfl) dM_act_52 ?_
      have hr9 : f_m_act t m = ((f_m_remove t m).1, (f_m_remove t m).2) := (if_neg h1).trans (if_neg h2)
      exact G.st (congrArg (fun z : Int32 × CS => mW Y K z.2) hr9) (hE _ _ ((f_m_remove t m).1) dM_act_55 rfl (congrArg Prod.fst hr9).symm)
    · skip
      refine G.aload_n 0 F dM_act_42 rfl rfl ?_
      refine G.iload_n 1 F dM_act_43 rfl rfl ?_
      refine G.calli F (k_m_insert l D K base Y t ht m hI) ckM_117 mW_m rfl rfl ⟨rfl, rfl⟩ ⟨by decide, by decide⟩ ⟨Nat.zero_le _, Nat.zero_le _⟩ rfl rfl (Nat.le_of_ble_eq_true rfl) dM_act_44 ?_
      refine G.goto 55 F dM_act_47 rfl ?_
      have hr9 : f_m_act t m = ((f_m_insert t m).1, (f_m_insert t m).2) := (if_neg h1).trans (if_pos h2)
      exact G.st (congrArg (fun z : Int32 × CS => mW Y K z.2) hr9) (hE _ _ ((f_m_insert t m).1) dM_act_55 rfl (congrArg Prod.fst hr9).symm)
  · skip
    refine G.aload_n 0 F dM_act_9 rfl rfl ?_
    refine G.gM 20 F (by decide) flM_59 rfl dM_act_10 ?_
    refine G.iload_n 1 F dM_act_13 rfl rfl ?_
    refine G.aload_n 0 F dM_act_14 rfl rfl ?_
    refine G.gM 18 F (by decide) flM_53 rfl dM_act_15 ?_
    refine G.iload_n 1 F dM_act_18 rfl rfl ?_
    refine G.ldMzn 14 F (by decide) rfl (k := t) rfl ht dM_act_19 ?_
    refine G.if_eq 27 F dM_act_20 rfl (fun h3 => ?_) (fun h3 => ?_)
    · skip
      refine G.iconst 0 F dM_act_27 (by decide) ?_
      refine G.stMn 16 F (by decide) rfl (k := t) rfl ht dM_act_28 ?_
      refine G.bipush 9 F dM_act_29 (by decide) ?_
      have hr9 : f_m_act t m = (9, (up2 m 16 t 0)) := (if_pos h1).trans (if_pos h3)
      exact G.st (congrArg (fun z : Int32 × CS => mW Y K z.2) hr9) (hE _ _ 9 dM_act_31 rfl (congrArg Prod.fst hr9).symm)
    · skip
      refine G.iconst 1 F dM_act_23 (by decide) ?_
      refine G.goto 28 F dM_act_24 rfl ?_
      refine G.stMn 16 F (by decide) rfl (k := t) rfl ht dM_act_28 ?_
      refine G.bipush 9 F dM_act_29 (by decide) ?_
      have hr9 : f_m_act t m = (9, (up2 m 16 t 1)) := (if_pos h1).trans (if_neg h3)
      exact G.st (congrArg (fun z : Int32 × CS => mW Y K z.2) hr9) (hE _ _ 9 dM_act_31 rfl (congrArg Prod.fst hr9).symm)

def f_m_hang (t : Nat) (m : CS) : Int32 × CS := (if f_m_linked t (f_m_lookBack t m) = 0 then (2, (f_m_lookBack t m)) else (9, (up2 (f_m_link ((f_m_lookBack t m) 9 t) ((f_m_lookBack t m) 15 t) (f_m_lookBack t m)) 16 t 1)))
theorem i_m_hang (t : Nat) (ht : t < 4) (m : CS) (hI : InvM m) : InvM (f_m_hang t m).2 := by
  unfold f_m_hang
  exact (ite_m2 (fun h1 => (i_m_lookBack t ht m hI)) (fun h1 => (InvM.upo (i_m_link ((f_m_lookBack t m) 9 t) ((i_m_lookBack t ht m hI) 9 _ rfl) ((f_m_lookBack t m) 15 t) ((i_m_lookBack t ht m hI) 15 _ rfl) (f_m_lookBack t m) (i_m_lookBack t ht m hI)) rfl)))
set_option maxRecDepth 100000 in
set_option maxHeartbeats 4000000 in
theorem k_m_hang (l : Launch) (D : va_G) (K : Nat → ClassId) (base : Nat) (Y : Nat → Nat) (t : Nat) (ht : t < 4) (m : CS) (hI : InvM m) : CtI l D K base yM_hang cM_hang 2 .int (rmD 2) [.ref (Y 0), .int (nI t)] (mW Y K m) (f_m_hang t m).1 (mW Y K (f_m_hang t m).2) := by
  refine CtI.enter (by decide) (Nat.le_of_ble_eq_true rfl) ?_
  intro κ A Q F hE
  show G κ l (rmD 2) A Q D 2 0 0 (mW Y K m) 0 [(0, .ref (Y 0)), (1, .int (nI t))] []
  refine G.aload_n 0 F dM_hang_0 rfl rfl ?_
  refine G.iload_n 1 F dM_hang_1 rfl rfl ?_
  refine G.callv F (k_m_lookBack l D K base Y t ht m hI) ckM_103 mW_m rfl rfl ⟨rfl, rfl⟩ ⟨by decide, by decide⟩ ⟨Nat.zero_le _, Nat.zero_le _⟩ rfl rfl (Nat.le_of_ble_eq_true rfl) dM_hang_2 ?_
  refine G.aload_n 0 F dM_hang_5 rfl rfl ?_
  refine G.iload_n 1 F dM_hang_6 rfl rfl ?_
  refine G.calli F (k_m_linked l D K base Y t ht (f_m_lookBack t m) (i_m_lookBack t ht m hI)) ckM_107 mW_m rfl rfl ⟨rfl, rfl⟩ ⟨by decide, by decide⟩ ⟨Nat.zero_le _, Nat.zero_le _⟩ rfl rfl (Nat.le_of_ble_eq_true rfl) dM_hang_7 ?_
  refine G.if_ne 15 F dM_hang_10 rfl (fun h1 => ?_) (fun h1 => ?_)
  · skip
    refine G.aload_n 0 F dM_hang_15 rfl rfl ?_
    refine G.aload_n 0 F dM_hang_16 rfl rfl ?_
    refine G.gM 13 F (by decide) flM_38 rfl dM_hang_17 ?_
    refine G.iload_n 1 F dM_hang_20 rfl rfl ?_
    refine G.ldMn 9 F (by decide) rfl (k := t) rfl ht dM_hang_21 ?_
    refine G.aload_n 0 F dM_hang_22 rfl rfl ?_
    refine G.gM 19 F (by decide) flM_56 rfl dM_hang_23 ?_
    refine G.iload_n 1 F dM_hang_26 rfl rfl ?_
    refine G.ldMn 15 F (by decide) rfl (k := t) rfl ht dM_hang_27 ?_
    refine G.iconst 0 F dM_hang_28 (by decide) ?_
    refine G.callv F (k_m_link l D K base Y ((f_m_lookBack t m) 9 t) ((i_m_lookBack t ht m hI) 9 _ rfl) ((f_m_lookBack t m) 15 t) ((i_m_lookBack t ht m hI) 15 _ rfl) (f_m_lookBack t m) (i_m_lookBack t ht m hI)) ckM_110 mW_m rfl rfl ⟨rfl, rfl⟩ ⟨by decide, by decide⟩ ⟨Nat.zero_le _, Nat.zero_le _⟩ rfl rfl (Nat.le_of_ble_eq_true rfl) dM_hang_29 ?_
    refine G.aload_n 0 F dM_hang_32 rfl rfl ?_
    refine G.gM 20 F (by decide) flM_59 rfl dM_hang_33 ?_
    refine G.iload_n 1 F dM_hang_36 rfl rfl ?_
    refine G.iconst 1 F dM_hang_37 (by decide) ?_
    refine G.stMn 16 F (by decide) rfl (k := t) rfl ht dM_hang_38 ?_
    refine G.bipush 9 F dM_hang_39 (by decide) ?_
    have hr9 : f_m_hang t m = (9, (up2 (f_m_link ((f_m_lookBack t m) 9 t) ((f_m_lookBack t m) 15 t) (f_m_lookBack t m)) 16 t 1)) := (if_neg h1)
    exact G.st (congrArg (fun z : Int32 × CS => mW Y K z.2) hr9) (hE _ _ 9 dM_hang_41 rfl (congrArg Prod.fst hr9).symm)
  · skip
    refine G.iconst 2 F dM_hang_13 (by decide) ?_
    have hr9 : f_m_hang t m = (2, (f_m_lookBack t m)) := (if_pos h1)
    exact G.st (congrArg (fun z : Int32 × CS => mW Y K z.2) hr9) (hE _ _ 2 dM_hang_14 rfl (congrArg Prod.fst hr9).symm)

def f_m_scang (t : Nat) (m : CS) : Int32 × CS := (if m 20 1 = 1 then ((f_m_sweep t (up2 m 20 0 0)).1, (f_m_sweep t (up2 m 20 0 0)).2) else (0, (up2 m 20 0 2)))
theorem i_m_scang (t : Nat) (ht : t < 4) (m : CS) (hI : InvM m) : InvM (f_m_scang t m).2 := by
  unfold f_m_scang
  exact (ite_m2 (fun h1 => (i_m_sweep t ht (up2 m 20 0 0) (InvM.upo hI rfl))) (fun h1 => (InvM.upo hI rfl)))
set_option maxRecDepth 100000 in
set_option maxHeartbeats 4000000 in
theorem k_m_scang (l : Launch) (D : va_G) (K : Nat → ClassId) (base : Nat) (Y : Nat → Nat) (t : Nat) (ht : t < 4) (m : CS) (hI : InvM m) : CtI l D K base yM_scan cM_scan 2 .int (rmD 2) [.ref (Y 0), .int (nI t)] (mW Y K m) (f_m_scang t m).1 (mW Y K (f_m_scang t m).2) := by
  refine CtI.enter (by decide) (Nat.le_of_ble_eq_true rfl) ?_
  intro κ A Q F hE
  show G κ l (rmD 2) A Q D 2 0 0 (mW Y K m) 0 [(0, .ref (Y 0)), (1, .int (nI t))] []
  refine G.aload_n 0 F dM_scan_0 rfl rfl ?_
  refine G.iload_n 1 F dM_scan_1 rfl rfl ?_
  refine G.callsi F (k_m_isThread l D K base Y (nI t) m hI) ckM_78 ⟨rfl, rfl⟩ ⟨by decide, by decide⟩ ⟨Nat.zero_le _, Nat.zero_le _⟩ rfl rfl (Nat.le_of_ble_eq_true rfl) dM_scan_2 ?_
  refine G.if_ne 12 F dM_scan_5 rfl (fun _ => ?_) (fun h9 => absurd h9 (isT ht m))
  refine G.aload_n 0 F dM_scan_12 rfl rfl ?_
  refine G.gM 1 F (by decide) flM_71 rfl dM_scan_13 ?_
  refine G.iconst 1 F dM_scan_16 (by decide) ?_
  refine G.icmp_eq 24 F dM_scan_17 rfl (fun h1 => ?_) (fun h1 => ?_)
  · skip
    refine G.iconst 0 F dM_scan_24 (by decide) ?_
    refine G.pM 0 F (by decide) flM_75 dM_scan_25 ?_
    refine G.aload_n 0 F dM_scan_28 rfl rfl ?_
    refine G.gM 0 F (by decide) flM_75 rfl dM_scan_29 ?_
    refine G.tope (y := 0) (up2_eq _ _ _ _) ?_
    refine G.if_le 39 F dM_scan_32 rfl (fun _ => ?_) (fun h9 => absurd (by decide) h9)
    refine G.aload_n 0 F dM_scan_39 rfl rfl ?_
    refine G.iload_n 1 F dM_scan_40 rfl rfl ?_
    refine G.calli F (k_m_sweep l D K base Y t ht (up2 m 20 0 0) (InvM.upo hI rfl)) ckM_88 mW_m rfl rfl ⟨rfl, rfl⟩ ⟨by decide, by decide⟩ ⟨Nat.zero_le _, Nat.zero_le _⟩ rfl rfl (Nat.le_of_ble_eq_true rfl) dM_scan_41 ?_
    have hr9 : f_m_scang t m = ((f_m_sweep t (up2 m 20 0 0)).1, (f_m_sweep t (up2 m 20 0 0)).2) := (if_pos h1)
    exact G.st (congrArg (fun z : Int32 × CS => mW Y K z.2) hr9) (hE _ _ ((f_m_sweep t (up2 m 20 0 0)).1) dM_scan_44 rfl (congrArg Prod.fst hr9).symm)
  · skip
    refine G.iconst 2 F dM_scan_20 (by decide) ?_
    refine G.goto 25 F dM_scan_21 rfl ?_
    refine G.pM 0 F (by decide) flM_75 dM_scan_25 ?_
    refine G.aload_n 0 F dM_scan_28 rfl rfl ?_
    refine G.gM 0 F (by decide) flM_75 rfl dM_scan_29 ?_
    refine G.tope (y := 2) (up2_eq _ _ _ _) ?_
    refine G.if_le 39 F dM_scan_32 rfl (fun h9 => absurd h9 (by decide)) (fun _ => ?_)
    refine G.iconst 0 F dM_scan_35 (by decide) ?_
    refine G.goto 44 F dM_scan_36 rfl ?_
    have hr9 : f_m_scang t m = (0, (up2 m 20 0 2)) := (if_neg h1)
    exact G.st (congrArg (fun z : Int32 × CS => mW Y K z.2) hr9) (hE _ _ 0 dM_scan_44 rfl (congrArg Prod.fst hr9).symm)

def f_m_scanb (v : Int32) (m : CS) : Int32 × CS := (0, (up2 m 20 0 1))
theorem i_m_scanb (v : Int32) (m : CS) (hI : InvM m) (hv : f_m_isThread v m = 0) : InvM (f_m_scanb v m).2 := by
  unfold f_m_scanb
  exact (InvM.upo hI rfl)
set_option maxRecDepth 100000 in
set_option maxHeartbeats 4000000 in
theorem k_m_scanb (l : Launch) (D : va_G) (K : Nat → ClassId) (base : Nat) (Y : Nat → Nat) (v : Int32) (m : CS) (hI : InvM m) (hv : f_m_isThread v m = 0) : CtI l D K base yM_scan cM_scan 2 .int (rmD 2) [.ref (Y 0), .int v] (mW Y K m) (f_m_scanb v m).1 (mW Y K (f_m_scanb v m).2) := by
  refine CtI.enter (by decide) (Nat.le_of_ble_eq_true rfl) ?_
  intro κ A Q F hE
  show G κ l (rmD 2) A Q D 2 0 0 (mW Y K m) 0 [(0, .ref (Y 0)), (1, .int v)] []
  refine G.aload_n 0 F dM_scan_0 rfl rfl ?_
  refine G.iload_n 1 F dM_scan_1 rfl rfl ?_
  refine G.callsi F (k_m_isThread l D K base Y v m hI) ckM_78 ⟨rfl, rfl⟩ ⟨by decide, by decide⟩ ⟨Nat.zero_le _, Nat.zero_le _⟩ rfl rfl (Nat.le_of_ble_eq_true rfl) dM_scan_2 ?_
  refine G.if_ne 12 F dM_scan_5 rfl (fun h9 => absurd hv h9) (fun _ => ?_)
  refine G.iconst 1 F dM_scan_8 (by decide) ?_
  refine G.goto 25 F dM_scan_9 rfl ?_
  refine G.pM 0 F (by decide) flM_75 dM_scan_25 ?_
  refine G.aload_n 0 F dM_scan_28 rfl rfl ?_
  refine G.gM 0 F (by decide) flM_75 rfl dM_scan_29 ?_
  refine G.tope (y := 1) (up2_eq _ _ _ _) ?_
  refine G.if_le 39 F dM_scan_32 rfl (fun h9 => absurd h9 (by decide)) (fun _ => ?_)
  refine G.iconst 0 F dM_scan_35 (by decide) ?_
  refine G.goto 44 F dM_scan_36 rfl ?_
  have hr9 : f_m_scanb v m = (0, (up2 m 20 0 1)) := rfl
  exact G.st (congrArg (fun z : Int32 × CS => mW Y K z.2) hr9) (hE _ _ 0 dM_scan_44 rfl (congrArg Prod.fst hr9).symm)

def f_m_cut (t : Nat) (m : CS) : Int32 × CS := (if f_m_linked t (f_m_lookBack t m) = 0 then (2, (f_m_lookBack t m)) else ((f_m_come t ((f_m_retire t ((f_m_link ((f_m_lookBack t m) 9 t) ((f_m_lookBack t m) 13 t) (f_m_lookBack t m)) 11 t) (f_m_link ((f_m_lookBack t m) 9 t) ((f_m_lookBack t m) 13 t) (f_m_lookBack t m))) 13 t) (f_m_retire t ((f_m_link ((f_m_lookBack t m) 9 t) ((f_m_lookBack t m) 13 t) (f_m_lookBack t m)) 11 t) (f_m_link ((f_m_lookBack t m) 9 t) ((f_m_lookBack t m) 13 t) (f_m_lookBack t m)))).1, (f_m_come t ((f_m_retire t ((f_m_link ((f_m_lookBack t m) 9 t) ((f_m_lookBack t m) 13 t) (f_m_lookBack t m)) 11 t) (f_m_link ((f_m_lookBack t m) 9 t) ((f_m_lookBack t m) 13 t) (f_m_lookBack t m))) 13 t) (f_m_retire t ((f_m_link ((f_m_lookBack t m) 9 t) ((f_m_lookBack t m) 13 t) (f_m_lookBack t m)) 11 t) (f_m_link ((f_m_lookBack t m) 9 t) ((f_m_lookBack t m) 13 t) (f_m_lookBack t m)))).2))
theorem i_m_cut (t : Nat) (ht : t < 4) (m : CS) (hI : InvM m) : InvM (f_m_cut t m).2 := by
  unfold f_m_cut
  exact (ite_m2 (fun h1 => (i_m_lookBack t ht m hI)) (fun h1 => (i_m_come t ht ((f_m_retire t ((f_m_link ((f_m_lookBack t m) 9 t) ((f_m_lookBack t m) 13 t) (f_m_lookBack t m)) 11 t) (f_m_link ((f_m_lookBack t m) 9 t) ((f_m_lookBack t m) 13 t) (f_m_lookBack t m))) 13 t) ((i_m_retire t ht ((f_m_link ((f_m_lookBack t m) 9 t) ((f_m_lookBack t m) 13 t) (f_m_lookBack t m)) 11 t) ((i_m_link ((f_m_lookBack t m) 9 t) ((i_m_lookBack t ht m hI) 9 _ rfl) ((f_m_lookBack t m) 13 t) ((i_m_lookBack t ht m hI) 13 _ rfl) (f_m_lookBack t m) (i_m_lookBack t ht m hI)) 11 _ rfl) (f_m_link ((f_m_lookBack t m) 9 t) ((f_m_lookBack t m) 13 t) (f_m_lookBack t m)) (i_m_link ((f_m_lookBack t m) 9 t) ((i_m_lookBack t ht m hI) 9 _ rfl) ((f_m_lookBack t m) 13 t) ((i_m_lookBack t ht m hI) 13 _ rfl) (f_m_lookBack t m) (i_m_lookBack t ht m hI))) 13 _ rfl) (f_m_retire t ((f_m_link ((f_m_lookBack t m) 9 t) ((f_m_lookBack t m) 13 t) (f_m_lookBack t m)) 11 t) (f_m_link ((f_m_lookBack t m) 9 t) ((f_m_lookBack t m) 13 t) (f_m_lookBack t m))) (i_m_retire t ht ((f_m_link ((f_m_lookBack t m) 9 t) ((f_m_lookBack t m) 13 t) (f_m_lookBack t m)) 11 t) ((i_m_link ((f_m_lookBack t m) 9 t) ((i_m_lookBack t ht m hI) 9 _ rfl) ((f_m_lookBack t m) 13 t) ((i_m_lookBack t ht m hI) 13 _ rfl) (f_m_lookBack t m) (i_m_lookBack t ht m hI)) 11 _ rfl) (f_m_link ((f_m_lookBack t m) 9 t) ((f_m_lookBack t m) 13 t) (f_m_lookBack t m)) (i_m_link ((f_m_lookBack t m) 9 t) ((i_m_lookBack t ht m hI) 9 _ rfl) ((f_m_lookBack t m) 13 t) ((i_m_lookBack t ht m hI) 13 _ rfl) (f_m_lookBack t m) (i_m_lookBack t ht m hI))))))
set_option maxRecDepth 100000 in
set_option maxHeartbeats 4000000 in
theorem k_m_cut (l : Launch) (D : va_G) (K : Nat → ClassId) (base : Nat) (Y : Nat → Nat) (t : Nat) (ht : t < 4) (m : CS) (hI : InvM m) : CtI l D K base yM_cut cM_cut 2 .int (rmD 3) [.ref (Y 0), .int (nI t)] (mW Y K m) (f_m_cut t m).1 (mW Y K (f_m_cut t m).2) := by
  refine CtI.enter (by decide) (Nat.le_of_ble_eq_true rfl) ?_
  intro κ A Q F hE
  show G κ l (rmD 3) A Q D 2 0 0 (mW Y K m) 0 [(0, .ref (Y 0)), (1, .int (nI t))] []
  refine G.aload_n 0 F dM_cut_0 rfl rfl ?_
  refine G.iload_n 1 F dM_cut_1 rfl rfl ?_
  refine G.callv F (k_m_lookBack l D K base Y t ht m hI) ckM_103 mW_m rfl rfl ⟨rfl, rfl⟩ ⟨by decide, by decide⟩ ⟨Nat.zero_le _, Nat.zero_le _⟩ rfl rfl (Nat.le_of_ble_eq_true rfl) dM_cut_2 ?_
  refine G.aload_n 0 F dM_cut_5 rfl rfl ?_
  refine G.iload_n 1 F dM_cut_6 rfl rfl ?_
  refine G.calli F (k_m_linked l D K base Y t ht (f_m_lookBack t m) (i_m_lookBack t ht m hI)) ckM_107 mW_m rfl rfl ⟨rfl, rfl⟩ ⟨by decide, by decide⟩ ⟨Nat.zero_le _, Nat.zero_le _⟩ rfl rfl (Nat.le_of_ble_eq_true rfl) dM_cut_7 ?_
  refine G.if_ne 15 F dM_cut_10 rfl (fun h1 => ?_) (fun h1 => ?_)
  · skip
    refine G.aload_n 0 F dM_cut_15 rfl rfl ?_
    refine G.aload_n 0 F dM_cut_16 rfl rfl ?_
    refine G.gM 13 F (by decide) flM_38 rfl dM_cut_17 ?_
    refine G.iload_n 1 F dM_cut_20 rfl rfl ?_
    refine G.ldMn 9 F (by decide) rfl (k := t) rfl ht dM_cut_21 ?_
    refine G.aload_n 0 F dM_cut_22 rfl rfl ?_
    refine G.gM 17 F (by decide) flM_50 rfl dM_cut_23 ?_
    refine G.iload_n 1 F dM_cut_26 rfl rfl ?_
    refine G.ldMn 13 F (by decide) rfl (k := t) rfl ht dM_cut_27 ?_
    refine G.iconst 0 F dM_cut_28 (by decide) ?_
    refine G.callv F (k_m_link l D K base Y ((f_m_lookBack t m) 9 t) ((i_m_lookBack t ht m hI) 9 _ rfl) ((f_m_lookBack t m) 13 t) ((i_m_lookBack t ht m hI) 13 _ rfl) (f_m_lookBack t m) (i_m_lookBack t ht m hI)) ckM_110 mW_m rfl rfl ⟨rfl, rfl⟩ ⟨by decide, by decide⟩ ⟨Nat.zero_le _, Nat.zero_le _⟩ rfl rfl (Nat.le_of_ble_eq_true rfl) dM_cut_29 ?_
    refine G.aload_n 0 F dM_cut_32 rfl rfl ?_
    refine G.iload_n 1 F dM_cut_33 rfl rfl ?_
    refine G.aload_n 0 F dM_cut_34 rfl rfl ?_
    refine G.gM 15 F (by decide) flM_44 rfl dM_cut_35 ?_
    refine G.iload_n 1 F dM_cut_38 rfl rfl ?_
    refine G.ldMn 11 F (by decide) rfl (k := t) rfl ht dM_cut_39 ?_
    refine G.callv F (k_m_retire l D K base Y t ht ((f_m_link ((f_m_lookBack t m) 9 t) ((f_m_lookBack t m) 13 t) (f_m_lookBack t m)) 11 t) ((i_m_link ((f_m_lookBack t m) 9 t) ((i_m_lookBack t ht m hI) 9 _ rfl) ((f_m_lookBack t m) 13 t) ((i_m_lookBack t ht m hI) 13 _ rfl) (f_m_lookBack t m) (i_m_lookBack t ht m hI)) 11 _ rfl) (f_m_link ((f_m_lookBack t m) 9 t) ((f_m_lookBack t m) 13 t) (f_m_lookBack t m)) (i_m_link ((f_m_lookBack t m) 9 t) ((i_m_lookBack t ht m hI) 9 _ rfl) ((f_m_lookBack t m) 13 t) ((i_m_lookBack t ht m hI) 13 _ rfl) (f_m_lookBack t m) (i_m_lookBack t ht m hI))) ckM_114 mW_m rfl rfl ⟨rfl, rfl⟩ ⟨by decide, by decide⟩ ⟨Nat.zero_le _, Nat.zero_le _⟩ rfl rfl (Nat.le_of_ble_eq_true rfl) dM_cut_40 ?_
    refine G.aload_n 0 F dM_cut_43 rfl rfl ?_
    refine G.iload_n 1 F dM_cut_44 rfl rfl ?_
    refine G.aload_n 0 F dM_cut_45 rfl rfl ?_
    refine G.gM 17 F (by decide) flM_50 rfl dM_cut_46 ?_
    refine G.iload_n 1 F dM_cut_49 rfl rfl ?_
    refine G.ldMn 13 F (by decide) rfl (k := t) rfl ht dM_cut_50 ?_
    refine G.calli F (k_m_come l D K base Y t ht ((f_m_retire t ((f_m_link ((f_m_lookBack t m) 9 t) ((f_m_lookBack t m) 13 t) (f_m_lookBack t m)) 11 t) (f_m_link ((f_m_lookBack t m) 9 t) ((f_m_lookBack t m) 13 t) (f_m_lookBack t m))) 13 t) ((i_m_retire t ht ((f_m_link ((f_m_lookBack t m) 9 t) ((f_m_lookBack t m) 13 t) (f_m_lookBack t m)) 11 t) ((i_m_link ((f_m_lookBack t m) 9 t) ((i_m_lookBack t ht m hI) 9 _ rfl) ((f_m_lookBack t m) 13 t) ((i_m_lookBack t ht m hI) 13 _ rfl) (f_m_lookBack t m) (i_m_lookBack t ht m hI)) 11 _ rfl) (f_m_link ((f_m_lookBack t m) 9 t) ((f_m_lookBack t m) 13 t) (f_m_lookBack t m)) (i_m_link ((f_m_lookBack t m) 9 t) ((i_m_lookBack t ht m hI) 9 _ rfl) ((f_m_lookBack t m) 13 t) ((i_m_lookBack t ht m hI) 13 _ rfl) (f_m_lookBack t m) (i_m_lookBack t ht m hI))) 13 _ rfl) (f_m_retire t ((f_m_link ((f_m_lookBack t m) 9 t) ((f_m_lookBack t m) 13 t) (f_m_lookBack t m)) 11 t) (f_m_link ((f_m_lookBack t m) 9 t) ((f_m_lookBack t m) 13 t) (f_m_lookBack t m))) (i_m_retire t ht ((f_m_link ((f_m_lookBack t m) 9 t) ((f_m_lookBack t m) 13 t) (f_m_lookBack t m)) 11 t) ((i_m_link ((f_m_lookBack t m) 9 t) ((i_m_lookBack t ht m hI) 9 _ rfl) ((f_m_lookBack t m) 13 t) ((i_m_lookBack t ht m hI) 13 _ rfl) (f_m_lookBack t m) (i_m_lookBack t ht m hI)) 11 _ rfl) (f_m_link ((f_m_lookBack t m) 9 t) ((f_m_lookBack t m) 13 t) (f_m_lookBack t m)) (i_m_link ((f_m_lookBack t m) 9 t) ((i_m_lookBack t ht m hI) 9 _ rfl) ((f_m_lookBack t m) 13 t) ((i_m_lookBack t ht m hI) 13 _ rfl) (f_m_lookBack t m) (i_m_lookBack t ht m hI)))) ckM_99 mW_m rfl rfl ⟨rfl, rfl⟩ ⟨by decide, by decide⟩ ⟨Nat.zero_le _, Nat.zero_le _⟩ rfl rfl (Nat.le_of_ble_eq_true rfl) dM_cut_51 ?_
    have hr9 : f_m_cut t m = ((f_m_come t ((f_m_retire t ((f_m_link ((f_m_lookBack t m) 9 t) ((f_m_lookBack t m) 13 t) (f_m_lookBack t m)) 11 t) (f_m_link ((f_m_lookBack t m) 9 t) ((f_m_lookBack t m) 13 t) (f_m_lookBack t m))) 13 t) (f_m_retire t ((f_m_link ((f_m_lookBack t m) 9 t) ((f_m_lookBack t m) 13 t) (f_m_lookBack t m)) 11 t) (f_m_link ((f_m_lookBack t m) 9 t) ((f_m_lookBack t m) 13 t) (f_m_lookBack t m)))).1, (f_m_come t ((f_m_retire t ((f_m_link ((f_m_lookBack t m) 9 t) ((f_m_lookBack t m) 13 t) (f_m_lookBack t m)) 11 t) (f_m_link ((f_m_lookBack t m) 9 t) ((f_m_lookBack t m) 13 t) (f_m_lookBack t m))) 13 t) (f_m_retire t ((f_m_link ((f_m_lookBack t m) 9 t) ((f_m_lookBack t m) 13 t) (f_m_lookBack t m)) 11 t) (f_m_link ((f_m_lookBack t m) 9 t) ((f_m_lookBack t m) 13 t) (f_m_lookBack t m)))).2) := (if_neg h1)
    exact G.st (congrArg (fun z : Int32 × CS => mW Y K z.2) hr9) (hE _ _ ((f_m_come t ((f_m_retire t ((f_m_link ((f_m_lookBack t m) 9 t) ((f_m_lookBack t m) 13 t) (f_m_lookBack t m)) 11 t) (f_m_link ((f_m_lookBack t m) 9 t) ((f_m_lookBack t m) 13 t) (f_m_lookBack t m))) 13 t) (f_m_retire t ((f_m_link ((f_m_lookBack t m) 9 t) ((f_m_lookBack t m) 13 t) (f_m_lookBack t m)) 11 t) (f_m_link ((f_m_lookBack t m) 9 t) ((f_m_lookBack t m) 13 t) (f_m_lookBack t m)))).1) dM_cut_54 rfl (congrArg Prod.fst hr9).symm)
  · skip
    refine G.iconst 2 F dM_cut_13 (by decide) ?_
    have hr9 : f_m_cut t m = (2, (f_m_lookBack t m)) := (if_pos h1)
    exact G.st (congrArg (fun z : Int32 × CS => mW Y K z.2) hr9) (hE _ _ 2 dM_cut_14 rfl (congrArg Prod.fst hr9).symm)

def f_m_unhang (t : Nat) (m : CS) : Int32 × CS := (if f_m_linked t (up2 (f_m_lookBack t m) 16 t 1) = 0 then (9, (up2 (f_m_lookBack t m) 16 t 1)) else (9, (f_m_retire t ((f_m_link ((f_m_lookBack t m) 9 t) ((f_m_lookBack t m) 13 t) (up2 (f_m_lookBack t m) 16 t 1)) 11 t) (f_m_link ((f_m_lookBack t m) 9 t) ((f_m_lookBack t m) 13 t) (up2 (f_m_lookBack t m) 16 t 1)))))
theorem i_m_unhang (t : Nat) (ht : t < 4) (m : CS) (hI : InvM m) : InvM (f_m_unhang t m).2 := by
  unfold f_m_unhang
  exact (ite_m2 (fun h1 => (InvM.upo (i_m_lookBack t ht m hI) rfl)) (fun h1 => (i_m_retire t ht ((f_m_link ((f_m_lookBack t m) 9 t) ((f_m_lookBack t m) 13 t) (up2 (f_m_lookBack t m) 16 t 1)) 11 t) ((i_m_link ((f_m_lookBack t m) 9 t) ((i_m_lookBack t ht m hI) 9 _ rfl) ((f_m_lookBack t m) 13 t) ((i_m_lookBack t ht m hI) 13 _ rfl) (up2 (f_m_lookBack t m) 16 t 1) (InvM.upo (i_m_lookBack t ht m hI) rfl)) 11 _ rfl) (f_m_link ((f_m_lookBack t m) 9 t) ((f_m_lookBack t m) 13 t) (up2 (f_m_lookBack t m) 16 t 1)) (i_m_link ((f_m_lookBack t m) 9 t) ((i_m_lookBack t ht m hI) 9 _ rfl) ((f_m_lookBack t m) 13 t) ((i_m_lookBack t ht m hI) 13 _ rfl) (up2 (f_m_lookBack t m) 16 t 1) (InvM.upo (i_m_lookBack t ht m hI) rfl)))))
set_option maxRecDepth 100000 in
set_option maxHeartbeats 4000000 in
theorem k_m_unhang (l : Launch) (D : va_G) (K : Nat → ClassId) (base : Nat) (Y : Nat → Nat) (t : Nat) (ht : t < 4) (m : CS) (hI : InvM m) : CtI l D K base yM_unhang cM_unhang 2 .int (rmD 3) [.ref (Y 0), .int (nI t)] (mW Y K m) (f_m_unhang t m).1 (mW Y K (f_m_unhang t m).2) := by
  refine CtI.enter (by decide) (Nat.le_of_ble_eq_true rfl) ?_
  intro κ A Q F hE
  show G κ l (rmD 3) A Q D 2 0 0 (mW Y K m) 0 [(0, .ref (Y 0)), (1, .int (nI t))] []
  refine G.aload_n 0 F dM_unhang_0 rfl rfl ?_
  refine G.iload_n 1 F dM_unhang_1 rfl rfl ?_
  refine G.callv F (k_m_lookBack l D K base Y t ht m hI) ckM_103 mW_m rfl rfl ⟨rfl, rfl⟩ ⟨by decide, by decide⟩ ⟨Nat.zero_le _, Nat.zero_le _⟩ rfl rfl (Nat.le_of_ble_eq_true rfl) dM_unhang_2 ?_
  refine G.aload_n 0 F dM_unhang_5 rfl rfl ?_
  refine G.gM 20 F (by decide) flM_59 rfl dM_unhang_6 ?_
  refine G.iload_n 1 F dM_unhang_9 rfl rfl ?_
  refine G.iconst 1 F dM_unhang_10 (by decide) ?_
  refine G.stMn 16 F (by decide) rfl (k := t) rfl ht dM_unhang_11 ?_
  refine G.aload_n 0 F dM_unhang_12 rfl rfl ?_
  refine G.iload_n 1 F dM_unhang_13 rfl rfl ?_
  refine G.calli F (k_m_linked l D K base Y t ht (up2 (f_m_lookBack t m) 16 t 1) (InvM.upo (i_m_lookBack t ht m hI) rfl)) ckM_107 mW_m rfl rfl ⟨rfl, rfl⟩ ⟨by decide, by decide⟩ ⟨Nat.zero_le _, Nat.zero_le _⟩ rfl rfl (Nat.le_of_ble_eq_true rfl) dM_unhang_14 ?_
  refine G.if_eq 48 F dM_unhang_17 rfl (fun h1 => ?_) (fun h1 => ?_)
  · skip
    refine G.bipush 9 F dM_unhang_48 (by decide) ?_
    have hr9 : f_m_unhang t m = (9, (up2 (f_m_lookBack t m) 16 t 1)) := (if_pos h1)
    exact G.st (congrArg (fun z : Int32 × CS => mW Y K z.2) hr9) (hE _ _ 9 dM_unhang_50 rfl (congrArg Prod.fst hr9).symm)
  · skip
    refine G.aload_n 0 F dM_unhang_20 rfl rfl ?_
    refine G.aload_n 0 F dM_unhang_21 rfl rfl ?_
    refine G.gM 13 F (by decide) flM_38 rfl dM_unhang_22 ?_
    refine G.iload_n 1 F dM_unhang_25 rfl rfl ?_
    refine G.ldMn 9 F (by decide) rfl (k := t) rfl ht dM_unhang_26 ?_
    refine G.tope (y := (f_m_lookBack t m) 9 t) (up2_f _ _ _ _ (by decide)) ?_
    refine G.aload_n 0 F dM_unhang_27 rfl rfl ?_
    refine G.gM 17 F (by decide) flM_50 rfl dM_unhang_28 ?_
    refine G.iload_n 1 F dM_unhang_31 rfl rfl ?_
    refine G.ldMn 13 F (by decide) rfl (k := t) rfl ht dM_unhang_32 ?_
    refine G.tope (y := (f_m_lookBack t m) 13 t) (up2_f _ _ _ _ (by decide)) ?_
    refine G.iconst 0 F dM_unhang_33 (by decide) ?_
    refine G.callv F (k_m_link l D K base Y ((f_m_lookBack t m) 9 t) ((i_m_lookBack t ht m hI) 9 _ rfl) ((f_m_lookBack t m) 13 t) ((i_m_lookBack t ht m hI) 13 _ rfl) (up2 (f_m_lookBack t m) 16 t 1) (InvM.upo (i_m_lookBack t ht m hI) rfl)) ckM_110 mW_m rfl rfl ⟨rfl, rfl⟩ ⟨by decide, by decide⟩ ⟨Nat.zero_le _, Nat.zero_le _⟩ rfl rfl (Nat.le_of_ble_eq_true rfl) dM_unhang_34 ?_
    refine G.aload_n 0 F dM_unhang_37 rfl rfl ?_
    refine G.iload_n 1 F dM_unhang_38 rfl rfl ?_
    refine G.aload_n 0 F dM_unhang_39 rfl rfl ?_
    refine G.gM 15 F (by decide) flM_44 rfl dM_unhang_40 ?_
    refine G.iload_n 1 F dM_unhang_43 rfl rfl ?_
    refine G.ldMn 11 F (by decide) rfl (k := t) rfl ht dM_unhang_44 ?_
    refine G.callv F (k_m_retire l D K base Y t ht ((f_m_link ((f_m_lookBack t m) 9 t) ((f_m_lookBack t m) 13 t) (up2 (f_m_lookBack t m) 16 t 1)) 11 t) ((i_m_link ((f_m_lookBack t m) 9 t) ((i_m_lookBack t ht m hI) 9 _ rfl) ((f_m_lookBack t m) 13 t) ((i_m_lookBack t ht m hI) 13 _ rfl) (up2 (f_m_lookBack t m) 16 t 1) (InvM.upo (i_m_lookBack t ht m hI) rfl)) 11 _ rfl) (f_m_link ((f_m_lookBack t m) 9 t) ((f_m_lookBack t m) 13 t) (up2 (f_m_lookBack t m) 16 t 1)) (i_m_link ((f_m_lookBack t m) 9 t) ((i_m_lookBack t ht m hI) 9 _ rfl) ((f_m_lookBack t m) 13 t) ((i_m_lookBack t ht m hI) 13 _ rfl) (up2 (f_m_lookBack t m) 16 t 1) (InvM.upo (i_m_lookBack t ht m hI) rfl))) ckM_114 mW_m rfl rfl ⟨rfl, rfl⟩ ⟨by decide, by decide⟩ ⟨Nat.zero_le _, Nat.zero_le _⟩ rfl rfl (Nat.le_of_ble_eq_true rfl) dM_unhang_45 ?_
    refine G.bipush 9 F dM_unhang_48 (by decide) ?_
    have hr9 : f_m_unhang t m = (9, (f_m_retire t ((f_m_link ((f_m_lookBack t m) 9 t) ((f_m_lookBack t m) 13 t) (up2 (f_m_lookBack t m) 16 t 1)) 11 t) (f_m_link ((f_m_lookBack t m) 9 t) ((f_m_lookBack t m) 13 t) (up2 (f_m_lookBack t m) 16 t 1)))) := (if_neg h1)
    exact G.st (congrArg (fun z : Int32 × CS => mW Y K z.2) hr9) (hE _ _ 9 dM_unhang_50 rfl (congrArg Prod.fst hr9).symm)

def f_m_advanceThread (t : Nat) (m : CS) : CS := (if m 6 t = 1 then (if m 20 1 = 0 then (up2 (up2 m 18 t (m 20 2)) 6 t 2) else (up2 (up2 m 18 t (-1)) 6 t 2)) else (if m 6 t = 2 then (up2 (f_m_head t m).2 6 t ((f_m_head t m).1)) else (if m 6 t = 3 then (up2 (f_m_name t m).2 6 t ((f_m_name t m).1)) else (if m 6 t = 4 then (up2 (f_m_check t m).2 6 t ((f_m_check t m).1)) else (if m 6 t = 5 then (up2 (f_m_read t m).2 6 t ((f_m_read t m).1)) else (if m 6 t = 6 then (up2 (f_m_cut t m).2 6 t ((f_m_cut t m).1)) else (if m 6 t = 7 then (up2 (f_m_act t m).2 6 t ((f_m_act t m).1)) else (if m 6 t = 8 then (up2 (f_m_hang t m).2 6 t ((f_m_hang t m).1)) else (if m 6 t = 9 then (up2 (f_m_end t m).2 6 t ((f_m_end t m).1)) else (up2 (f_m_unhang t m).2 6 t ((f_m_unhang t m).1)))))))))))
theorem i_m_advanceThread (t : Nat) (ht : t < 4) (m : CS) (hI : InvM m) : InvM (f_m_advanceThread t m) := by
  unfold f_m_advanceThread
  exact (ite_m (fun h1 => (ite_m (fun h2 => (InvM.upo (InvM.upo hI rfl) rfl)) (fun h2 => (InvM.upo (InvM.upo hI rfl) rfl)))) (fun h1 => (ite_m (fun h3 => (InvM.upo (i_m_head t ht m hI) rfl)) (fun h3 => (ite_m (fun h4 => (InvM.upo (i_m_name t ht m hI) rfl)) (fun h4 => (ite_m (fun h5 => (InvM.upo (i_m_check t ht m hI) rfl)) (fun h5 => (ite_m (fun h6 => (InvM.upo (i_m_read t ht m hI) rfl)) (fun h6 => (ite_m (fun h7 => (InvM.upo (i_m_cut t ht m hI) rfl)) (fun h7 => (ite_m (fun h8 => (InvM.upo (i_m_act t ht m hI) rfl)) (fun h8 => (ite_m (fun h9 => (InvM.upo (i_m_hang t ht m hI) rfl)) (fun h9 => (ite_m (fun h10 => (InvM.upo (i_m_end t ht m hI) rfl)) (fun h10 => (InvM.upo (i_m_unhang t ht m hI) rfl)))))))))))))))))))
set_option maxRecDepth 100000 in
set_option maxHeartbeats 4000000 in
theorem k_m_advanceThread (l : Launch) (D : va_G) (K : Nat → ClassId) (base : Nat) (Y : Nat → Nat) (t : Nat) (ht : t < 4) (m : CS) (hI : InvM m) : CtV l D K base yM_advanceThread cM_advanceThread 3 (rmD 4) [.ref (Y 0), .int (nI t)] (mW Y K m) (mW Y K (f_m_advanceThread t m)) := by
  refine CtV.enter (by decide) (Nat.le_of_ble_eq_true rfl) ?_
  intro κ A Q F hE
  show G κ l (rmD 4) A Q D 3 0 0 (mW Y K m) 0 [(0, .ref (Y 0)), (1, .int (nI t))] []
  refine G.aload_n 0 F dM_advanceThread_0 rfl rfl ?_
  refine G.gM 10 F (by decide) flM_29 rfl dM_advanceThread_1 ?_
  refine G.iload_n 1 F dM_advanceThread_4 rfl rfl ?_
  refine G.ldMn 6 F (by decide) rfl (k := t) rfl ht dM_advanceThread_5 ?_
  by_cases h1 : m 6 t = 1
  · skip
    refine G.tabIn 56 (off := 50) F dM_advanceThread_6 (sw_lo h1 (by decide)) (sw_hi h1 (by decide)) (sw_at h1 rfl) rfl ?_
    refine G.aload_n 0 F dM_advanceThread_56 rfl rfl ?_
    refine G.gM 22 F (by decide) flM_65 rfl dM_advanceThread_57 ?_
    refine G.iload_n 1 F dM_advanceThread_60 rfl rfl ?_
    refine G.aload_n 0 F dM_advanceThread_61 rfl rfl ?_
    refine G.gM 1 F (by decide) flM_71 rfl dM_advanceThread_62 ?_
    refine G.if_ne 75 F dM_advanceThread_65 rfl (fun h2 => ?_) (fun h2 => ?_)
    · skip
      refine G.iconst (-1) F dM_advanceThread_75 (by decide) ?_
      refine G.stMn 18 F (by decide) rfl (k := t) rfl ht dM_advanceThread_76 ?_
      refine G.iconst 2 F dM_advanceThread_77 (by decide) ?_
      refine G.istore_nN F dM_advanceThread_78 rfl (by decide) rfl ?_
      refine G.goto 160 F dM_advanceThread_79 rfl ?_
      refine G.aload_n 1 F dM_advanceThread_160 rfl rfl ?_
      refine G.gM 10 F (by decide) flM_29 rfl dM_advanceThread_161 ?_
      refine G.iload_n 2 F dM_advanceThread_164 rfl rfl ?_
      refine G.iload_n 0 F dM_advanceThread_165 rfl rfl ?_
      refine G.stMn 6 F (by decide) rfl (k := t) rfl ht dM_advanceThread_166 ?_
      exact G.st (congrArg (mW Y K) ((if_pos h1).trans (if_neg h2))) (hE _ _ dM_advanceThread_167)
    · skip
      refine G.aload_n 0 F dM_advanceThread_68 rfl rfl ?_
      refine G.gM 2 F (by decide) flM_85 rfl dM_advanceThread_69 ?_
      refine G.goto 76 F dM_advanceThread_72 rfl ?_
      refine G.stMn 18 F (by decide) rfl (k := t) rfl ht dM_advanceThread_76 ?_
      refine G.iconst 2 F dM_advanceThread_77 (by decide) ?_
      refine G.istore_nN F dM_advanceThread_78 rfl (by decide) rfl ?_
      refine G.goto 160 F dM_advanceThread_79 rfl ?_
      refine G.aload_n 1 F dM_advanceThread_160 rfl rfl ?_
      refine G.gM 10 F (by decide) flM_29 rfl dM_advanceThread_161 ?_
      refine G.iload_n 2 F dM_advanceThread_164 rfl rfl ?_
      refine G.iload_n 0 F dM_advanceThread_165 rfl rfl ?_
      refine G.stMn 6 F (by decide) rfl (k := t) rfl ht dM_advanceThread_166 ?_
      exact G.st (congrArg (mW Y K) ((if_pos h1).trans (if_pos h2))) (hE _ _ dM_advanceThread_167)
  by_cases h3 : m 6 t = 2
  · skip
    refine G.tabIn 82 (off := 76) F dM_advanceThread_6 (sw_lo h3 (by decide)) (sw_hi h3 (by decide)) (sw_at h3 rfl) rfl ?_
    refine G.aload_n 0 F dM_advanceThread_82 rfl rfl ?_
    refine G.iload_n 1 F dM_advanceThread_83 rfl rfl ?_
    refine G.calli F (k_m_head l D K base Y t ht m hI) ckM_123 mW_m rfl rfl ⟨rfl, rfl⟩ ⟨by decide, by decide⟩ ⟨Nat.zero_le _, Nat.zero_le _⟩ rfl rfl (Nat.le_of_ble_eq_true rfl) dM_advanceThread_84 ?_
    refine G.istore_nN F dM_advanceThread_87 rfl (by decide) rfl ?_
    refine G.goto 160 F dM_advanceThread_88 rfl ?_
    refine G.aload_n 1 F dM_advanceThread_160 rfl rfl ?_
    refine G.gM 10 F (by decide) flM_29 rfl dM_advanceThread_161 ?_
    refine G.iload_n 2 F dM_advanceThread_164 rfl rfl ?_
    refine G.iload_n 0 F dM_advanceThread_165 rfl rfl ?_
    refine G.stMn 6 F (by decide) rfl (k := t) rfl ht dM_advanceThread_166 ?_
    exact G.st (congrArg (mW Y K) ((if_neg h1).trans (if_pos h3))) (hE _ _ dM_advanceThread_167)
  by_cases h4 : m 6 t = 3
  · skip
    refine G.tabIn 91 (off := 85) F dM_advanceThread_6 (sw_lo h4 (by decide)) (sw_hi h4 (by decide)) (sw_at h4 rfl) rfl ?_
    refine G.aload_n 0 F dM_advanceThread_91 rfl rfl ?_
    refine G.iload_n 1 F dM_advanceThread_92 rfl rfl ?_
    refine G.calli F (k_m_name l D K base Y t ht m hI) ckM_126 mW_m rfl rfl ⟨rfl, rfl⟩ ⟨by decide, by decide⟩ ⟨Nat.zero_le _, Nat.zero_le _⟩ rfl rfl (Nat.le_of_ble_eq_true rfl) dM_advanceThread_93 ?_
    refine G.istore_nN F dM_advanceThread_96 rfl (by decide) rfl ?_
    refine G.goto 160 F dM_advanceThread_97 rfl ?_
    refine G.aload_n 1 F dM_advanceThread_160 rfl rfl ?_
    refine G.gM 10 F (by decide) flM_29 rfl dM_advanceThread_161 ?_
    refine G.iload_n 2 F dM_advanceThread_164 rfl rfl ?_
    refine G.iload_n 0 F dM_advanceThread_165 rfl rfl ?_
    refine G.stMn 6 F (by decide) rfl (k := t) rfl ht dM_advanceThread_166 ?_
    exact G.st (congrArg (mW Y K) ((if_neg h1).trans ((if_neg h3).trans (if_pos h4)))) (hE _ _ dM_advanceThread_167)
  by_cases h5 : m 6 t = 4
  · skip
    refine G.tabIn 100 (off := 94) F dM_advanceThread_6 (sw_lo h5 (by decide)) (sw_hi h5 (by decide)) (sw_at h5 rfl) rfl ?_
    refine G.aload_n 0 F dM_advanceThread_100 rfl rfl ?_
    refine G.iload_n 1 F dM_advanceThread_101 rfl rfl ?_
    refine G.calli F (k_m_check l D K base Y t ht m hI) ckM_129 mW_m rfl rfl ⟨rfl, rfl⟩ ⟨by decide, by decide⟩ ⟨Nat.zero_le _, Nat.zero_le _⟩ rfl rfl (Nat.le_of_ble_eq_true rfl) dM_advanceThread_102 ?_
    refine G.istore_nN F dM_advanceThread_105 rfl (by decide) rfl ?_
    refine G.goto 160 F dM_advanceThread_106 rfl ?_
    refine G.aload_n 1 F dM_advanceThread_160 rfl rfl ?_
    refine G.gM 10 F (by decide) flM_29 rfl dM_advanceThread_161 ?_
    refine G.iload_n 2 F dM_advanceThread_164 rfl rfl ?_
    refine G.iload_n 0 F dM_advanceThread_165 rfl rfl ?_
    refine G.stMn 6 F (by decide) rfl (k := t) rfl ht dM_advanceThread_166 ?_
    exact G.st (congrArg (mW Y K) ((if_neg h1).trans ((if_neg h3).trans ((if_neg h4).trans (if_pos h5))))) (hE _ _ dM_advanceThread_167)
  by_cases h6 : m 6 t = 5
  · skip
    refine G.tabIn 109 (off := 103) F dM_advanceThread_6 (sw_lo h6 (by decide)) (sw_hi h6 (by decide)) (sw_at h6 rfl) rfl ?_
    refine G.aload_n 0 F dM_advanceThread_109 rfl rfl ?_
    refine G.iload_n 1 F dM_advanceThread_110 rfl rfl ?_
    refine G.calli F (k_m_read l D K base Y t ht m hI) ckM_132 mW_m rfl rfl ⟨rfl, rfl⟩ ⟨by decide, by decide⟩ ⟨Nat.zero_le _, Nat.zero_le _⟩ rfl rfl (Nat.le_of_ble_eq_true rfl) dM_advanceThread_111 ?_
    refine G.istore_nN F dM_advanceThread_114 rfl (by decide) rfl ?_
    refine G.goto 160 F dM_advanceThread_115 rfl ?_
    refine G.aload_n 1 F dM_advanceThread_160 rfl rfl ?_
    refine G.gM 10 F (by decide) flM_29 rfl dM_advanceThread_161 ?_
    refine G.iload_n 2 F dM_advanceThread_164 rfl rfl ?_
    refine G.iload_n 0 F dM_advanceThread_165 rfl rfl ?_
    refine G.stMn 6 F (by decide) rfl (k := t) rfl ht dM_advanceThread_166 ?_
    exact G.st (congrArg (mW Y K) ((if_neg h1).trans ((if_neg h3).trans ((if_neg h4).trans ((if_neg h5).trans (if_pos h6)))))) (hE _ _ dM_advanceThread_167)
  by_cases h7 : m 6 t = 6
  · skip
    refine G.tabIn 118 (off := 112) F dM_advanceThread_6 (sw_lo h7 (by decide)) (sw_hi h7 (by decide)) (sw_at h7 rfl) rfl ?_
    refine G.aload_n 0 F dM_advanceThread_118 rfl rfl ?_
    refine G.iload_n 1 F dM_advanceThread_119 rfl rfl ?_
    refine G.calli F (k_m_cut l D K base Y t ht m hI) ckM_135 mW_m rfl rfl ⟨rfl, rfl⟩ ⟨by decide, by decide⟩ ⟨Nat.zero_le _, Nat.zero_le _⟩ rfl rfl (Nat.le_of_ble_eq_true rfl) dM_advanceThread_120 ?_
    refine G.istore_nN F dM_advanceThread_123 rfl (by decide) rfl ?_
    refine G.goto 160 F dM_advanceThread_124 rfl ?_
    refine G.aload_n 1 F dM_advanceThread_160 rfl rfl ?_
    refine G.gM 10 F (by decide) flM_29 rfl dM_advanceThread_161 ?_
    refine G.iload_n 2 F dM_advanceThread_164 rfl rfl ?_
    refine G.iload_n 0 F dM_advanceThread_165 rfl rfl ?_
    refine G.stMn 6 F (by decide) rfl (k := t) rfl ht dM_advanceThread_166 ?_
    exact G.st (congrArg (mW Y K) ((if_neg h1).trans ((if_neg h3).trans ((if_neg h4).trans ((if_neg h5).trans ((if_neg h6).trans (if_pos h7))))))) (hE _ _ dM_advanceThread_167)
  by_cases h8 : m 6 t = 7
  · skip
    refine G.tabIn 127 (off := 121) F dM_advanceThread_6 (sw_lo h8 (by decide)) (sw_hi h8 (by decide)) (sw_at h8 rfl) rfl ?_
    refine G.aload_n 0 F dM_advanceThread_127 rfl rfl ?_
    refine G.iload_n 1 F dM_advanceThread_128 rfl rfl ?_
    refine G.calli F (k_m_act l D K base Y t ht m hI) ckM_138 mW_m rfl rfl ⟨rfl, rfl⟩ ⟨by decide, by decide⟩ ⟨Nat.zero_le _, Nat.zero_le _⟩ rfl rfl (Nat.le_of_ble_eq_true rfl) dM_advanceThread_129 ?_
    refine G.istore_nN F dM_advanceThread_132 rfl (by decide) rfl ?_
    refine G.goto 160 F dM_advanceThread_133 rfl ?_
    refine G.aload_n 1 F dM_advanceThread_160 rfl rfl ?_
    refine G.gM 10 F (by decide) flM_29 rfl dM_advanceThread_161 ?_
    refine G.iload_n 2 F dM_advanceThread_164 rfl rfl ?_
    refine G.iload_n 0 F dM_advanceThread_165 rfl rfl ?_
    refine G.stMn 6 F (by decide) rfl (k := t) rfl ht dM_advanceThread_166 ?_
    exact G.st (congrArg (mW Y K) ((if_neg h1).trans ((if_neg h3).trans ((if_neg h4).trans ((if_neg h5).trans ((if_neg h6).trans ((if_neg h7).trans (if_pos h8)))))))) (hE _ _ dM_advanceThread_167)
  by_cases h9 : m 6 t = 8
  · skip
    refine G.tabIn 136 (off := 130) F dM_advanceThread_6 (sw_lo h9 (by decide)) (sw_hi h9 (by decide)) (sw_at h9 rfl) rfl ?_
    refine G.aload_n 0 F dM_advanceThread_136 rfl rfl ?_
    refine G.iload_n 1 F dM_advanceThread_137 rfl rfl ?_
    refine G.calli F (k_m_hang l D K base Y t ht m hI) ckM_141 mW_m rfl rfl ⟨rfl, rfl⟩ ⟨by decide, by decide⟩ ⟨Nat.zero_le _, Nat.zero_le _⟩ rfl rfl (Nat.le_of_ble_eq_true rfl) dM_advanceThread_138 ?_
    refine G.istore_nN F dM_advanceThread_141 rfl (by decide) rfl ?_
    refine G.goto 160 F dM_advanceThread_142 rfl ?_
    refine G.aload_n 1 F dM_advanceThread_160 rfl rfl ?_
    refine G.gM 10 F (by decide) flM_29 rfl dM_advanceThread_161 ?_
    refine G.iload_n 2 F dM_advanceThread_164 rfl rfl ?_
    refine G.iload_n 0 F dM_advanceThread_165 rfl rfl ?_
    refine G.stMn 6 F (by decide) rfl (k := t) rfl ht dM_advanceThread_166 ?_
    exact G.st (congrArg (mW Y K) ((if_neg h1).trans ((if_neg h3).trans ((if_neg h4).trans ((if_neg h5).trans ((if_neg h6).trans ((if_neg h7).trans ((if_neg h8).trans (if_pos h9))))))))) (hE _ _ dM_advanceThread_167)
  by_cases h10 : m 6 t = 9
  · skip
    refine G.tabIn 145 (off := 139) F dM_advanceThread_6 (sw_lo h10 (by decide)) (sw_hi h10 (by decide)) (sw_at h10 rfl) rfl ?_
    refine G.aload_n 0 F dM_advanceThread_145 rfl rfl ?_
    refine G.iload_n 1 F dM_advanceThread_146 rfl rfl ?_
    refine G.calli F (k_m_end l D K base Y t ht m hI) ckM_144 mW_m rfl rfl ⟨rfl, rfl⟩ ⟨by decide, by decide⟩ ⟨Nat.zero_le _, Nat.zero_le _⟩ rfl rfl (Nat.le_of_ble_eq_true rfl) dM_advanceThread_147 ?_
    refine G.istore_nN F dM_advanceThread_150 rfl (by decide) rfl ?_
    refine G.goto 160 F dM_advanceThread_151 rfl ?_
    refine G.aload_n 1 F dM_advanceThread_160 rfl rfl ?_
    refine G.gM 10 F (by decide) flM_29 rfl dM_advanceThread_161 ?_
    refine G.iload_n 2 F dM_advanceThread_164 rfl rfl ?_
    refine G.iload_n 0 F dM_advanceThread_165 rfl rfl ?_
    refine G.stMn 6 F (by decide) rfl (k := t) rfl ht dM_advanceThread_166 ?_
    exact G.st (congrArg (mW Y K) ((if_neg h1).trans ((if_neg h3).trans ((if_neg h4).trans ((if_neg h5).trans ((if_neg h6).trans ((if_neg h7).trans ((if_neg h8).trans ((if_neg h9).trans (if_pos h10)))))))))) (hE _ _ dM_advanceThread_167)
  refine G.tabOut 154 F dM_advanceThread_6 (by have e0 := lv_neT h1 (show (1 : Int32).toInt = 1 from rfl); have e1 := lv_neT h3 (show (2 : Int32).toInt = 2 from rfl); have e2 := lv_neT h4 (show (3 : Int32).toInt = 3 from rfl); have e3 := lv_neT h5 (show (4 : Int32).toInt = 4 from rfl); have e4 := lv_neT h6 (show (5 : Int32).toInt = 5 from rfl); have e5 := lv_neT h7 (show (6 : Int32).toInt = 6 from rfl); have e6 := lv_neT h8 (show (7 : Int32).toInt = 7 from rfl); have e7 := lv_neT h9 (show (8 : Int32).toInt = 8 from rfl); have e8 := lv_neT h10 (show (9 : Int32).toInt = 9 from rfl); omega) rfl ?_
  refine G.aload_n 0 F dM_advanceThread_154 rfl rfl ?_
  refine G.iload_n 1 F dM_advanceThread_155 rfl rfl ?_
  refine G.calli F (k_m_unhang l D K base Y t ht m hI) ckM_147 mW_m rfl rfl ⟨rfl, rfl⟩ ⟨by decide, by decide⟩ ⟨Nat.zero_le _, Nat.zero_le _⟩ rfl rfl (Nat.le_of_ble_eq_true rfl) dM_advanceThread_156 ?_
  refine G.istore_nN F dM_advanceThread_159 rfl (by decide) rfl ?_
  refine G.aload_n 1 F dM_advanceThread_160 rfl rfl ?_
  refine G.gM 10 F (by decide) flM_29 rfl dM_advanceThread_161 ?_
  refine G.iload_n 2 F dM_advanceThread_164 rfl rfl ?_
  refine G.iload_n 0 F dM_advanceThread_165 rfl rfl ?_
  refine G.stMn 6 F (by decide) rfl (k := t) rfl ht dM_advanceThread_166 ?_
  exact G.st (congrArg (mW Y K) ((if_neg h1).trans ((if_neg h3).trans ((if_neg h4).trans ((if_neg h5).trans ((if_neg h6).trans ((if_neg h7).trans ((if_neg h8).trans ((if_neg h9).trans (if_neg h10)))))))))) (hE _ _ dM_advanceThread_167)

def f_m_stepg (t : Nat) (m : CS) : Int32 × CS := (if m 6 t = 0 then (0, (up2 m 20 0 2)) else ((f_m_advanceThread t (up2 m 20 0 0)) 6 t, (f_m_advanceThread t (up2 m 20 0 0))))
theorem i_m_stepg (t : Nat) (ht : t < 4) (m : CS) (hI : InvM m) : InvM (f_m_stepg t m).2 := by
  unfold f_m_stepg
  exact (ite_m2 (fun h1 => (InvM.upo hI rfl)) (fun h1 => (i_m_advanceThread t ht (up2 m 20 0 0) (InvM.upo hI rfl))))
set_option maxRecDepth 100000 in
set_option maxHeartbeats 4000000 in
theorem k_m_stepg (l : Launch) (D : va_G) (K : Nat → ClassId) (base : Nat) (Y : Nat → Nat) (t : Nat) (ht : t < 4) (m : CS) (hI : InvM m) : CtI l D K base yM_step cM_step 2 .int (rmD 5) [.ref (Y 0), .int (nI t)] (mW Y K m) (f_m_stepg t m).1 (mW Y K (f_m_stepg t m).2) := by
  refine CtI.enter (by decide) (Nat.le_of_ble_eq_true rfl) ?_
  intro κ A Q F hE
  show G κ l (rmD 5) A Q D 2 0 0 (mW Y K m) 0 [(0, .ref (Y 0)), (1, .int (nI t))] []
  refine G.aload_n 0 F dM_step_0 rfl rfl ?_
  refine G.iload_n 1 F dM_step_1 rfl rfl ?_
  refine G.callsi F (k_m_isThread l D K base Y (nI t) m hI) ckM_78 ⟨rfl, rfl⟩ ⟨by decide, by decide⟩ ⟨Nat.zero_le _, Nat.zero_le _⟩ rfl rfl (Nat.le_of_ble_eq_true rfl) dM_step_2 ?_
  refine G.if_ne 12 F dM_step_5 rfl (fun _ => ?_) (fun h9 => absurd h9 (isT ht m))
  refine G.aload_n 0 F dM_step_12 rfl rfl ?_
  refine G.gM 10 F (by decide) flM_29 rfl dM_step_13 ?_
  refine G.iload_n 1 F dM_step_16 rfl rfl ?_
  refine G.ldMn 6 F (by decide) rfl (k := t) rfl ht dM_step_17 ?_
  refine G.if_ne 25 F dM_step_18 rfl (fun h1 => ?_) (fun h1 => ?_)
  · skip
    refine G.iconst 0 F dM_step_25 (by decide) ?_
    refine G.pM 0 F (by decide) flM_75 dM_step_26 ?_
    refine G.aload_n 0 F dM_step_29 rfl rfl ?_
    refine G.gM 0 F (by decide) flM_75 rfl dM_step_30 ?_
    refine G.tope (y := 0) (up2_eq _ _ _ _) ?_
    refine G.if_le 38 F dM_step_33 rfl (fun _ => ?_) (fun h9 => absurd (by decide) h9)
    refine G.aload_n 0 F dM_step_38 rfl rfl ?_
    refine G.iload_n 1 F dM_step_39 rfl rfl ?_
    refine G.callv F (k_m_advanceThread l D K base Y t ht (up2 m 20 0 0) (InvM.upo hI rfl)) ckM_150 mW_m rfl rfl ⟨rfl, rfl⟩ ⟨by decide, by decide⟩ ⟨Nat.zero_le _, Nat.zero_le _⟩ rfl rfl (Nat.le_of_ble_eq_true rfl) dM_step_40 ?_
    refine G.aload_n 0 F dM_step_43 rfl rfl ?_
    refine G.gM 10 F (by decide) flM_29 rfl dM_step_44 ?_
    refine G.iload_n 1 F dM_step_47 rfl rfl ?_
    refine G.ldMn 6 F (by decide) rfl (k := t) rfl ht dM_step_48 ?_
    have hr9 : f_m_stepg t m = ((f_m_advanceThread t (up2 m 20 0 0)) 6 t, (f_m_advanceThread t (up2 m 20 0 0))) := (if_neg h1)
    exact G.st (congrArg (fun z : Int32 × CS => mW Y K z.2) hr9) (hE _ _ ((f_m_advanceThread t (up2 m 20 0 0)) 6 t) dM_step_49 rfl (congrArg Prod.fst hr9).symm)
  · skip
    refine G.iconst 2 F dM_step_21 (by decide) ?_
    refine G.goto 26 F dM_step_22 rfl ?_
    refine G.pM 0 F (by decide) flM_75 dM_step_26 ?_
    refine G.aload_n 0 F dM_step_29 rfl rfl ?_
    refine G.gM 0 F (by decide) flM_75 rfl dM_step_30 ?_
    refine G.tope (y := 2) (up2_eq _ _ _ _) ?_
    refine G.if_le 38 F dM_step_33 rfl (fun h9 => absurd h9 (by decide)) (fun _ => ?_)
    refine G.iconst 0 F dM_step_36 (by decide) ?_
    have hr9 : f_m_stepg t m = (0, (up2 m 20 0 2)) := (if_pos h1)
    exact G.st (congrArg (fun z : Int32 × CS => mW Y K z.2) hr9) (hE _ _ 0 dM_step_37 rfl (congrArg Prod.fst hr9).symm)

def fl_m_finishg_40 (t : Nat) : Nat → Nat → CS → Int32 × CS
  | 0, _, m9 => (if m9 6 t = 0 then (nI 300, m9) else (nI 300, m9))
  | n + 1, k, m9 => (if m9 6 t = 0 then (nI k, m9) else (fl_m_finishg_40 t n (k + 1) (f_m_advanceThread t m9)))
def f_m_finishg (t : Nat) (m : CS) : Int32 × CS := (if m 6 t = 0 then (0, (up2 m 20 0 2)) else (fl_m_finishg_40 t 300 0 (up2 m 20 0 0)))
theorem i_fl_m_finishg_40 (t : Nat) (ht : t < 4) : ∀ (n k : Nat) (m9 : CS), k + n = 300 → InvM m9 → InvM (fl_m_finishg_40 t n k m9).2 := by
  intro n
  induction n with
  | zero =>
    intro k m9 hkn hI9
    exact (ite_m2 (fun h2 => hI9) (fun h2 => hI9))
  | succ n ih =>
    intro k m9 hkn hI9
    have hk : k < 300 := by omega
    unfold fl_m_finishg_40
    exact (ite_m2 (fun h3 => hI9) (fun h3 => (ih (k + 1) _ (by omega) (i_m_advanceThread t ht m9 hI9))))
theorem i_m_finishg (t : Nat) (ht : t < 4) (m : CS) (hI : InvM m) : InvM (f_m_finishg t m).2 := by
  unfold f_m_finishg
  exact (ite_m2 (fun h1 => (InvM.upo hI rfl)) (fun h1 => (i_fl_m_finishg_40 t ht 300 0 _ (by decide) (InvM.upo hI rfl))))
set_option maxRecDepth 100000 in
set_option maxHeartbeats 4000000 in
theorem k_m_finishg (l : Launch) (D : va_G) (K : Nat → ClassId) (base : Nat) (Y : Nat → Nat) (t : Nat) (ht : t < 4) (m : CS) (hI : InvM m) : CtI l D K base yM_finish cM_finish 3 .int (rmD 5) [.ref (Y 0), .int (nI t)] (mW Y K m) (f_m_finishg t m).1 (mW Y K (f_m_finishg t m).2) := by
  refine CtI.enter (by decide) (Nat.le_of_ble_eq_true rfl) ?_
  intro κ A Q F hE
  show G κ l (rmD 5) A Q D 3 0 0 (mW Y K m) 0 [(0, .ref (Y 0)), (1, .int (nI t))] []
  have hloop40 : ∀ (n k : Nat) (m9 : CS), k + n = 300 → InvM m9 → f_m_finishg t m = fl_m_finishg_40 t n k m9 → G κ l (rmD 5) A Q D 3 0 0 (mW Y K m9) 40 [(2, .int (nI k)), (0, .ref (Y 0)), (1, .int (nI t))] [] := by
    intro n
    induction n with
    | zero =>
      intro k m9 hkn hI9 hρ
      obtain rfl : k = 300 := by omega
      refine G.aload_n 1 F dM_finish_40 rfl rfl ?_
      refine G.gM 10 F (by decide) flM_29 rfl dM_finish_41 ?_
      refine G.iload_n 2 F dM_finish_44 rfl rfl ?_
      refine G.ldMn 6 F (by decide) rfl (k := t) rfl ht dM_finish_45 ?_
      refine G.if_eq 67 F dM_finish_46 rfl (fun h2 => ?_) (fun h2 => ?_)
      · skip
        refine G.iload_n 0 F dM_finish_67 rfl rfl ?_
        have hr9 : f_m_finishg t m = (nI 300, m9) := hρ.trans (if_pos h2)
        exact G.st (congrArg (fun z : Int32 × CS => mW Y K z.2) hr9) (hE _ _ (nI 300) dM_finish_68 rfl (congrArg Prod.fst hr9).symm)
      · skip
        refine G.iload_n 0 F dM_finish_49 rfl rfl ?_
        refine G.sipush 300 F dM_finish_50 (by decide) ?_
        refine G.icmp_ge 67 F dM_finish_53 rfl (fun _ => ?_) (fun h9 => absurd (by decide) h9)
        refine G.iload_n 0 F dM_finish_67 rfl rfl ?_
        have hr9 : f_m_finishg t m = (nI 300, m9) := hρ.trans (if_neg h2)
        exact G.st (congrArg (fun z : Int32 × CS => mW Y K z.2) hr9) (hE _ _ (nI 300) dM_finish_68 rfl (congrArg Prod.fst hr9).symm)
    | succ n ih =>
      intro k m9 hkn hI9 hρ
      have hk : k < 300 := by omega
      refine G.aload_n 1 F dM_finish_40 rfl rfl ?_
      refine G.gM 10 F (by decide) flM_29 rfl dM_finish_41 ?_
      refine G.iload_n 2 F dM_finish_44 rfl rfl ?_
      refine G.ldMn 6 F (by decide) rfl (k := t) rfl ht dM_finish_45 ?_
      refine G.if_eq 67 F dM_finish_46 rfl (fun h3 => ?_) (fun h3 => ?_)
      · skip
        refine G.iload_n 0 F dM_finish_67 rfl rfl ?_
        have hr9 : f_m_finishg t m = (nI k, m9) := hρ.trans (if_pos h3)
        exact G.st (congrArg (fun z : Int32 × CS => mW Y K z.2) hr9) (hE _ _ (nI k) dM_finish_68 rfl (congrArg Prod.fst hr9).symm)
      · skip
        refine G.iload_n 0 F dM_finish_49 rfl rfl ?_
        refine G.sipush 300 F dM_finish_50 (by decide) ?_
        refine G.icmp_ge 67 F dM_finish_53 rfl (fun h9 => absurd h9 (nI_ge (b := 300) (Nat.lt_of_lt_of_le hk (by decide)) (by decide))) (fun _ => ?_)
        refine G.aload_n 1 F dM_finish_56 rfl rfl ?_
        refine G.iload_n 2 F dM_finish_57 rfl rfl ?_
        refine G.callv F (k_m_advanceThread l D K base Y t ht m9 hI9) ckM_150 mW_m rfl rfl ⟨rfl, rfl⟩ ⟨by decide, by decide⟩ ⟨Nat.zero_le _, Nat.zero_le _⟩ rfl rfl (Nat.le_of_ble_eq_true rfl) dM_finish_58 ?_
        refine G.iinc 0 (nI (k + 1)) F dM_finish_61 rfl (nI_succ k).symm (by decide) rfl ?_
        refine G.goto 40 F dM_finish_64 rfl ?_
        exact ih (k + 1) _ (by omega) (i_m_advanceThread t ht m9 hI9) (hρ.trans (if_neg h3))
  refine G.aload_n 0 F dM_finish_0 rfl rfl ?_
  refine G.iload_n 1 F dM_finish_1 rfl rfl ?_
  refine G.callsi F (k_m_isThread l D K base Y (nI t) m hI) ckM_78 ⟨rfl, rfl⟩ ⟨by decide, by decide⟩ ⟨Nat.zero_le _, Nat.zero_le _⟩ rfl rfl (Nat.le_of_ble_eq_true rfl) dM_finish_2 ?_
  refine G.if_ne 12 F dM_finish_5 rfl (fun _ => ?_) (fun h9 => absurd h9 (isT ht m))
  refine G.aload_n 0 F dM_finish_12 rfl rfl ?_
  refine G.gM 10 F (by decide) flM_29 rfl dM_finish_13 ?_
  refine G.iload_n 1 F dM_finish_16 rfl rfl ?_
  refine G.ldMn 6 F (by decide) rfl (k := t) rfl ht dM_finish_17 ?_
  refine G.if_ne 25 F dM_finish_18 rfl (fun h1 => ?_) (fun h1 => ?_)
  · skip
    refine G.iconst 0 F dM_finish_25 (by decide) ?_
    refine G.pM 0 F (by decide) flM_75 dM_finish_26 ?_
    refine G.aload_n 0 F dM_finish_29 rfl rfl ?_
    refine G.gM 0 F (by decide) flM_75 rfl dM_finish_30 ?_
    refine G.tope (y := 0) (up2_eq _ _ _ _) ?_
    refine G.if_le 38 F dM_finish_33 rfl (fun _ => ?_) (fun h9 => absurd (by decide) h9)
    refine G.iconst 0 F dM_finish_38 (by decide) ?_
    refine G.istore_nN F dM_finish_39 rfl (by decide) rfl ?_
    exact hloop40 300 0 _ (by decide) (InvM.upo hI rfl) (if_neg h1)
  · skip
    refine G.iconst 2 F dM_finish_21 (by decide) ?_
    refine G.goto 26 F dM_finish_22 rfl ?_
    refine G.pM 0 F (by decide) flM_75 dM_finish_26 ?_
    refine G.aload_n 0 F dM_finish_29 rfl rfl ?_
    refine G.gM 0 F (by decide) flM_75 rfl dM_finish_30 ?_
    refine G.tope (y := 2) (up2_eq _ _ _ _) ?_
    refine G.if_le 38 F dM_finish_33 rfl (fun h9 => absurd h9 (by decide)) (fun _ => ?_)
    refine G.iconst 0 F dM_finish_36 (by decide) ?_
    have hr9 : f_m_finishg t m = (0, (up2 m 20 0 2)) := (if_pos h1)
    exact G.st (congrArg (fun z : Int32 × CS => mW Y K z.2) hr9) (hE _ _ 0 dM_finish_37 rfl (congrArg Prod.fst hr9).symm)

def f_m_stepb (v : Int32) (m : CS) : Int32 × CS := (0, (up2 m 20 0 1))
theorem i_m_stepb (v : Int32) (m : CS) (hI : InvM m) (hv : f_m_isThread v m = 0) : InvM (f_m_stepb v m).2 := by
  unfold f_m_stepb
  exact (InvM.upo hI rfl)
set_option maxRecDepth 100000 in
set_option maxHeartbeats 4000000 in
theorem k_m_stepb (l : Launch) (D : va_G) (K : Nat → ClassId) (base : Nat) (Y : Nat → Nat) (v : Int32) (m : CS) (hI : InvM m) (hv : f_m_isThread v m = 0) : CtI l D K base yM_step cM_step 2 .int (rmD 5) [.ref (Y 0), .int v] (mW Y K m) (f_m_stepb v m).1 (mW Y K (f_m_stepb v m).2) := by
  refine CtI.enter (by decide) (Nat.le_of_ble_eq_true rfl) ?_
  intro κ A Q F hE
  show G κ l (rmD 5) A Q D 2 0 0 (mW Y K m) 0 [(0, .ref (Y 0)), (1, .int v)] []
  refine G.aload_n 0 F dM_step_0 rfl rfl ?_
  refine G.iload_n 1 F dM_step_1 rfl rfl ?_
  refine G.callsi F (k_m_isThread l D K base Y v m hI) ckM_78 ⟨rfl, rfl⟩ ⟨by decide, by decide⟩ ⟨Nat.zero_le _, Nat.zero_le _⟩ rfl rfl (Nat.le_of_ble_eq_true rfl) dM_step_2 ?_
  refine G.if_ne 12 F dM_step_5 rfl (fun h9 => absurd hv h9) (fun _ => ?_)
  refine G.iconst 1 F dM_step_8 (by decide) ?_
  refine G.goto 26 F dM_step_9 rfl ?_
  refine G.pM 0 F (by decide) flM_75 dM_step_26 ?_
  refine G.aload_n 0 F dM_step_29 rfl rfl ?_
  refine G.gM 0 F (by decide) flM_75 rfl dM_step_30 ?_
  refine G.tope (y := 1) (up2_eq _ _ _ _) ?_
  refine G.if_le 38 F dM_step_33 rfl (fun h9 => absurd h9 (by decide)) (fun _ => ?_)
  refine G.iconst 0 F dM_step_36 (by decide) ?_
  have hr9 : f_m_stepb v m = (0, (up2 m 20 0 1)) := rfl
  exact G.st (congrArg (fun z : Int32 × CS => mW Y K z.2) hr9) (hE _ _ 0 dM_step_37 rfl (congrArg Prod.fst hr9).symm)

def f_m_finishb (v : Int32) (m : CS) : Int32 × CS := (0, (up2 m 20 0 1))
theorem i_m_finishb (v : Int32) (m : CS) (hI : InvM m) (hv : f_m_isThread v m = 0) : InvM (f_m_finishb v m).2 := by
  unfold f_m_finishb
  exact (InvM.upo hI rfl)
set_option maxRecDepth 100000 in
set_option maxHeartbeats 4000000 in
theorem k_m_finishb (l : Launch) (D : va_G) (K : Nat → ClassId) (base : Nat) (Y : Nat → Nat) (v : Int32) (m : CS) (hI : InvM m) (hv : f_m_isThread v m = 0) : CtI l D K base yM_finish cM_finish 3 .int (rmD 5) [.ref (Y 0), .int v] (mW Y K m) (f_m_finishb v m).1 (mW Y K (f_m_finishb v m).2) := by
  refine CtI.enter (by decide) (Nat.le_of_ble_eq_true rfl) ?_
  intro κ A Q F hE
  show G κ l (rmD 5) A Q D 3 0 0 (mW Y K m) 0 [(0, .ref (Y 0)), (1, .int v)] []
  refine G.aload_n 0 F dM_finish_0 rfl rfl ?_
  refine G.iload_n 1 F dM_finish_1 rfl rfl ?_
  refine G.callsi F (k_m_isThread l D K base Y v m hI) ckM_78 ⟨rfl, rfl⟩ ⟨by decide, by decide⟩ ⟨Nat.zero_le _, Nat.zero_le _⟩ rfl rfl (Nat.le_of_ble_eq_true rfl) dM_finish_2 ?_
  refine G.if_ne 12 F dM_finish_5 rfl (fun h9 => absurd hv h9) (fun _ => ?_)
  refine G.iconst 1 F dM_finish_8 (by decide) ?_
  refine G.goto 26 F dM_finish_9 rfl ?_
  refine G.pM 0 F (by decide) flM_75 dM_finish_26 ?_
  refine G.aload_n 0 F dM_finish_29 rfl rfl ?_
  refine G.gM 0 F (by decide) flM_75 rfl dM_finish_30 ?_
  refine G.tope (y := 1) (up2_eq _ _ _ _) ?_
  refine G.if_le 38 F dM_finish_33 rfl (fun h9 => absurd h9 (by decide)) (fun _ => ?_)
  refine G.iconst 0 F dM_finish_36 (by decide) ?_
  have hr9 : f_m_finishb v m = (0, (up2 m 20 0 1)) := rfl
  exact G.st (congrArg (fun z : Int32 × CS => mW Y K z.2) hr9) (hE _ _ 0 dM_finish_37 rfl (congrArg Prod.fst hr9).symm)

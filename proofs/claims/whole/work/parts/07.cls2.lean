def f_readHere (t : Nat) (c : CS) : CS := (if (f_lookAtHere t c) 3 (((f_lookAtHere t c) 12 t).toNatClampNeg) = 0 then (if (f_lookAtHere t c) 1 (((f_lookAtHere t c) 12 t).toNatClampNeg) < (f_lookAtHere t c) 9 t then (f_moveHereTo t ((f_lookAtHere t c) 2 (((f_lookAtHere t c) 12 t).toNatClampNeg)) (up2 (up2 (up2 (f_lookAtHere t c) 14 t ((f_lookAtHere t c) 2 (((f_lookAtHere t c) 12 t).toNatClampNeg))) 10 t ((f_lookAtHere t c) 12 t)) 11 t ((f_lookAtHere t c) 13 t))) else (if (f_lookAtHere t c) 1 (((f_lookAtHere t c) 12 t).toNatClampNeg) = (f_lookAtHere t c) 9 t then (up2 (up2 (up2 (f_lookAtHere t c) 14 t ((f_lookAtHere t c) 2 (((f_lookAtHere t c) 12 t).toNatClampNeg))) 15 t 1) 7 t 7) else (up2 (up2 (up2 (f_lookAtHere t c) 14 t ((f_lookAtHere t c) 2 (((f_lookAtHere t c) 12 t).toNatClampNeg))) 15 t 0) 7 t 7))) else (up2 (up2 (f_lookAtHere t c) 14 t ((f_lookAtHere t c) 2 (((f_lookAtHere t c) 12 t).toNatClampNeg))) 7 t 6))
theorem i_readHere (t : Nat) (ht : t < 4) (c : CS) (hI : Inv c) : Inv (f_readHere t c) := by
  unfold f_readHere
  exact (ite_c (fun h1 => (ite_c (fun h2 => (i_moveHereTo t ht ((f_lookAtHere t c) 2 (((f_lookAtHere t c) 12 t).toNatClampNeg)) ((i_lookAtHere t ht c hI) 2 _ rfl) (up2 (up2 (up2 (f_lookAtHere t c) 14 t ((f_lookAtHere t c) 2 (((f_lookAtHere t c) 12 t).toNatClampNeg))) 10 t ((f_lookAtHere t c) 12 t)) 11 t ((f_lookAtHere t c) 13 t)) (Inv.upo (Inv.upi (Inv.upi (i_lookAtHere t ht c hI) ((i_lookAtHere t ht c hI) 2 _ rfl)) ((i_lookAtHere t ht c hI) 12 _ rfl)) rfl))) (fun h2 => (ite_c (fun h3 => (Inv.upo (Inv.upo (Inv.upi (i_lookAtHere t ht c hI) ((i_lookAtHere t ht c hI) 2 _ rfl)) rfl) rfl)) (fun h3 => (Inv.upo (Inv.upo (Inv.upi (i_lookAtHere t ht c hI) ((i_lookAtHere t ht c hI) 2 _ rfl)) rfl) rfl)))))) (fun h1 => (Inv.upo (Inv.upi (i_lookAtHere t ht c hI) ((i_lookAtHere t ht c hI) 2 _ rfl)) rfl)))
set_option maxRecDepth 100000 in
set_option maxHeartbeats 4000000 in
theorem k_readHere (l : Launch) (D : va_G) (K : Nat → ClassId) (base : Nat) (X : Nat → Nat) (t : Nat) (ht : t < 4) (c : CS) (hI : Inv c) : CtV l D K base yS_readHere cS_readHere 3 (rmD 2) [.ref (X 0), .ref (X (24 + t))] (cW X K c) (cW X K (f_readHere t c)) := by
  refine CtV.enter (by decide) (Nat.le_of_ble_eq_true rfl) ?_
  intro κ A Q F hE
  show G κ l (rmD 2) A Q D 3 0 0 (cW X K c) 0 [(0, .ref (X 0)), (1, .ref (X (24 + t)))] []
  refine G.aload_n 0 F dS_readHere_0 rfl rfl ?_
  refine G.aload_n 1 F dS_readHere_1 rfl rfl ?_
  refine G.callv F (k_lookAtHere l D K base X t ht c hI) ckS_193 cW_x rfl rfl ⟨rfl, rfl⟩ ⟨by decide, by decide⟩ ⟨Nat.zero_le _, Nat.zero_le _⟩ rfl rfl (Nat.le_of_ble_eq_true rfl) dS_readHere_2 ?_
  refine G.aload_n 0 F dS_readHere_5 rfl rfl ?_
  refine G.gX 1 F (by decide) flS_15 rfl dS_readHere_6 ?_
  refine G.aload_n 1 F dS_readHere_9 rfl rfl ?_
  refine G.gT 6 12 F rfl ht (by decide) flS_77 dS_readHere_10 ?_
  refine G.ldB F ((i_lookAtHere t ht c hI) 12 _ rfl) dS_readHere_13 ?_
  refine G.astore_nN F dS_readHere_14 rfl (by decide) rfl ?_
  refine G.aload_n 2 F dS_readHere_15 rfl rfl ?_
  refine G.aload_n 0 F dS_readHere_16 rfl rfl ?_
  refine G.gB 2 F (ix_lt ((i_lookAtHere t ht c hI) 12 _ rfl)) (by decide) flS_131 dS_readHere_17 ?_
  refine G.pT 8 14 F rfl ht (by decide) (by decide) flS_80 rfl rfl dS_readHere_20 ?_
  refine G.aload_n 0 F dS_readHere_23 rfl rfl ?_
  refine G.gB 3 F (ix_lt ((i_lookAtHere t ht c hI) 12 _ rfl)) (by decide) flS_134 dS_readHere_24 ?_
  refine G.tope (y := (f_lookAtHere t c) 3 (((f_lookAtHere t c) 12 t).toNatClampNeg)) (up2_f _ _ _ _ (by decide)) ?_
  refine G.if_eq 39 F dS_readHere_27 rfl (fun h1 => ?_) (fun h1 => ?_)
  · skip
    refine G.aload_n 0 F dS_readHere_39 rfl rfl ?_
    refine G.gB 1 F (ix_lt ((i_lookAtHere t ht c hI) 12 _ rfl)) (by decide) flS_138 dS_readHere_40 ?_
    refine G.tope (y := (f_lookAtHere t c) 1 (((f_lookAtHere t c) 12 t).toNatClampNeg)) (up2_f _ _ _ _ (by decide)) ?_
    refine G.aload_n 2 F dS_readHere_43 rfl rfl ?_
    refine G.gT 3 9 F rfl ht (by decide) flS_56 dS_readHere_44 ?_
    refine G.tope (y := (f_lookAtHere t c) 9 t) (up2_f _ _ _ _ (by decide)) ?_
    refine G.icmp_lt 79 F dS_readHere_47 rfl (fun h2 => ?_) (fun h2 => ?_)
    · skip
      refine G.aload_n 2 F dS_readHere_79 rfl rfl ?_
      refine G.aload_n 2 F dS_readHere_80 rfl rfl ?_
      refine G.gT 6 12 F rfl ht (by decide) flS_77 dS_readHere_81 ?_
      refine G.tope (y := (f_lookAtHere t c) 12 t) (up2_f _ _ _ _ (by decide)) ?_
      refine G.pT 4 10 F rfl ht (by decide) (by decide) flS_74 rfl rfl dS_readHere_84 ?_
      refine G.aload_n 2 F dS_readHere_87 rfl rfl ?_
      refine G.aload_n 2 F dS_readHere_88 rfl rfl ?_
      refine G.gT 7 13 F rfl ht (by decide) flS_196 dS_readHere_89 ?_
      refine G.tope (y := (f_lookAtHere t c) 13 t) ((up2_f _ _ _ _ (by decide)).trans (up2_f _ _ _ _ (by decide))) ?_
      refine G.pT 5 11 F rfl ht (by decide) (by decide) flS_176 rfl rfl dS_readHere_92 ?_
      refine G.aload_n 1 F dS_readHere_95 rfl rfl ?_
      refine G.aload_n 2 F dS_readHere_96 rfl rfl ?_
      refine G.aload_n 2 F dS_readHere_97 rfl rfl ?_
      refine G.gT 8 14 F rfl ht (by decide) flS_80 dS_readHere_98 ?_
      refine G.tope (y := (f_lookAtHere t c) 2 (((f_lookAtHere t c) 12 t).toNatClampNeg)) ((up2_f _ _ _ _ (by decide)).trans ((up2_f _ _ _ _ (by decide)).trans (up2_eq _ _ _ _))) ?_
      refine G.callv F (k_moveHereTo l D K base X t ht ((f_lookAtHere t c) 2 (((f_lookAtHere t c) 12 t).toNatClampNeg)) ((i_lookAtHere t ht c hI) 2 _ rfl) (up2 (up2 (up2 (f_lookAtHere t c) 14 t ((f_lookAtHere t c) 2 (((f_lookAtHere t c) 12 t).toNatClampNeg))) 10 t ((f_lookAtHere t c) 12 t)) 11 t ((f_lookAtHere t c) 13 t)) (Inv.upo (Inv.upi (Inv.upi (i_lookAtHere t ht c hI) ((i_lookAtHere t ht c hI) 2 _ rfl)) ((i_lookAtHere t ht c hI) 12 _ rfl)) rfl)) ckS_179 cW_x rfl rfl ⟨rfl, rfl⟩ ⟨by decide, by decide⟩ ⟨Nat.zero_le _, Nat.zero_le _⟩ rfl rfl (Nat.le_of_ble_eq_true rfl) dS_readHere_101 ?_
      exact G.st (congrArg (cW X K) ((if_pos h1).trans (if_pos h2))) (hE _ _ dS_readHere_104)
    · skip
      refine G.aload_n 2 F dS_readHere_50 rfl rfl ?_
      refine G.aload_n 0 F dS_readHere_51 rfl rfl ?_
      refine G.gB 1 F (ix_lt ((i_lookAtHere t ht c hI) 12 _ rfl)) (by decide) flS_138 dS_readHere_52 ?_
      refine G.tope (y := (f_lookAtHere t c) 1 (((f_lookAtHere t c) 12 t).toNatClampNeg)) (up2_f _ _ _ _ (by decide)) ?_
      refine G.aload_n 2 F dS_readHere_55 rfl rfl ?_
      refine G.gT 3 9 F rfl ht (by decide) flS_56 dS_readHere_56 ?_
      refine G.tope (y := (f_lookAtHere t c) 9 t) (up2_f _ _ _ _ (by decide)) ?_
      refine G.icmp_ne 66 F dS_readHere_59 rfl (fun h3 => ?_) (fun h3 => ?_)
      · skip
        refine G.iconst 0 F dS_readHere_66 (by decide) ?_
        refine G.pT 9 15 F rfl ht (by decide) (by decide) flS_190 rfl rfl dS_readHere_67 ?_
        refine G.aload_n 2 F dS_readHere_70 rfl rfl ?_
        refine G.bipush 7 F dS_readHere_71 (by decide) ?_
        refine G.pT 1 7 F rfl ht (by decide) (by decide) flS_42 rfl rfl dS_readHere_73 ?_
        refine G.goto 104 F dS_readHere_76 rfl ?_
        exact G.st (congrArg (cW X K) ((if_pos h1).trans ((if_neg h2).trans (if_neg h3)))) (hE _ _ dS_readHere_104)
      · skip
        refine G.iconst 1 F dS_readHere_62 (by decide) ?_
        refine G.goto 67 F dS_readHere_63 rfl ?_
        refine G.pT 9 15 F rfl ht (by decide) (by decide) flS_190 rfl rfl dS_readHere_67 ?_
        refine G.aload_n 2 F dS_readHere_70 rfl rfl ?_
        refine G.bipush 7 F dS_readHere_71 (by decide) ?_
        refine G.pT 1 7 F rfl ht (by decide) (by decide) flS_42 rfl rfl dS_readHere_73 ?_
        refine G.goto 104 F dS_readHere_76 rfl ?_
        exact G.st (congrArg (cW X K) ((if_pos h1).trans ((if_neg h2).trans (if_pos h3)))) (hE _ _ dS_readHere_104)
  · skip
    refine G.aload_n 2 F dS_readHere_30 rfl rfl ?_
    refine G.bipush 6 F dS_readHere_31 (by decide) ?_
    refine G.pT 1 7 F rfl ht (by decide) (by decide) flS_42 rfl rfl dS_readHere_33 ?_
    refine G.goto 104 F dS_readHere_36 rfl ?_
    exact G.st (congrArg (cW X K) (if_neg h1)) (hE _ _ dS_readHere_104)

def f_checkBack (t : Nat) (c : CS) : CS := (if f_leadsTo (((f_lookAtBack t c) 10 t).toNatClampNeg) ((f_lookAtBack t c) 12 t) (f_lookAtBack t c) = 0 then (up2 (f_lookAtBack t c) 7 t 2) else (if (f_lookAtBack t c) 12 t = 0 then (up2 (up2 (f_lookAtBack t c) 15 t 0) 7 t 7) else (up2 (f_lookAtBack t c) 7 t 5)))
theorem i_checkBack (t : Nat) (ht : t < 4) (c : CS) (hI : Inv c) : Inv (f_checkBack t c) := by
  unfold f_checkBack
  exact (ite_c (fun h1 => (Inv.upo (i_lookAtBack t ht c hI) rfl)) (fun h1 => (ite_c (fun h2 => (Inv.upo (Inv.upo (i_lookAtBack t ht c hI) rfl) rfl)) (fun h2 => (Inv.upo (i_lookAtBack t ht c hI) rfl)))))
set_option maxRecDepth 100000 in
set_option maxHeartbeats 4000000 in
theorem k_checkBack (l : Launch) (D : va_G) (K : Nat → ClassId) (base : Nat) (X : Nat → Nat) (t : Nat) (ht : t < 4) (c : CS) (hI : Inv c) : CtV l D K base yS_checkBack cS_checkBack 2 (rmD 2) [.ref (X 0), .ref (X (24 + t))] (cW X K c) (cW X K (f_checkBack t c)) := by
  refine CtV.enter (by decide) (Nat.le_of_ble_eq_true rfl) ?_
  intro κ A Q F hE
  show G κ l (rmD 2) A Q D 2 0 0 (cW X K c) 0 [(0, .ref (X 0)), (1, .ref (X (24 + t)))] []
  refine G.aload_n 0 F dS_checkBack_0 rfl rfl ?_
  refine G.aload_n 1 F dS_checkBack_1 rfl rfl ?_
  refine G.callv F (k_lookAtBack l D K base X t ht c hI) ckS_183 cW_x rfl rfl ⟨rfl, rfl⟩ ⟨by decide, by decide⟩ ⟨Nat.zero_le _, Nat.zero_le _⟩ rfl rfl (Nat.le_of_ble_eq_true rfl) dS_checkBack_2 ?_
  refine G.aload_n 0 F dS_checkBack_5 rfl rfl ?_
  refine G.gX 1 F (by decide) flS_15 rfl dS_checkBack_6 ?_
  refine G.aload_n 1 F dS_checkBack_9 rfl rfl ?_
  refine G.gT 4 10 F rfl ht (by decide) flS_74 dS_checkBack_10 ?_
  refine G.ldB F ((i_lookAtBack t ht c hI) 10 _ rfl) dS_checkBack_13 ?_
  refine G.aload_n 1 F dS_checkBack_14 rfl rfl ?_
  refine G.gT 6 12 F rfl ht (by decide) flS_77 dS_checkBack_15 ?_
  refine G.calli F (k_leadsTo l D K base X (((f_lookAtBack t c) 10 t).toNatClampNeg) (ix_lt ((i_lookAtBack t ht c hI) 10 _ rfl)) ((f_lookAtBack t c) 12 t) (f_lookAtBack t c) (i_lookAtBack t ht c hI)) ckS_186 (cW_b (ix_lt ((i_lookAtBack t ht c hI) 10 _ rfl))) rfl rfl ⟨rfl, rfl⟩ ⟨by decide, by decide⟩ ⟨Nat.zero_le _, Nat.zero_le _⟩ rfl rfl (Nat.le_of_ble_eq_true rfl) dS_checkBack_18 ?_
  refine G.if_ne 32 F dS_checkBack_21 rfl (fun h1 => ?_) (fun h1 => ?_)
  · skip
    refine G.aload_n 1 F dS_checkBack_32 rfl rfl ?_
    refine G.gT 6 12 F rfl ht (by decide) flS_77 dS_checkBack_33 ?_
    refine G.if_ne 53 F dS_checkBack_36 rfl (fun h2 => ?_) (fun h2 => ?_)
    · skip
      refine G.aload_n 1 F dS_checkBack_53 rfl rfl ?_
      refine G.iconst 5 F dS_checkBack_54 (by decide) ?_
      refine G.pT 1 7 F rfl ht (by decide) (by decide) flS_42 rfl rfl dS_checkBack_55 ?_
      exact G.st (congrArg (cW X K) ((if_neg h1).trans (if_neg h2))) (hE _ _ dS_checkBack_58)
    · skip
      refine G.aload_n 1 F dS_checkBack_39 rfl rfl ?_
      refine G.iconst 0 F dS_checkBack_40 (by decide) ?_
      refine G.pT 9 15 F rfl ht (by decide) (by decide) flS_190 rfl rfl dS_checkBack_41 ?_
      refine G.aload_n 1 F dS_checkBack_44 rfl rfl ?_
      refine G.bipush 7 F dS_checkBack_45 (by decide) ?_
      refine G.pT 1 7 F rfl ht (by decide) (by decide) flS_42 rfl rfl dS_checkBack_47 ?_
      refine G.goto 58 F dS_checkBack_50 rfl ?_
      exact G.st (congrArg (cW X K) ((if_neg h1).trans (if_pos h2))) (hE _ _ dS_checkBack_58)
  · skip
    refine G.aload_n 1 F dS_checkBack_24 rfl rfl ?_
    refine G.iconst 2 F dS_checkBack_25 (by decide) ?_
    refine G.pT 1 7 F rfl ht (by decide) (by decide) flS_42 rfl rfl dS_checkBack_26 ?_
    refine G.goto 58 F dS_checkBack_29 rfl ?_
    exact G.st (congrArg (cW X K) (if_pos h1)) (hE _ _ dS_checkBack_58)

def f_advance (c : CS) : Int32 × CS := (if f_allAnnounceCurrentEpoch c = 0 then (0, c) else (1, (f_freeOldEpochs (up2 c 22 1 ((c 22 1) + 1)))))
theorem i_advance  (c : CS) (hI : Inv c) (hb : c 22 0 = 0) : Inv (f_advance  c).2 := by
  unfold f_advance
  exact (ite_c2 (fun h1 => hI) (fun h1 => (i_freeOldEpochs  (up2 c 22 1 ((c 22 1) + 1)) (Inv.upo hI rfl))))
set_option maxRecDepth 100000 in
set_option maxHeartbeats 4000000 in
theorem k_advance (l : Launch) (D : va_G) (K : Nat → ClassId) (base : Nat) (X : Nat → Nat)  (c : CS) (hI : Inv c) (hb : c 22 0 = 0) : CtI l D K base yS_advance cS_advance 1 .boolean (rmD 2) [.ref (X 0)] (cW X K c) (f_advance c).1 (cW X K (f_advance c).2) := by
  refine CtI.enter (by decide) (Nat.le_of_ble_eq_true rfl) ?_
  intro κ A Q F hE
  show G κ l (rmD 2) A Q D 1 0 0 (cW X K c) 0 [(0, .ref (X 0))] []
  refine G.aload_n 0 F dS_advance_0 rfl rfl ?_
  refine G.gX 0 F (by decide) flS_9 rfl dS_advance_1 ?_
  refine G.if_eq 17 F dS_advance_4 rfl (fun _ => ?_) (fun h9 => absurd hb h9)
  refine G.aload_n 0 F dS_advance_17 rfl rfl ?_
  refine G.calli F (k_allAnnounceCurrentEpoch l D K base X  c hI) ckS_107 cW_x rfl rfl ⟨rfl, rfl⟩ ⟨by decide, by decide⟩ ⟨Nat.zero_le _, Nat.zero_le _⟩ rfl rfl (Nat.le_of_ble_eq_true rfl) dS_advance_18 ?_
  refine G.if_ne 26 F dS_advance_21 rfl (fun h1 => ?_) (fun h1 => ?_)
  · skip
    refine G.aload_n 0 F dS_advance_26 rfl rfl ?_
    refine G.dup F dS_advance_27 rfl ?_
    refine G.gX 3 F (by decide) flS_111 rfl dS_advance_28 ?_
    refine G.iconst 1 F dS_advance_31 (by decide) ?_
    refine G.iadd F dS_advance_32 ?_
    refine G.pX3 F flS_111 dS_advance_33 ?_
    refine G.aload_n 0 F dS_advance_36 rfl rfl ?_
    refine G.callv F (k_freeOldEpochs l D K base X  (up2 c 22 1 ((c 22 1) + 1)) (Inv.upo hI rfl)) ckS_114 cW_x rfl rfl ⟨rfl, rfl⟩ ⟨by decide, by decide⟩ ⟨Nat.zero_le _, Nat.zero_le _⟩ rfl rfl (Nat.le_of_ble_eq_true rfl) dS_advance_37 ?_
    refine G.iconst 1 F dS_advance_40 (by decide) ?_
    have hr9 : f_advance c = (1, (f_freeOldEpochs (up2 c 22 1 ((c 22 1) + 1)))) := (if_neg h1)
    exact G.st (congrArg (fun z : Int32 × CS => cW X K z.2) hr9) (hE _ _ 1 dS_advance_41 rfl (congrArg Prod.fst hr9).symm)
  · skip
    refine G.iconst 0 F dS_advance_24 (by decide) ?_
    have hr9 : f_advance c = (0, c) := (if_pos h1)
    exact G.st (congrArg (fun z : Int32 × CS => cW X K z.2) hr9) (hE _ _ 0 dS_advance_25 rfl (congrArg Prod.fst hr9).symm)

def f_scan (t : Nat) (c : CS) : Int32 × CS := ((f_freeUnnamed t c).1, (f_freeUnnamed t c).2)
theorem i_scan (t : Nat) (ht : t < 4) (c : CS) (hI : Inv c) (hb : c 22 0 = 1) : Inv (f_scan t c).2 := by
  unfold f_scan
  exact (i_freeUnnamed t ht c hI)
set_option maxRecDepth 100000 in
set_option maxHeartbeats 4000000 in
theorem k_scan (l : Launch) (D : va_G) (K : Nat → ClassId) (base : Nat) (X : Nat → Nat) (t : Nat) (ht : t < 4) (c : CS) (hI : Inv c) (hb : c 22 0 = 1) : CtI l D K base yS_scan cS_scan 3 .int (rmD 2) [.ref (X 0), .int (nI t)] (cW X K c) (f_scan t c).1 (cW X K (f_scan t c).2) := by
  refine CtI.enter (by decide) (Nat.le_of_ble_eq_true rfl) ?_
  intro κ A Q F hE
  show G κ l (rmD 2) A Q D 3 0 0 (cW X K c) 0 [(0, .ref (X 0)), (1, .int (nI t))] []
  refine G.aload_n 0 F dS_scan_0 rfl rfl ?_
  refine G.iload_n 1 F dS_scan_1 rfl rfl ?_
  refine G.callr F (k_workerOf l D K base X t ht c hI) ckS_29 cW_x rfl rfl ⟨rfl, rfl⟩ ⟨by decide, by decide⟩ ⟨Nat.zero_le _, Nat.zero_le _⟩ rfl rfl (Nat.le_of_ble_eq_true rfl) dS_scan_2 ?_
  refine G.astore_nN F dS_scan_5 rfl (by decide) rfl ?_
  refine G.aload_n 1 F dS_scan_6 rfl rfl ?_
  refine G.gX 0 F (by decide) flS_9 rfl dS_scan_7 ?_
  refine G.iconst 1 F dS_scan_10 (by decide) ?_
  refine G.icmp_eq 24 F dS_scan_11 rfl (fun _ => ?_) (fun h9 => absurd hb h9)
  refine G.aload_n 1 F dS_scan_24 rfl rfl ?_
  refine G.aload_n 0 F dS_scan_25 rfl rfl ?_
  refine G.calli F (k_freeUnnamed l D K base X t ht c hI) ckS_119 cW_x rfl rfl ⟨rfl, rfl⟩ ⟨by decide, by decide⟩ ⟨Nat.zero_le _, Nat.zero_le _⟩ rfl rfl (Nat.le_of_ble_eq_true rfl) dS_scan_26 ?_
  have hr9 : f_scan t c = ((f_freeUnnamed t c).1, (f_freeUnnamed t c).2) := rfl
  exact G.st (congrArg (fun z : Int32 × CS => cW X K z.2) hr9) (hE _ _ ((f_freeUnnamed t c).1) dS_scan_29 rfl (congrArg Prod.fst hr9).symm)

def f_takeOutHere (t : Nat) (c : CS) : Int32 × CS := (if f_leadsTo (((f_lookAtBack t c) 10 t).toNatClampNeg) ((f_lookAtBack t c) 12 t) (f_lookAtBack t c) = 0 then (0, (f_lookAtBack t c)) else (1, (f_retireHere t (f_lead (((f_lookAtBack t c) 10 t).toNatClampNeg) ((f_lookAtBack t c) 14 t) (f_lookAtBack t c)))))
theorem i_takeOutHere (t : Nat) (ht : t < 4) (c : CS) (hI : Inv c) : Inv (f_takeOutHere t c).2 := by
  unfold f_takeOutHere
  exact (ite_c2 (fun h1 => (i_lookAtBack t ht c hI)) (fun h1 => (i_retireHere t ht (f_lead (((f_lookAtBack t c) 10 t).toNatClampNeg) ((f_lookAtBack t c) 14 t) (f_lookAtBack t c)) (i_lead (((f_lookAtBack t c) 10 t).toNatClampNeg) (ix_lt ((i_lookAtBack t ht c hI) 10 _ rfl)) ((f_lookAtBack t c) 14 t) ((i_lookAtBack t ht c hI) 14 _ rfl) (f_lookAtBack t c) (i_lookAtBack t ht c hI)))))
set_option maxRecDepth 100000 in
set_option maxHeartbeats 4000000 in
theorem k_takeOutHere (l : Launch) (D : va_G) (K : Nat → ClassId) (base : Nat) (X : Nat → Nat) (t : Nat) (ht : t < 4) (c : CS) (hI : Inv c) : CtI l D K base yS_takeOutHere cS_takeOutHere 3 .boolean (rmD 3) [.ref (X 0), .ref (X (24 + t))] (cW X K c) (f_takeOutHere t c).1 (cW X K (f_takeOutHere t c).2) := by
  refine CtI.enter (by decide) (Nat.le_of_ble_eq_true rfl) ?_
  intro κ A Q F hE
  show G κ l (rmD 3) A Q D 3 0 0 (cW X K c) 0 [(0, .ref (X 0)), (1, .ref (X (24 + t)))] []
  refine G.aload_n 0 F dS_takeOutHere_0 rfl rfl ?_
  refine G.aload_n 1 F dS_takeOutHere_1 rfl rfl ?_
  refine G.callv F (k_lookAtBack l D K base X t ht c hI) ckS_183 cW_x rfl rfl ⟨rfl, rfl⟩ ⟨by decide, by decide⟩ ⟨Nat.zero_le _, Nat.zero_le _⟩ rfl rfl (Nat.le_of_ble_eq_true rfl) dS_takeOutHere_2 ?_
  refine G.aload_n 0 F dS_takeOutHere_5 rfl rfl ?_
  refine G.gX 1 F (by decide) flS_15 rfl dS_takeOutHere_6 ?_
  refine G.aload_n 1 F dS_takeOutHere_9 rfl rfl ?_
  refine G.gT 4 10 F rfl ht (by decide) flS_74 dS_takeOutHere_10 ?_
  refine G.ldB F ((i_lookAtBack t ht c hI) 10 _ rfl) dS_takeOutHere_13 ?_
  refine G.astore_nN F dS_takeOutHere_14 rfl (by decide) rfl ?_
  refine G.aload_n 0 F dS_takeOutHere_15 rfl rfl ?_
  refine G.aload_n 2 F dS_takeOutHere_16 rfl rfl ?_
  refine G.gT 6 12 F rfl ht (by decide) flS_77 dS_takeOutHere_17 ?_
  refine G.calli F (k_leadsTo l D K base X (((f_lookAtBack t c) 10 t).toNatClampNeg) (ix_lt ((i_lookAtBack t ht c hI) 10 _ rfl)) ((f_lookAtBack t c) 12 t) (f_lookAtBack t c) (i_lookAtBack t ht c hI)) ckS_186 (cW_b (ix_lt ((i_lookAtBack t ht c hI) 10 _ rfl))) rfl rfl ⟨rfl, rfl⟩ ⟨by decide, by decide⟩ ⟨Nat.zero_le _, Nat.zero_le _⟩ rfl rfl (Nat.le_of_ble_eq_true rfl) dS_takeOutHere_20 ?_
  refine G.if_ne 28 F dS_takeOutHere_23 rfl (fun h1 => ?_) (fun h1 => ?_)
  · skip
    refine G.aload_n 0 F dS_takeOutHere_28 rfl rfl ?_
    refine G.aload_n 2 F dS_takeOutHere_29 rfl rfl ?_
    refine G.gT 8 14 F rfl ht (by decide) flS_80 dS_takeOutHere_30 ?_
    refine G.callv F (k_lead l D K base X (((f_lookAtBack t c) 10 t).toNatClampNeg) (ix_lt ((i_lookAtBack t ht c hI) 10 _ rfl)) ((f_lookAtBack t c) 14 t) ((i_lookAtBack t ht c hI) 14 _ rfl) (f_lookAtBack t c) (i_lookAtBack t ht c hI)) ckS_219 (cW_b (ix_lt ((i_lookAtBack t ht c hI) 10 _ rfl))) rfl rfl ⟨rfl, rfl⟩ ⟨by decide, by decide⟩ ⟨Nat.zero_le _, Nat.zero_le _⟩ rfl rfl (Nat.le_of_ble_eq_true rfl) dS_takeOutHere_33 ?_
    refine G.aload_n 1 F dS_takeOutHere_36 rfl rfl ?_
    refine G.aload_n 2 F dS_takeOutHere_37 rfl rfl ?_
    refine G.callv F (k_retireHere l D K base X t ht (f_lead (((f_lookAtBack t c) 10 t).toNatClampNeg) ((f_lookAtBack t c) 14 t) (f_lookAtBack t c)) (i_lead (((f_lookAtBack t c) 10 t).toNatClampNeg) (ix_lt ((i_lookAtBack t ht c hI) 10 _ rfl)) ((f_lookAtBack t c) 14 t) ((i_lookAtBack t ht c hI) 14 _ rfl) (f_lookAtBack t c) (i_lookAtBack t ht c hI))) ckS_228 cW_x rfl rfl ⟨rfl, rfl⟩ ⟨by decide, by decide⟩ ⟨Nat.zero_le _, Nat.zero_le _⟩ rfl rfl (Nat.le_of_ble_eq_true rfl) dS_takeOutHere_38 ?_
    refine G.iconst 1 F dS_takeOutHere_41 (by decide) ?_
    have hr9 : f_takeOutHere t c = (1, (f_retireHere t (f_lead (((f_lookAtBack t c) 10 t).toNatClampNeg) ((f_lookAtBack t c) 14 t) (f_lookAtBack t c)))) := (if_neg h1)
    exact G.st (congrArg (fun z : Int32 × CS => cW X K z.2) hr9) (hE _ _ 1 dS_takeOutHere_42 rfl (congrArg Prod.fst hr9).symm)
  · skip
    refine G.iconst 0 F dS_takeOutHere_26 (by decide) ?_
    have hr9 : f_takeOutHere t c = (0, (f_lookAtBack t c)) := (if_pos h1)
    exact G.st (congrArg (fun z : Int32 × CS => cW X K z.2) hr9) (hE _ _ 0 dS_takeOutHere_27 rfl (congrArg Prod.fst hr9).symm)

def f_doOperation (t : Nat) (c : CS) : CS := (if c 8 t = 1 then (f_prepareInsert t c) else (if c 8 t = 2 then (f_markForRemoval t c) else (if c 15 t = 0 then (f_conclude t 0 c) else (f_conclude t 1 c))))
theorem i_doOperation (t : Nat) (ht : t < 4) (c : CS) (hI : Inv c) : Inv (f_doOperation t c) := by
  unfold f_doOperation
  exact (ite_c (fun h1 => (i_prepareInsert t ht c hI)) (fun h1 => (ite_c (fun h2 => (i_markForRemoval t ht c hI)) (fun h2 => (ite_c (fun h3 => (i_conclude t ht 0 c hI)) (fun h3 => (i_conclude t ht 1 c hI)))))))
set_option maxRecDepth 100000 in
set_option maxHeartbeats 4000000 in
theorem k_doOperation (l : Launch) (D : va_G) (K : Nat → ClassId) (base : Nat) (X : Nat → Nat) (t : Nat) (ht : t < 4) (c : CS) (hI : Inv c) : CtV l D K base yS_doOperation cS_doOperation 2 (rmD 3) [.ref (X 0), .ref (X (24 + t))] (cW X K c) (cW X K (f_doOperation t c)) := by
  refine CtV.enter (by decide) (Nat.le_of_ble_eq_true rfl) ?_
  intro κ A Q F hE
  show G κ l (rmD 3) A Q D 2 0 0 (cW X K c) 0 [(0, .ref (X 0)), (1, .ref (X (24 + t)))] []
  refine G.aload_n 1 F dS_doOperation_0 rfl rfl ?_
  refine G.gT 2 8 F rfl ht (by decide) flS_53 dS_doOperation_1 ?_
  by_cases h1 : c 8 t = 1
  · skip
    refine G.look 32 (off := 28) F dS_doOperation_4 rfl (by rw [h1]; rfl) rfl ?_
    refine G.aload_n 0 F dS_doOperation_32 rfl rfl ?_
    refine G.aload_n 1 F dS_doOperation_33 rfl rfl ?_
    refine G.callv F (k_prepareInsert l D K base X t ht c hI) ckS_203 cW_x rfl rfl ⟨rfl, rfl⟩ ⟨by decide, by decide⟩ ⟨Nat.zero_le _, Nat.zero_le _⟩ rfl rfl (Nat.le_of_ble_eq_true rfl) dS_doOperation_34 ?_
    refine G.goto 65 F dS_doOperation_37 rfl ?_
    exact G.st (congrArg (cW X K) (if_pos h1)) (hE _ _ dS_doOperation_65)
  by_cases h2 : c 8 t = 2
  · skip
    refine G.look 40 (off := 36) F dS_doOperation_4 rfl (by rw [h2]; rfl) rfl ?_
    refine G.aload_n 0 F dS_doOperation_40 rfl rfl ?_
    refine G.aload_n 1 F dS_doOperation_41 rfl rfl ?_
    refine G.callv F (k_markForRemoval l D K base X t ht c hI) ckS_206 cW_x rfl rfl ⟨rfl, rfl⟩ ⟨by decide, by decide⟩ ⟨Nat.zero_le _, Nat.zero_le _⟩ rfl rfl (Nat.le_of_ble_eq_true rfl) dS_doOperation_42 ?_
    refine G.goto 65 F dS_doOperation_45 rfl ?_
    exact G.st (congrArg (cW X K) ((if_neg h1).trans (if_pos h2))) (hE _ _ dS_doOperation_65)
  refine G.look 48 (off := 44) F dS_doOperation_4 rfl (by show Op.lookupswitch.offset [(1, 28), (2, 36)] 44 _ = _; rw [lv_osw h1 (show (1 : Int32).toInt = 1 from rfl), lv_osw h2 (show (2 : Int32).toInt = 2 from rfl)]; rfl) rfl ?_
  refine G.aload_n 0 F dS_doOperation_48 rfl rfl ?_
  refine G.aload_n 1 F dS_doOperation_49 rfl rfl ?_
  refine G.aload_n 1 F dS_doOperation_50 rfl rfl ?_
  refine G.gT 9 15 F rfl ht (by decide) flS_190 dS_doOperation_51 ?_
  refine G.if_eq 61 F dS_doOperation_54 rfl (fun h3 => ?_) (fun h3 => ?_)
  · skip
    refine G.iconst 0 F dS_doOperation_61 (by decide) ?_
    refine G.callv F (k_conclude l D K base X t ht 0 c hI) ckS_209 cW_x rfl rfl ⟨rfl, rfl⟩ ⟨by decide, by decide⟩ ⟨Nat.zero_le _, Nat.zero_le _⟩ rfl rfl (Nat.le_of_ble_eq_true rfl) dS_doOperation_62 ?_
    exact G.st (congrArg (cW X K) ((if_neg h1).trans ((if_neg h2).trans (if_pos h3)))) (hE _ _ dS_doOperation_65)
  · skip
    refine G.iconst 1 F dS_doOperation_57 (by decide) ?_
    refine G.goto 62 F dS_doOperation_58 rfl ?_
    refine G.callv F (k_conclude l D K base X t ht 1 c hI) ckS_209 cW_x rfl rfl ⟨rfl, rfl⟩ ⟨by decide, by decide⟩ ⟨Nat.zero_le _, Nat.zero_le _⟩ rfl rfl (Nat.le_of_ble_eq_true rfl) dS_doOperation_62 ?_
    exact G.st (congrArg (cW X K) ((if_neg h1).trans ((if_neg h2).trans (if_neg h3)))) (hE _ _ dS_doOperation_65)

def f_unhangHere (t : Nat) (c : CS) : CS := (f_conclude t 1 ((f_takeOutHere t c).2))
theorem i_unhangHere (t : Nat) (ht : t < 4) (c : CS) (hI : Inv c) : Inv (f_unhangHere t c) := by
  unfold f_unhangHere
  exact (i_conclude t ht 1 ((f_takeOutHere t c).2) (i_takeOutHere t ht c hI))
set_option maxRecDepth 100000 in
set_option maxHeartbeats 4000000 in
theorem k_unhangHere (l : Launch) (D : va_G) (K : Nat → ClassId) (base : Nat) (X : Nat → Nat) (t : Nat) (ht : t < 4) (c : CS) (hI : Inv c) : CtV l D K base yS_unhangHere cS_unhangHere 2 (rmD 4) [.ref (X 0), .ref (X (24 + t))] (cW X K c) (cW X K (f_unhangHere t c)) := by
  refine CtV.enter (by decide) (Nat.le_of_ble_eq_true rfl) ?_
  intro κ A Q F hE
  show G κ l (rmD 4) A Q D 2 0 0 (cW X K c) 0 [(0, .ref (X 0)), (1, .ref (X (24 + t)))] []
  refine G.aload_n 0 F dS_unhangHere_0 rfl rfl ?_
  refine G.aload_n 1 F dS_unhangHere_1 rfl rfl ?_
  refine G.calli F (k_takeOutHere l D K base X t ht c hI) ckS_199 cW_x rfl rfl ⟨rfl, rfl⟩ ⟨by decide, by decide⟩ ⟨Nat.zero_le _, Nat.zero_le _⟩ rfl rfl (Nat.le_of_ble_eq_true rfl) dS_unhangHere_2 ?_
  refine G.pop F dS_unhangHere_5 rfl ?_
  refine G.aload_n 0 F dS_unhangHere_6 rfl rfl ?_
  refine G.aload_n 1 F dS_unhangHere_7 rfl rfl ?_
  refine G.iconst 1 F dS_unhangHere_8 (by decide) ?_
  refine G.callv F (k_conclude l D K base X t ht 1 ((f_takeOutHere t c).2) (i_takeOutHere t ht c hI)) ckS_209 cW_x rfl rfl ⟨rfl, rfl⟩ ⟨by decide, by decide⟩ ⟨Nat.zero_le _, Nat.zero_le _⟩ rfl rfl (Nat.le_of_ble_eq_true rfl) dS_unhangHere_9 ?_
  exact G.st (congrArg (cW X K) rfl) (hE _ _ dS_unhangHere_12)

def f_cutHere (t : Nat) (c : CS) : CS := (if (f_takeOutHere t c).1 = 0 then (up2 (f_takeOutHere t c).2 7 t 2) else (f_moveHereTo t ((f_takeOutHere t c).2 14 t) ((f_takeOutHere t c).2)))
theorem i_cutHere (t : Nat) (ht : t < 4) (c : CS) (hI : Inv c) : Inv (f_cutHere t c) := by
  unfold f_cutHere
  exact (ite_c (fun h1 => (Inv.upo (i_takeOutHere t ht c hI) rfl)) (fun h1 => (i_moveHereTo t ht ((f_takeOutHere t c).2 14 t) ((i_takeOutHere t ht c hI) 14 _ rfl) ((f_takeOutHere t c).2) (i_takeOutHere t ht c hI))))
set_option maxRecDepth 100000 in
set_option maxHeartbeats 4000000 in
theorem k_cutHere (l : Launch) (D : va_G) (K : Nat → ClassId) (base : Nat) (X : Nat → Nat) (t : Nat) (ht : t < 4) (c : CS) (hI : Inv c) : CtV l D K base yS_cutHere cS_cutHere 2 (rmD 4) [.ref (X 0), .ref (X (24 + t))] (cW X K c) (cW X K (f_cutHere t c)) := by
  refine CtV.enter (by decide) (Nat.le_of_ble_eq_true rfl) ?_
  intro κ A Q F hE
  show G κ l (rmD 4) A Q D 2 0 0 (cW X K c) 0 [(0, .ref (X 0)), (1, .ref (X (24 + t)))] []
  refine G.aload_n 0 F dS_cutHere_0 rfl rfl ?_
  refine G.aload_n 1 F dS_cutHere_1 rfl rfl ?_
  refine G.calli F (k_takeOutHere l D K base X t ht c hI) ckS_199 cW_x rfl rfl ⟨rfl, rfl⟩ ⟨by decide, by decide⟩ ⟨Nat.zero_le _, Nat.zero_le _⟩ rfl rfl (Nat.le_of_ble_eq_true rfl) dS_cutHere_2 ?_
  refine G.if_eq 20 F dS_cutHere_5 rfl (fun h1 => ?_) (fun h1 => ?_)
  · skip
    refine G.aload_n 1 F dS_cutHere_20 rfl rfl ?_
    refine G.iconst 2 F dS_cutHere_21 (by decide) ?_
    refine G.pT 1 7 F rfl ht (by decide) (by decide) flS_42 rfl rfl dS_cutHere_22 ?_
    exact G.st (congrArg (cW X K) (if_pos h1)) (hE _ _ dS_cutHere_25)
  · skip
    refine G.aload_n 0 F dS_cutHere_8 rfl rfl ?_
    refine G.aload_n 1 F dS_cutHere_9 rfl rfl ?_
    refine G.aload_n 1 F dS_cutHere_10 rfl rfl ?_
    refine G.gT 8 14 F rfl ht (by decide) flS_80 dS_cutHere_11 ?_
    refine G.callv F (k_moveHereTo l D K base X t ht ((f_takeOutHere t c).2 14 t) ((i_takeOutHere t ht c hI) 14 _ rfl) ((f_takeOutHere t c).2) (i_takeOutHere t ht c hI)) ckS_179 cW_x rfl rfl ⟨rfl, rfl⟩ ⟨by decide, by decide⟩ ⟨Nat.zero_le _, Nat.zero_le _⟩ rfl rfl (Nat.le_of_ble_eq_true rfl) dS_cutHere_14 ?_
    refine G.goto 25 F dS_cutHere_17 rfl ?_
    exact G.st (congrArg (cW X K) (if_neg h1)) (hE _ _ dS_cutHere_25)

def f_perform (t : Nat) (c : CS) : CS := (if c 7 t = 1 then (f_startWork t c) else (if c 7 t = 2 then (f_goToHead t c) else (if c 7 t = 3 then (f_nameHere t c) else (if c 7 t = 4 then (f_checkBack t c) else (if c 7 t = 5 then (f_readHere t c) else (if c 7 t = 6 then (f_cutHere t c) else (if c 7 t = 7 then (f_doOperation t c) else (if c 7 t = 8 then (f_hangNewBlock t c) else (if c 7 t = 9 then (f_endWork t c) else (if c 7 t = 10 then (f_unhangHere t c) else c))))))))))
theorem i_perform (t : Nat) (ht : t < 4) (c : CS) (hI : Inv c) : Inv (f_perform t c) := by
  unfold f_perform
  exact (ite_c (fun h1 => (i_startWork t ht c hI)) (fun h1 => (ite_c (fun h2 => (i_goToHead t ht c hI)) (fun h2 => (ite_c (fun h3 => (i_nameHere t ht c hI)) (fun h3 => (ite_c (fun h4 => (i_checkBack t ht c hI)) (fun h4 => (ite_c (fun h5 => (i_readHere t ht c hI)) (fun h5 => (ite_c (fun h6 => (i_cutHere t ht c hI)) (fun h6 => (ite_c (fun h7 => (i_doOperation t ht c hI)) (fun h7 => (ite_c (fun h8 => (i_hangNewBlock t ht c hI)) (fun h8 => (ite_c (fun h9 => (i_endWork t ht c hI)) (fun h9 => (ite_c (fun h10 => (i_unhangHere t ht c hI)) (fun h10 => hI))))))))))))))))))))
set_option maxRecDepth 100000 in
set_option maxHeartbeats 4000000 in
theorem k_perform (l : Launch) (D : va_G) (K : Nat → ClassId) (base : Nat) (X : Nat → Nat) (t : Nat) (ht : t < 4) (c : CS) (hI : Inv c) : CtV l D K base yS_perform cS_perform 2 (rmD 5) [.ref (X 0), .ref (X (24 + t))] (cW X K c) (cW X K (f_perform t c)) := by
  refine CtV.enter (by decide) (Nat.le_of_ble_eq_true rfl) ?_
  intro κ A Q F hE
  show G κ l (rmD 5) A Q D 2 0 0 (cW X K c) 0 [(0, .ref (X 0)), (1, .ref (X (24 + t)))] []
  refine G.aload_n 1 F dS_perform_0 rfl rfl ?_
  refine G.gT 1 7 F rfl ht (by decide) flS_42 dS_perform_1 ?_
  by_cases h1 : c 7 t = 1
  · skip
    refine G.tabIn 60 (off := 56) F dS_perform_4 (sw_lo h1 (by decide)) (sw_hi h1 (by decide)) (sw_at h1 rfl) rfl ?_
    refine G.aload_n 0 F dS_perform_60 rfl rfl ?_
    refine G.aload_n 1 F dS_perform_61 rfl rfl ?_
    refine G.callv F (k_startWork l D K base X t ht c hI) ckS_146 cW_x rfl rfl ⟨rfl, rfl⟩ ⟨by decide, by decide⟩ ⟨Nat.zero_le _, Nat.zero_le _⟩ rfl rfl (Nat.le_of_ble_eq_true rfl) dS_perform_62 ?_
    refine G.goto 140 F dS_perform_65 rfl ?_
    exact G.st (congrArg (cW X K) (if_pos h1)) (hE _ _ dS_perform_140)
  by_cases h2 : c 7 t = 2
  · skip
    refine G.tabIn 68 (off := 64) F dS_perform_4 (sw_lo h2 (by decide)) (sw_hi h2 (by decide)) (sw_at h2 rfl) rfl ?_
    refine G.aload_n 0 F dS_perform_68 rfl rfl ?_
    refine G.aload_n 1 F dS_perform_69 rfl rfl ?_
    refine G.callv F (k_goToHead l D K base X t ht c hI) ckS_149 cW_x rfl rfl ⟨rfl, rfl⟩ ⟨by decide, by decide⟩ ⟨Nat.zero_le _, Nat.zero_le _⟩ rfl rfl (Nat.le_of_ble_eq_true rfl) dS_perform_70 ?_
    refine G.goto 140 F dS_perform_73 rfl ?_
    exact G.st (congrArg (cW X K) ((if_neg h1).trans (if_pos h2))) (hE _ _ dS_perform_140)
  by_cases h3 : c 7 t = 3
  · skip
    refine G.tabIn 76 (off := 72) F dS_perform_4 (sw_lo h3 (by decide)) (sw_hi h3 (by decide)) (sw_at h3 rfl) rfl ?_
    refine G.aload_n 0 F dS_perform_76 rfl rfl ?_
    refine G.aload_n 1 F dS_perform_77 rfl rfl ?_
    refine G.callv F (k_nameHere l D K base X t ht c hI) ckS_152 cW_x rfl rfl ⟨rfl, rfl⟩ ⟨by decide, by decide⟩ ⟨Nat.zero_le _, Nat.zero_le _⟩ rfl rfl (Nat.le_of_ble_eq_true rfl) dS_perform_78 ?_
    refine G.goto 140 F dS_perform_81 rfl ?_
    exact G.st (congrArg (cW X K) ((if_neg h1).trans ((if_neg h2).trans (if_pos h3)))) (hE _ _ dS_perform_140)
  by_cases h4 : c 7 t = 4
  · skip
    refine G.tabIn 84 (off := 80) F dS_perform_4 (sw_lo h4 (by decide)) (sw_hi h4 (by decide)) (sw_at h4 rfl) rfl ?_
    refine G.aload_n 0 F dS_perform_84 rfl rfl ?_
    refine G.aload_n 1 F dS_perform_85 rfl rfl ?_
    refine G.callv F (k_checkBack l D K base X t ht c hI) ckS_155 cW_x rfl rfl ⟨rfl, rfl⟩ ⟨by decide, by decide⟩ ⟨Nat.zero_le _, Nat.zero_le _⟩ rfl rfl (Nat.le_of_ble_eq_true rfl) dS_perform_86 ?_
    refine G.goto 140 F dS_perform_89 rfl ?_
    exact G.st (congrArg (cW X K) ((if_neg h1).trans ((if_neg h2).trans ((if_neg h3).trans (if_pos h4))))) (hE _ _ dS_perform_140)
  by_cases h5 : c 7 t = 5
  · skip
    refine G.tabIn 92 (off := 88) F dS_perform_4 (sw_lo h5 (by decide)) (sw_hi h5 (by decide)) (sw_at h5 rfl) rfl ?_
    refine G.aload_n 0 F dS_perform_92 rfl rfl ?_
    refine G.aload_n 1 F dS_perform_93 rfl rfl ?_
    refine G.callv F (k_readHere l D K base X t ht c hI) ckS_158 cW_x rfl rfl ⟨rfl, rfl⟩ ⟨by decide, by decide⟩ ⟨Nat.zero_le _, Nat.zero_le _⟩ rfl rfl (Nat.le_of_ble_eq_true rfl) dS_perform_94 ?_
    refine G.goto 140 F dS_perform_97 rfl ?_
    exact G.st (congrArg (cW X K) ((if_neg h1).trans ((if_neg h2).trans ((if_neg h3).trans ((if_neg h4).trans (if_pos h5)))))) (hE _ _ dS_perform_140)
  by_cases h6 : c 7 t = 6
  · skip
    refine G.tabIn 100 (off := 96) F dS_perform_4 (sw_lo h6 (by decide)) (sw_hi h6 (by decide)) (sw_at h6 rfl) rfl ?_
    refine G.aload_n 0 F dS_perform_100 rfl rfl ?_
    refine G.aload_n 1 F dS_perform_101 rfl rfl ?_
    refine G.callv F (k_cutHere l D K base X t ht c hI) ckS_161 cW_x rfl rfl ⟨rfl, rfl⟩ ⟨by decide, by decide⟩ ⟨Nat.zero_le _, Nat.zero_le _⟩ rfl rfl (Nat.le_of_ble_eq_true rfl) dS_perform_102 ?_
    refine G.goto 140 F dS_perform_105 rfl ?_
    exact G.st (congrArg (cW X K) ((if_neg h1).trans ((if_neg h2).trans ((if_neg h3).trans ((if_neg h4).trans ((if_neg h5).trans (if_pos h6))))))) (hE _ _ dS_perform_140)
  by_cases h7 : c 7 t = 7
  · skip
    refine G.tabIn 108 (off := 104) F dS_perform_4 (sw_lo h7 (by decide)) (sw_hi h7 (by decide)) (sw_at h7 rfl) rfl ?_
    refine G.aload_n 0 F dS_perform_108 rfl rfl ?_
    refine G.aload_n 1 F dS_perform_109 rfl rfl ?_
    refine G.callv F (k_doOperation l D K base X t ht c hI) ckS_164 cW_x rfl rfl ⟨rfl, rfl⟩ ⟨by decide, by decide⟩ ⟨Nat.zero_le _, Nat.zero_le _⟩ rfl rfl (Nat.le_of_ble_eq_true rfl) dS_perform_110 ?_
    refine G.goto 140 F dS_perform_113 rfl ?_
    exact G.st (congrArg (cW X K) ((if_neg h1).trans ((if_neg h2).trans ((if_neg h3).trans ((if_neg h4).trans ((if_neg h5).trans ((if_neg h6).trans (if_pos h7)))))))) (hE _ _ dS_perform_140)
  by_cases h8 : c 7 t = 8
  · skip
    refine G.tabIn 116 (off := 112) F dS_perform_4 (sw_lo h8 (by decide)) (sw_hi h8 (by decide)) (sw_at h8 rfl) rfl ?_
    refine G.aload_n 0 F dS_perform_116 rfl rfl ?_
    refine G.aload_n 1 F dS_perform_117 rfl rfl ?_
    refine G.callv F (k_hangNewBlock l D K base X t ht c hI) ckS_167 cW_x rfl rfl ⟨rfl, rfl⟩ ⟨by decide, by decide⟩ ⟨Nat.zero_le _, Nat.zero_le _⟩ rfl rfl (Nat.le_of_ble_eq_true rfl) dS_perform_118 ?_
    refine G.goto 140 F dS_perform_121 rfl ?_
    exact G.st (congrArg (cW X K) ((if_neg h1).trans ((if_neg h2).trans ((if_neg h3).trans ((if_neg h4).trans ((if_neg h5).trans ((if_neg h6).trans ((if_neg h7).trans (if_pos h8))))))))) (hE _ _ dS_perform_140)
  by_cases h9 : c 7 t = 9
  · skip
    refine G.tabIn 124 (off := 120) F dS_perform_4 (sw_lo h9 (by decide)) (sw_hi h9 (by decide)) (sw_at h9 rfl) rfl ?_
    refine G.aload_n 0 F dS_perform_124 rfl rfl ?_
    refine G.aload_n 1 F dS_perform_125 rfl rfl ?_
    refine G.callv F (k_endWork l D K base X t ht c hI) ckS_170 cW_x rfl rfl ⟨rfl, rfl⟩ ⟨by decide, by decide⟩ ⟨Nat.zero_le _, Nat.zero_le _⟩ rfl rfl (Nat.le_of_ble_eq_true rfl) dS_perform_126 ?_
    refine G.goto 140 F dS_perform_129 rfl ?_
    exact G.st (congrArg (cW X K) ((if_neg h1).trans ((if_neg h2).trans ((if_neg h3).trans ((if_neg h4).trans ((if_neg h5).trans ((if_neg h6).trans ((if_neg h7).trans ((if_neg h8).trans (if_pos h9)))))))))) (hE _ _ dS_perform_140)
  by_cases h10 : c 7 t = 10
  · skip
    refine G.tabIn 132 (off := 128) F dS_perform_4 (sw_lo h10 (by decide)) (sw_hi h10 (by decide)) (sw_at h10 rfl) rfl ?_
    refine G.aload_n 0 F dS_perform_132 rfl rfl ?_
    refine G.aload_n 1 F dS_perform_133 rfl rfl ?_
    refine G.callv F (k_unhangHere l D K base X t ht c hI) ckS_173 cW_x rfl rfl ⟨rfl, rfl⟩ ⟨by decide, by decide⟩ ⟨Nat.zero_le _, Nat.zero_le _⟩ rfl rfl (Nat.le_of_ble_eq_true rfl) dS_perform_134 ?_
    refine G.goto 140 F dS_perform_137 rfl ?_
    exact G.st (congrArg (cW X K) ((if_neg h1).trans ((if_neg h2).trans ((if_neg h3).trans ((if_neg h4).trans ((if_neg h5).trans ((if_neg h6).trans ((if_neg h7).trans ((if_neg h8).trans ((if_neg h9).trans (if_pos h10))))))))))) (hE _ _ dS_perform_140)
  refine G.tabOut 140 F dS_perform_4 (by have e0 := lv_neT h1 (show (1 : Int32).toInt = 1 from rfl); have e1 := lv_neT h2 (show (2 : Int32).toInt = 2 from rfl); have e2 := lv_neT h3 (show (3 : Int32).toInt = 3 from rfl); have e3 := lv_neT h4 (show (4 : Int32).toInt = 4 from rfl); have e4 := lv_neT h5 (show (5 : Int32).toInt = 5 from rfl); have e5 := lv_neT h6 (show (6 : Int32).toInt = 6 from rfl); have e6 := lv_neT h7 (show (7 : Int32).toInt = 7 from rfl); have e7 := lv_neT h8 (show (8 : Int32).toInt = 8 from rfl); have e8 := lv_neT h9 (show (9 : Int32).toInt = 9 from rfl); have e9 := lv_neT h10 (show (10 : Int32).toInt = 10 from rfl); omega) rfl ?_
  exact G.st (congrArg (cW X K) ((if_neg h1).trans ((if_neg h2).trans ((if_neg h3).trans ((if_neg h4).trans ((if_neg h5).trans ((if_neg h6).trans ((if_neg h7).trans ((if_neg h8).trans ((if_neg h9).trans (if_neg h10))))))))))) (hE _ _ dS_perform_140)

def f_step (t : Nat) (c : CS) : Int32 × CS := ((f_perform t c) 7 t, (f_perform t c))
theorem i_step (t : Nat) (ht : t < 4) (c : CS) (hI : Inv c) (hb : ¬ c 7 t = 0) : Inv (f_step t c).2 := by
  unfold f_step
  exact (i_perform t ht c hI)
set_option maxRecDepth 100000 in
set_option maxHeartbeats 4000000 in
theorem k_step (l : Launch) (D : va_G) (K : Nat → ClassId) (base : Nat) (X : Nat → Nat) (t : Nat) (ht : t < 4) (c : CS) (hI : Inv c) (hb : ¬ c 7 t = 0) : CtI l D K base yS_step cS_step 3 .int (rmD 6) [.ref (X 0), .int (nI t)] (cW X K c) (f_step t c).1 (cW X K (f_step t c).2) := by
  refine CtI.enter (by decide) (Nat.le_of_ble_eq_true rfl) ?_
  intro κ A Q F hE
  show G κ l (rmD 6) A Q D 3 0 0 (cW X K c) 0 [(0, .ref (X 0)), (1, .int (nI t))] []
  refine G.aload_n 0 F dS_step_0 rfl rfl ?_
  refine G.iload_n 1 F dS_step_1 rfl rfl ?_
  refine G.callr F (k_busyWorkerOf l D K base X t ht c hI hb) ckS_59 cW_x rfl rfl ⟨rfl, rfl⟩ ⟨by decide, by decide⟩ ⟨Nat.zero_le _, Nat.zero_le _⟩ rfl rfl (Nat.le_of_ble_eq_true rfl) dS_step_2 ?_
  refine G.astore_nN F dS_step_5 rfl (by decide) rfl ?_
  refine G.aload_n 1 F dS_step_6 rfl rfl ?_
  refine G.aload_n 0 F dS_step_7 rfl rfl ?_
  refine G.callv F (k_perform l D K base X t ht c hI) ckS_62 cW_x rfl rfl ⟨rfl, rfl⟩ ⟨by decide, by decide⟩ ⟨Nat.zero_le _, Nat.zero_le _⟩ rfl rfl (Nat.le_of_ble_eq_true rfl) dS_step_8 ?_
  refine G.aload_n 0 F dS_step_11 rfl rfl ?_
  refine G.gT 1 7 F rfl ht (by decide) flS_42 dS_step_12 ?_
  have hr9 : f_step t c = ((f_perform t c) 7 t, (f_perform t c)) := rfl
  exact G.st (congrArg (fun z : Int32 × CS => cW X K z.2) hr9) (hE _ _ ((f_perform t c) 7 t) dS_step_15 rfl (congrArg Prod.fst hr9).symm)

def fl_finish_8 (t : Nat) : Nat → Nat → CS → Int32 × CS
  | 0, _, c9 => (nI 300, c9)
  | n + 1, k, c9 => (if c9 7 t = 0 then (nI k, c9) else (fl_finish_8 t n (k + 1) (f_perform t c9)))
def f_finish (t : Nat) (c : CS) : Int32 × CS := (fl_finish_8 t 300 0 c)
theorem i_fl_finish_8 (t : Nat) (ht : t < 4) : ∀ (n k : Nat) (c9 : CS), k + n = 300 → Inv c9 → Inv (fl_finish_8 t n k c9).2 := by
  intro n
  induction n with
  | zero =>
    intro k c9 hkn hI9
    exact hI9
  | succ n ih =>
    intro k c9 hkn hI9
    have hk : k < 300 := by omega
    unfold fl_finish_8
    exact (ite_c2 (fun h1 => hI9) (fun h1 => (ih (k + 1) _ (by omega) (i_perform t ht c9 hI9))))
theorem i_finish (t : Nat) (ht : t < 4) (c : CS) (hI : Inv c) (hb : ¬ c 7 t = 0) : Inv (f_finish t c).2 := by
  unfold f_finish
  exact (i_fl_finish_8 t ht 300 0 _ (by decide) hI)
set_option maxRecDepth 100000 in
set_option maxHeartbeats 4000000 in
theorem k_finish (l : Launch) (D : va_G) (K : Nat → ClassId) (base : Nat) (X : Nat → Nat) (t : Nat) (ht : t < 4) (c : CS) (hI : Inv c) (hb : ¬ c 7 t = 0) : CtI l D K base yS_finish cS_finish 4 .int (rmD 6) [.ref (X 0), .int (nI t)] (cW X K c) (f_finish t c).1 (cW X K (f_finish t c).2) := by
  refine CtI.enter (by decide) (Nat.le_of_ble_eq_true rfl) ?_
  intro κ A Q F hE
  show G κ l (rmD 6) A Q D 4 0 0 (cW X K c) 0 [(0, .ref (X 0)), (1, .int (nI t))] []
  have hloop8 : ∀ (n k : Nat) (c9 : CS), k + n = 300 → Inv c9 → f_finish t c = fl_finish_8 t n k c9 → G κ l (rmD 6) A Q D 4 0 0 (cW X K c9) 8 [(3, .int (nI k)), (2, .ref (X (24 + t))), (0, .ref (X 0)), (1, .int (nI t))] [] := by
    intro n
    induction n with
    | zero =>
      intro k c9 hkn hI9 hρ
      obtain rfl : k = 300 := by omega
      refine G.iload_n 0 F dS_finish_8 rfl rfl ?_
      refine G.sipush 300 F dS_finish_9 (by decide) ?_
      refine G.icmp_ge 33 F dS_finish_12 rfl (fun _ => ?_) (fun h9 => absurd (by decide) h9)
      refine G.iload_n 0 F dS_finish_33 rfl rfl ?_
      have hr9 : f_finish t c = (nI 300, c9) := hρ
      exact G.st (congrArg (fun z : Int32 × CS => cW X K z.2) hr9) (hE _ _ (nI 300) dS_finish_34 rfl (congrArg Prod.fst hr9).symm)
    | succ n ih =>
      intro k c9 hkn hI9 hρ
      have hk : k < 300 := by omega
      refine G.iload_n 0 F dS_finish_8 rfl rfl ?_
      refine G.sipush 300 F dS_finish_9 (by decide) ?_
      refine G.icmp_ge 33 F dS_finish_12 rfl (fun h9 => absurd h9 (nI_ge (b := 300) (Nat.lt_of_lt_of_le hk (by decide)) (by decide))) (fun _ => ?_)
      refine G.aload_n 1 F dS_finish_15 rfl rfl ?_
      refine G.gT 1 7 F rfl ht (by decide) flS_42 dS_finish_16 ?_
      refine G.if_eq 33 F dS_finish_19 rfl (fun h1 => ?_) (fun h1 => ?_)
      · skip
        refine G.iload_n 0 F dS_finish_33 rfl rfl ?_
        have hr9 : f_finish t c = (nI k, c9) := hρ.trans (if_pos h1)
        exact G.st (congrArg (fun z : Int32 × CS => cW X K z.2) hr9) (hE _ _ (nI k) dS_finish_34 rfl (congrArg Prod.fst hr9).symm)
      · skip
        refine G.aload_n 2 F dS_finish_22 rfl rfl ?_
        refine G.aload_n 1 F dS_finish_23 rfl rfl ?_
        refine G.callv F (k_perform l D K base X t ht c9 hI9) ckS_62 cW_x rfl rfl ⟨rfl, rfl⟩ ⟨by decide, by decide⟩ ⟨Nat.zero_le _, Nat.zero_le _⟩ rfl rfl (Nat.le_of_ble_eq_true rfl) dS_finish_24 ?_
        refine G.iinc 0 (nI (k + 1)) F dS_finish_27 rfl (nI_succ k).symm (by decide) rfl ?_
        refine G.goto 8 F dS_finish_30 rfl ?_
        exact ih (k + 1) _ (by omega) (i_perform t ht c9 hI9) (hρ.trans (if_neg h1))
  refine G.aload_n 0 F dS_finish_0 rfl rfl ?_
  refine G.iload_n 1 F dS_finish_1 rfl rfl ?_
  refine G.callr F (k_busyWorkerOf l D K base X t ht c hI hb) ckS_59 cW_x rfl rfl ⟨rfl, rfl⟩ ⟨by decide, by decide⟩ ⟨Nat.zero_le _, Nat.zero_le _⟩ rfl rfl (Nat.le_of_ble_eq_true rfl) dS_finish_2 ?_
  refine G.astore_nN F dS_finish_5 rfl (by decide) rfl ?_
  refine G.iconst 0 F dS_finish_6 (by decide) ?_
  refine G.istore_nN F dS_finish_7 rfl (by decide) rfl ?_
  exact hloop8 300 0 _ (by decide) hI rfl

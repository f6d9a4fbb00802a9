def f_m_resultg (t : Nat) (m : CS) : Int32 × CS := (if 0 ≤ m 17 t then (m 17 t, (up2 m 20 0 0)) else (0, (up2 m 20 0 2)))
theorem i_m_resultg (t : Nat) (ht : t < 4) (m : CS) (hI : InvM m) : InvM (f_m_resultg t m).2 := by
  unfold f_m_resultg
  exact (ite_m2 (fun h1 => (InvM.upo hI rfl)) (fun h1 => (InvM.upo hI rfl)))
set_option maxRecDepth 100000 in
set_option maxHeartbeats 4000000 in
theorem k_m_resultg (l : Launch) (D : va_G) (K : Nat → ClassId) (base : Nat) (Y : Nat → Nat) (t : Nat) (ht : t < 4) (m : CS) (hI : InvM m) : CtI l D K base yM_result cM_result 2 .int (rmD 1) [.ref (Y 0), .int (nI t)] (mW Y K m) (f_m_resultg t m).1 (mW Y K (f_m_resultg t m).2) := by
  refine CtI.enter (by decide) (Nat.le_of_ble_eq_true rfl) ?_
  intro κ A Q F hE
  show G κ l (rmD 1) A Q D 2 0 0 (mW Y K m) 0 [(0, .ref (Y 0)), (1, .int (nI t))] []
  refine G.aload_n 0 F dM_result_0 rfl rfl ?_
  refine G.iload_n 1 F dM_result_1 rfl rfl ?_
  refine G.callsi F (k_m_isThread l D K base Y (nI t) m hI) ckM_78 ⟨rfl, rfl⟩ ⟨by decide, by decide⟩ ⟨Nat.zero_le _, Nat.zero_le _⟩ rfl rfl (Nat.le_of_ble_eq_true rfl) dM_result_2 ?_
  refine G.if_ne 12 F dM_result_5 rfl (fun _ => ?_) (fun h9 => absurd h9 (isT ht m))
  refine G.aload_n 0 F dM_result_12 rfl rfl ?_
  refine G.gM 21 F (by decide) flM_62 rfl dM_result_13 ?_
  refine G.iload_n 1 F dM_result_16 rfl rfl ?_
  refine G.ldMn 17 F (by decide) rfl (k := t) rfl ht dM_result_17 ?_
  refine G.if_ge 25 F dM_result_18 rfl (fun h1 => ?_) (fun h1 => ?_)
  · skip
    refine G.iconst 0 F dM_result_25 (by decide) ?_
    refine G.pM 0 F (by decide) flM_75 dM_result_26 ?_
    refine G.aload_n 0 F dM_result_29 rfl rfl ?_
    refine G.gM 0 F (by decide) flM_75 rfl dM_result_30 ?_
    refine G.tope (y := 0) (up2_eq _ _ _ _) ?_
    refine G.if_le 40 F dM_result_33 rfl (fun _ => ?_) (fun h9 => absurd (by decide) h9)
    refine G.aload_n 0 F dM_result_40 rfl rfl ?_
    refine G.gM 21 F (by decide) flM_62 rfl dM_result_41 ?_
    refine G.iload_n 1 F dM_result_44 rfl rfl ?_
    refine G.ldMn 17 F (by decide) rfl (k := t) rfl ht dM_result_45 ?_
    refine G.tope (y := m 17 t) (up2_f _ _ _ _ (by decide)) ?_
    have hr9 : f_m_resultg t m = (m 17 t, (up2 m 20 0 0)) := (if_pos h1)
    exact G.st (congrArg (fun z : Int32 × CS => mW Y K z.2) hr9) (hE _ _ (m 17 t) dM_result_46 rfl (congrArg Prod.fst hr9).symm)
  · skip
    refine G.iconst 2 F dM_result_21 (by decide) ?_
    refine G.goto 26 F dM_result_22 rfl ?_
    refine G.pM 0 F (by decide) flM_75 dM_result_26 ?_
    refine G.aload_n 0 F dM_result_29 rfl rfl ?_
    refine G.gM 0 F (by decide) flM_75 rfl dM_result_30 ?_
    refine G.tope (y := 2) (up2_eq _ _ _ _) ?_
    refine G.if_le 40 F dM_result_33 rfl (fun h9 => absurd h9 (by decide)) (fun _ => ?_)
    refine G.iconst 0 F dM_result_36 (by decide) ?_
    refine G.goto 46 F dM_result_37 rfl ?_
    have hr9 : f_m_resultg t m = (0, (up2 m 20 0 2)) := (if_neg h1)
    exact G.st (congrArg (fun z : Int32 × CS => mW Y K z.2) hr9) (hE _ _ 0 dM_result_46 rfl (congrArg Prod.fst hr9).symm)

def f_m_atg (t : Nat) (m : CS) : Int32 × CS := (m 6 t, (up2 m 20 0 0))
theorem i_m_atg (t : Nat) (ht : t < 4) (m : CS) (hI : InvM m) : InvM (f_m_atg t m).2 := by
  unfold f_m_atg
  exact (InvM.upo hI rfl)
set_option maxRecDepth 100000 in
set_option maxHeartbeats 4000000 in
theorem k_m_atg (l : Launch) (D : va_G) (K : Nat → ClassId) (base : Nat) (Y : Nat → Nat) (t : Nat) (ht : t < 4) (m : CS) (hI : InvM m) : CtI l D K base yM_at cM_at 2 .int (rmD 1) [.ref (Y 0), .int (nI t)] (mW Y K m) (f_m_atg t m).1 (mW Y K (f_m_atg t m).2) := by
  refine CtI.enter (by decide) (Nat.le_of_ble_eq_true rfl) ?_
  intro κ A Q F hE
  show G κ l (rmD 1) A Q D 2 0 0 (mW Y K m) 0 [(0, .ref (Y 0)), (1, .int (nI t))] []
  refine G.aload_n 0 F dM_at_0 rfl rfl ?_
  refine G.iload_n 1 F dM_at_1 rfl rfl ?_
  refine G.callsi F (k_m_isThread l D K base Y (nI t) m hI) ckM_78 ⟨rfl, rfl⟩ ⟨by decide, by decide⟩ ⟨Nat.zero_le _, Nat.zero_le _⟩ rfl rfl (Nat.le_of_ble_eq_true rfl) dM_at_2 ?_
  refine G.if_eq 12 F dM_at_5 rfl (fun h9 => absurd h9 (isT ht m)) (fun _ => ?_)
  refine G.iconst 0 F dM_at_8 (by decide) ?_
  refine G.goto 13 F dM_at_9 rfl ?_
  refine G.pM 0 F (by decide) flM_75 dM_at_13 ?_
  refine G.aload_n 0 F dM_at_16 rfl rfl ?_
  refine G.gM 0 F (by decide) flM_75 rfl dM_at_17 ?_
  refine G.tope (y := 0) (up2_eq _ _ _ _) ?_
  refine G.if_le 27 F dM_at_20 rfl (fun _ => ?_) (fun h9 => absurd (by decide) h9)
  refine G.aload_n 0 F dM_at_27 rfl rfl ?_
  refine G.gM 10 F (by decide) flM_29 rfl dM_at_28 ?_
  refine G.iload_n 1 F dM_at_31 rfl rfl ?_
  refine G.ldMn 6 F (by decide) rfl (k := t) rfl ht dM_at_32 ?_
  refine G.tope (y := m 6 t) (up2_f _ _ _ _ (by decide)) ?_
  have hr9 : f_m_atg t m = (m 6 t, (up2 m 20 0 0)) := rfl
  exact G.st (congrArg (fun z : Int32 × CS => mW Y K z.2) hr9) (hE _ _ (m 6 t) dM_at_33 rfl (congrArg Prod.fst hr9).symm)

def f_m_knowng (t : Nat) (w : Int32) (m : CS) : Int32 × CS := (if w < 0 then (0, (up2 m 20 0 1)) else (if 3 < w then (0, (up2 m 20 0 1)) else (if w = 0 then (m 9 t, (up2 m 20 0 0)) else (if w = 1 then (m 11 t, (up2 m 20 0 0)) else (if w = 2 then (m 13 t, (up2 m 20 0 0)) else (m 15 t, (up2 m 20 0 0)))))))
theorem i_m_knowng (t : Nat) (ht : t < 4) (w : Int32) (m : CS) (hI : InvM m) : InvM (f_m_knowng t w m).2 := by
  unfold f_m_knowng
  exact (ite_m2 (fun h1 => (InvM.upo hI rfl)) (fun h1 => (ite_m2 (fun h2 => (InvM.upo hI rfl)) (fun h2 => (ite_m2 (fun h3 => (InvM.upo hI rfl)) (fun h3 => (ite_m2 (fun h4 => (InvM.upo hI rfl)) (fun h4 => (ite_m2 (fun h5 => (InvM.upo hI rfl)) (fun h5 => (InvM.upo hI rfl)))))))))))
set_option maxRecDepth 100000 in
set_option maxHeartbeats 4000000 in
theorem k_m_knowng (l : Launch) (D : va_G) (K : Nat → ClassId) (base : Nat) (Y : Nat → Nat) (t : Nat) (ht : t < 4) (w : Int32) (m : CS) (hI : InvM m) : CtI l D K base yM_known cM_known 3 .int (rmD 1) [.ref (Y 0), .int (nI t), .int w] (mW Y K m) (f_m_knowng t w m).1 (mW Y K (f_m_knowng t w m).2) := by
  refine CtI.enter (by decide) (Nat.le_of_ble_eq_true rfl) ?_
  intro κ A Q F hE
  show G κ l (rmD 1) A Q D 3 0 0 (mW Y K m) 0 [(0, .ref (Y 0)), (1, .int (nI t)), (2, .int w)] []
  refine G.aload_n 0 F dM_known_0 rfl rfl ?_
  refine G.iload_n 1 F dM_known_1 rfl rfl ?_
  refine G.callsi F (k_m_isThread l D K base Y (nI t) m hI) ckM_78 ⟨rfl, rfl⟩ ⟨by decide, by decide⟩ ⟨Nat.zero_le _, Nat.zero_le _⟩ rfl rfl (Nat.le_of_ble_eq_true rfl) dM_known_2 ?_
  refine G.if_eq 21 F dM_known_5 rfl (fun h9 => absurd h9 (isT ht m)) (fun _ => ?_)
  refine G.iload_n 2 F dM_known_8 rfl rfl ?_
  refine G.if_lt 21 F dM_known_9 rfl (fun h1 => ?_) (fun h1 => ?_)
  · skip
    refine G.iconst 1 F dM_known_21 (by decide) ?_
    refine G.pM 0 F (by decide) flM_75 dM_known_22 ?_
    refine G.aload_n 0 F dM_known_25 rfl rfl ?_
    refine G.gM 0 F (by decide) flM_75 rfl dM_known_26 ?_
    refine G.tope (y := 1) (up2_eq _ _ _ _) ?_
    refine G.if_le 34 F dM_known_29 rfl (fun h9 => absurd h9 (by decide)) (fun _ => ?_)
    refine G.iconst 0 F dM_known_32 (by decide) ?_
    have hr9 : f_m_knowng t w m = (0, (up2 m 20 0 1)) := (if_pos h1)
    exact G.st (congrArg (fun z : Int32 × CS => mW Y K z.2) hr9) (hE _ _ 0 dM_known_33 rfl (congrArg Prod.fst hr9).symm)
  · skip
    refine G.iload_n 2 F dM_known_12 rfl rfl ?_
    refine G.iconst 3 F dM_known_13 (by decide) ?_
    refine G.icmp_gt 21 F dM_known_14 rfl (fun h2 => ?_) (fun h2 => ?_)
    · skip
      refine G.iconst 1 F dM_known_21 (by decide) ?_
      refine G.pM 0 F (by decide) flM_75 dM_known_22 ?_
      refine G.aload_n 0 F dM_known_25 rfl rfl ?_
      refine G.gM 0 F (by decide) flM_75 rfl dM_known_26 ?_
      refine G.tope (y := 1) (up2_eq _ _ _ _) ?_
      refine G.if_le 34 F dM_known_29 rfl (fun h9 => absurd h9 (by decide)) (fun _ => ?_)
      refine G.iconst 0 F dM_known_32 (by decide) ?_
      have hr9 : f_m_knowng t w m = (0, (up2 m 20 0 1)) := (if_neg h1).trans (if_pos h2)
      exact G.st (congrArg (fun z : Int32 × CS => mW Y K z.2) hr9) (hE _ _ 0 dM_known_33 rfl (congrArg Prod.fst hr9).symm)
    · skip
      refine G.iconst 0 F dM_known_17 (by decide) ?_
      refine G.goto 22 F dM_known_18 rfl ?_
      refine G.pM 0 F (by decide) flM_75 dM_known_22 ?_
      refine G.aload_n 0 F dM_known_25 rfl rfl ?_
      refine G.gM 0 F (by decide) flM_75 rfl dM_known_26 ?_
      refine G.tope (y := 0) (up2_eq _ _ _ _) ?_
      refine G.if_le 34 F dM_known_29 rfl (fun _ => ?_) (fun h9 => absurd (by decide) h9)
      refine G.iload_n 2 F dM_known_34 rfl rfl ?_
      refine G.if_ne 47 F dM_known_35 rfl (fun h3 => ?_) (fun h3 => ?_)
      · skip
        refine G.iload_n 2 F dM_known_47 rfl rfl ?_
        refine G.iconst 1 F dM_known_48 (by decide) ?_
        refine G.icmp_ne 61 F dM_known_49 rfl (fun h4 => ?_) (fun h4 => ?_)
        · skip
          refine G.iload_n 2 F dM_known_61 rfl rfl ?_
          refine G.iconst 2 F dM_known_62 (by decide) ?_
          refine G.icmp_ne 75 F dM_known_63 rfl (fun h5 => ?_) (fun h5 => ?_)
          · skip
            refine G.aload_n 0 F dM_known_75 rfl rfl ?_
            refine G.gM 19 F (by decide) flM_56 rfl dM_known_76 ?_
            refine G.iload_n 1 F dM_known_79 rfl rfl ?_
            refine G.ldMn 15 F (by decide) rfl (k := t) rfl ht dM_known_80 ?_
            refine G.tope (y := m 15 t) (up2_f _ _ _ _ (by decide)) ?_
            have hr9 : f_m_knowng t w m = (m 15 t, (up2 m 20 0 0)) := (if_neg h1).trans ((if_neg h2).trans ((if_neg h3).trans ((if_neg h4).trans (if_neg h5))))
            exact G.st (congrArg (fun z : Int32 × CS => mW Y K z.2) hr9) (hE _ _ (m 15 t) dM_known_81 rfl (congrArg Prod.fst hr9).symm)
          · skip
            refine G.aload_n 0 F dM_known_66 rfl rfl ?_
            refine G.gM 17 F (by decide) flM_50 rfl dM_known_67 ?_
            refine G.iload_n 1 F dM_known_70 rfl rfl ?_
            refine G.ldMn 13 F (by decide) rfl (k := t) rfl ht dM_known_71 ?_
            refine G.tope (y := m 13 t) (up2_f _ _ _ _ (by decide)) ?_
            refine G.goto 81 F dM_known_72 rfl ?_
            have hr9 : f_m_knowng t w m = (m 13 t, (up2 m 20 0 0)) := (if_neg h1).trans ((if_neg h2).trans ((if_neg h3).trans ((if_neg h4).trans (if_pos h5))))
            exact G.st (congrArg (fun z : Int32 × CS => mW Y K z.2) hr9) (hE _ _ (m 13 t) dM_known_81 rfl (congrArg Prod.fst hr9).symm)
        · skip
          refine G.aload_n 0 F dM_known_52 rfl rfl ?_
          refine G.gM 15 F (by decide) flM_44 rfl dM_known_53 ?_
          refine G.iload_n 1 F dM_known_56 rfl rfl ?_
          refine G.ldMn 11 F (by decide) rfl (k := t) rfl ht dM_known_57 ?_
          refine G.tope (y := m 11 t) (up2_f _ _ _ _ (by decide)) ?_
          refine G.goto 81 F dM_known_58 rfl ?_
          have hr9 : f_m_knowng t w m = (m 11 t, (up2 m 20 0 0)) := (if_neg h1).trans ((if_neg h2).trans ((if_neg h3).trans (if_pos h4)))
          exact G.st (congrArg (fun z : Int32 × CS => mW Y K z.2) hr9) (hE _ _ (m 11 t) dM_known_81 rfl (congrArg Prod.fst hr9).symm)
      · skip
        refine G.aload_n 0 F dM_known_38 rfl rfl ?_
        refine G.gM 13 F (by decide) flM_38 rfl dM_known_39 ?_
        refine G.iload_n 1 F dM_known_42 rfl rfl ?_
        refine G.ldMn 9 F (by decide) rfl (k := t) rfl ht dM_known_43 ?_
        refine G.tope (y := m 9 t) (up2_f _ _ _ _ (by decide)) ?_
        refine G.goto 81 F dM_known_44 rfl ?_
        have hr9 : f_m_knowng t w m = (m 9 t, (up2 m 20 0 0)) := (if_neg h1).trans ((if_neg h2).trans (if_pos h3))
        exact G.st (congrArg (fun z : Int32 × CS => mW Y K z.2) hr9) (hE _ _ (m 9 t) dM_known_81 rfl (congrArg Prod.fst hr9).symm)

def f_m_says0 (t : Nat) (m : CS) : Int32 × CS := (if m 19 ((2 * t) + 0) = 0 then ((-1), (up2 m 20 0 0)) else (m 19 ((2 * t) + 0), (up2 m 20 0 0)))
theorem i_m_says0 (t : Nat) (ht : t < 4) (m : CS) (hI : InvM m) : InvM (f_m_says0 t m).2 := by
  unfold f_m_says0
  exact (ite_m2 (fun h1 => (InvM.upo hI rfl)) (fun h1 => (InvM.upo hI rfl)))
set_option maxRecDepth 100000 in
set_option maxHeartbeats 4000000 in
theorem k_m_says0 (l : Launch) (D : va_G) (K : Nat → ClassId) (base : Nat) (Y : Nat → Nat) (t : Nat) (ht : t < 4) (m : CS) (hI : InvM m) : CtI l D K base yM_says cM_says 4 .int (rmD 1) [.ref (Y 0), .int (nI t), .int 0] (mW Y K m) (f_m_says0 t m).1 (mW Y K (f_m_says0 t m).2) := by
  refine CtI.enter (by decide) (Nat.le_of_ble_eq_true rfl) ?_
  intro κ A Q F hE
  show G κ l (rmD 1) A Q D 4 0 0 (mW Y K m) 0 [(0, .ref (Y 0)), (1, .int (nI t)), (2, .int 0)] []
  refine G.aload_n 0 F dM_says_0 rfl rfl ?_
  refine G.iload_n 1 F dM_says_1 rfl rfl ?_
  refine G.callsi F (k_m_isThread l D K base Y (nI t) m hI) ckM_78 ⟨rfl, rfl⟩ ⟨by decide, by decide⟩ ⟨Nat.zero_le _, Nat.zero_le _⟩ rfl rfl (Nat.le_of_ble_eq_true rfl) dM_says_2 ?_
  refine G.if_eq 21 F dM_says_5 rfl (fun h9 => absurd h9 (isT ht m)) (fun _ => ?_)
  refine G.iload_n 2 F dM_says_8 rfl rfl ?_
  refine G.if_lt 21 F dM_says_9 rfl (fun h9 => absurd h9 (by decide)) (fun _ => ?_)
  refine G.iload_n 2 F dM_says_12 rfl rfl ?_
  refine G.iconst 2 F dM_says_13 (by decide) ?_
  refine G.icmp_gt 21 F dM_says_14 rfl (fun h9 => absurd h9 (by decide)) (fun _ => ?_)
  refine G.iconst 0 F dM_says_17 (by decide) ?_
  refine G.goto 22 F dM_says_18 rfl ?_
  refine G.pM 0 F (by decide) flM_75 dM_says_22 ?_
  refine G.aload_n 0 F dM_says_25 rfl rfl ?_
  refine G.gM 0 F (by decide) flM_75 rfl dM_says_26 ?_
  refine G.tope (y := 0) (up2_eq _ _ _ _) ?_
  refine G.if_le 34 F dM_says_29 rfl (fun _ => ?_) (fun h9 => absurd (by decide) h9)
  refine G.iload_n 2 F dM_says_34 rfl rfl ?_
  refine G.iconst 2 F dM_says_35 (by decide) ?_
  refine G.icmp_ne 46 F dM_says_36 rfl (fun _ => ?_) (fun h9 => absurd h9 (by decide))
  refine G.aload_n 0 F dM_says_46 rfl rfl ?_
  refine G.gM 23 F (by decide) flM_68 rfl dM_says_47 ?_
  refine G.iconst 2 F dM_says_50 (by decide) ?_
  refine G.iload_n 1 F dM_says_51 rfl rfl ?_
  refine G.imul F dM_says_52 ?_
  refine G.tope (y := nI (2 * t)) (pk_mul 2 t) ?_
  refine G.iload_n 2 F dM_says_53 rfl rfl ?_
  refine G.iadd F dM_says_54 ?_
  refine G.tope (y := nI ((2 * t) + 0)) (nI_add (2 * t) 0) ?_
  refine G.ldMn 19 F (by decide) rfl (k := ((2 * t) + 0)) rfl (show (2 * t) + 0 < 8 by omega) dM_says_55 ?_
  refine G.tope (y := m 19 ((2 * t) + 0)) (up2_f _ _ _ _ (by decide)) ?_
  refine G.istore_nN F dM_says_56 rfl (by decide) rfl ?_
  refine G.iload_n 0 F dM_says_57 rfl rfl ?_
  refine G.if_ne 65 F dM_says_58 rfl (fun h1 => ?_) (fun h1 => ?_)
  · skip
    refine G.iload_n 0 F dM_says_65 rfl rfl ?_
    have hr9 : f_m_says0 t m = (m 19 ((2 * t) + 0), (up2 m 20 0 0)) := (if_neg h1)
    exact G.st (congrArg (fun z : Int32 × CS => mW Y K z.2) hr9) (hE _ _ (m 19 ((2 * t) + 0)) dM_says_66 rfl (congrArg Prod.fst hr9).symm)
  · skip
    refine G.iconst (-1) F dM_says_61 (by decide) ?_
    refine G.goto 66 F dM_says_62 rfl ?_
    have hr9 : f_m_says0 t m = ((-1), (up2 m 20 0 0)) := (if_pos h1)
    exact G.st (congrArg (fun z : Int32 × CS => mW Y K z.2) hr9) (hE _ _ (-1) dM_says_66 rfl (congrArg Prod.fst hr9).symm)

def f_m_says1 (t : Nat) (m : CS) : Int32 × CS := (if m 19 ((2 * t) + 1) = 0 then ((-1), (up2 m 20 0 0)) else (m 19 ((2 * t) + 1), (up2 m 20 0 0)))
theorem i_m_says1 (t : Nat) (ht : t < 4) (m : CS) (hI : InvM m) : InvM (f_m_says1 t m).2 := by
  unfold f_m_says1
  exact (ite_m2 (fun h1 => (InvM.upo hI rfl)) (fun h1 => (InvM.upo hI rfl)))
set_option maxRecDepth 100000 in
set_option maxHeartbeats 4000000 in
theorem k_m_says1 (l : Launch) (D : va_G) (K : Nat → ClassId) (base : Nat) (Y : Nat → Nat) (t : Nat) (ht : t < 4) (m : CS) (hI : InvM m) : CtI l D K base yM_says cM_says 4 .int (rmD 1) [.ref (Y 0), .int (nI t), .int 1] (mW Y K m) (f_m_says1 t m).1 (mW Y K (f_m_says1 t m).2) := by
  refine CtI.enter (by decide) (Nat.le_of_ble_eq_true rfl) ?_
  intro κ A Q F hE
  show G κ l (rmD 1) A Q D 4 0 0 (mW Y K m) 0 [(0, .ref (Y 0)), (1, .int (nI t)), (2, .int 1)] []
  refine G.aload_n 0 F dM_says_0 rfl rfl ?_
  refine G.iload_n 1 F dM_says_1 rfl rfl ?_
  refine G.callsi F (k_m_isThread l D K base Y (nI t) m hI) ckM_78 ⟨rfl, rfl⟩ ⟨by decide, by decide⟩ ⟨Nat.zero_le _, Nat.zero_le _⟩ rfl rfl (Nat.le_of_ble_eq_true rfl) dM_says_2 ?_
  refine G.if_eq 21 F dM_says_5 rfl (fun h9 => absurd h9 (isT ht m)) (fun _ => ?_)
  refine G.iload_n 2 F dM_says_8 rfl rfl ?_
  refine G.if_lt 21 F dM_says_9 rfl (fun h9 => absurd h9 (by decide)) (fun _ => ?_)
  refine G.iload_n 2 F dM_says_12 rfl rfl ?_
  refine G.iconst 2 F dM_says_13 (by decide) ?_
  refine G.icmp_gt 21 F dM_says_14 rfl (fun h9 => absurd h9 (by decide)) (fun _ => ?_)
  refine G.iconst 0 F dM_says_17 (by decide) ?_
  refine G.goto 22 F dM_says_18 rfl ?_
  refine G.pM 0 F (by decide) flM_75 dM_says_22 ?_
  refine G.aload_n 0 F dM_says_25 rfl rfl ?_
  refine G.gM 0 F (by decide) flM_75 rfl dM_says_26 ?_
  refine G.tope (y := 0) (up2_eq _ _ _ _) ?_
  refine G.if_le 34 F dM_says_29 rfl (fun _ => ?_) (fun h9 => absurd (by decide) h9)
  refine G.iload_n 2 F dM_says_34 rfl rfl ?_
  refine G.iconst 2 F dM_says_35 (by decide) ?_
  refine G.icmp_ne 46 F dM_says_36 rfl (fun _ => ?_) (fun h9 => absurd h9 (by decide))
  refine G.aload_n 0 F dM_says_46 rfl rfl ?_
  refine G.gM 23 F (by decide) flM_68 rfl dM_says_47 ?_
  refine G.iconst 2 F dM_says_50 (by decide) ?_
  refine G.iload_n 1 F dM_says_51 rfl rfl ?_
  refine G.imul F dM_says_52 ?_
  refine G.tope (y := nI (2 * t)) (pk_mul 2 t) ?_
  refine G.iload_n 2 F dM_says_53 rfl rfl ?_
  refine G.iadd F dM_says_54 ?_
  refine G.tope (y := nI ((2 * t) + 1)) (nI_add (2 * t) 1) ?_
  refine G.ldMn 19 F (by decide) rfl (k := ((2 * t) + 1)) rfl (show (2 * t) + 1 < 8 by omega) dM_says_55 ?_
  refine G.tope (y := m 19 ((2 * t) + 1)) (up2_f _ _ _ _ (by decide)) ?_
  refine G.istore_nN F dM_says_56 rfl (by decide) rfl ?_
  refine G.iload_n 0 F dM_says_57 rfl rfl ?_
  refine G.if_ne 65 F dM_says_58 rfl (fun h1 => ?_) (fun h1 => ?_)
  · skip
    refine G.iload_n 0 F dM_says_65 rfl rfl ?_
    have hr9 : f_m_says1 t m = (m 19 ((2 * t) + 1), (up2 m 20 0 0)) := (if_neg h1)
    exact G.st (congrArg (fun z : Int32 × CS => mW Y K z.2) hr9) (hE _ _ (m 19 ((2 * t) + 1)) dM_says_66 rfl (congrArg Prod.fst hr9).symm)
  · skip
    refine G.iconst (-1) F dM_says_61 (by decide) ?_
    refine G.goto 66 F dM_says_62 rfl ?_
    have hr9 : f_m_says1 t m = ((-1), (up2 m 20 0 0)) := (if_pos h1)
    exact G.st (congrArg (fun z : Int32 × CS => mW Y K z.2) hr9) (hE _ _ (-1) dM_says_66 rfl (congrArg Prod.fst hr9).symm)

def f_m_says2 (t : Nat) (m : CS) : Int32 × CS := (m 18 t, (up2 m 20 0 0))
theorem i_m_says2 (t : Nat) (ht : t < 4) (m : CS) (hI : InvM m) : InvM (f_m_says2 t m).2 := by
  unfold f_m_says2
  exact (InvM.upo hI rfl)
set_option maxRecDepth 100000 in
set_option maxHeartbeats 4000000 in
theorem k_m_says2 (l : Launch) (D : va_G) (K : Nat → ClassId) (base : Nat) (Y : Nat → Nat) (t : Nat) (ht : t < 4) (m : CS) (hI : InvM m) : CtI l D K base yM_says cM_says 4 .int (rmD 1) [.ref (Y 0), .int (nI t), .int 2] (mW Y K m) (f_m_says2 t m).1 (mW Y K (f_m_says2 t m).2) := by
  refine CtI.enter (by decide) (Nat.le_of_ble_eq_true rfl) ?_
  intro κ A Q F hE
  show G κ l (rmD 1) A Q D 4 0 0 (mW Y K m) 0 [(0, .ref (Y 0)), (1, .int (nI t)), (2, .int 2)] []
  refine G.aload_n 0 F dM_says_0 rfl rfl ?_
  refine G.iload_n 1 F dM_says_1 rfl rfl ?_
  refine G.callsi F (k_m_isThread l D K base Y (nI t) m hI) ckM_78 ⟨rfl, rfl⟩ ⟨by decide, by decide⟩ ⟨Nat.zero_le _, Nat.zero_le _⟩ rfl rfl (Nat.le_of_ble_eq_true rfl) dM_says_2 ?_
  refine G.if_eq 21 F dM_says_5 rfl (fun h9 => absurd h9 (isT ht m)) (fun _ => ?_)
  refine G.iload_n 2 F dM_says_8 rfl rfl ?_
  refine G.if_lt 21 F dM_says_9 rfl (fun h9 => absurd h9 (by decide)) (fun _ => ?_)
  refine G.iload_n 2 F dM_says_12 rfl rfl ?_
  refine G.iconst 2 F dM_says_13 (by decide) ?_
  refine G.icmp_gt 21 F dM_says_14 rfl (fun h9 => absurd h9 (by decide)) (fun _ => ?_)
  refine G.iconst 0 F dM_says_17 (by decide) ?_
  refine G.goto 22 F dM_says_18 rfl ?_
  refine G.pM 0 F (by decide) flM_75 dM_says_22 ?_
  refine G.aload_n 0 F dM_says_25 rfl rfl ?_
  refine G.gM 0 F (by decide) flM_75 rfl dM_says_26 ?_
  refine G.tope (y := 0) (up2_eq _ _ _ _) ?_
  refine G.if_le 34 F dM_says_29 rfl (fun _ => ?_) (fun h9 => absurd (by decide) h9)
  refine G.iload_n 2 F dM_says_34 rfl rfl ?_
  refine G.iconst 2 F dM_says_35 (by decide) ?_
  refine G.icmp_ne 46 F dM_says_36 rfl (fun h9 => absurd (by decide) h9) (fun _ => ?_)
  refine G.aload_n 0 F dM_says_39 rfl rfl ?_
  refine G.gM 22 F (by decide) flM_65 rfl dM_says_40 ?_
  refine G.iload_n 1 F dM_says_43 rfl rfl ?_
  refine G.ldMn 18 F (by decide) rfl (k := t) rfl ht dM_says_44 ?_
  refine G.tope (y := m 18 t) (up2_f _ _ _ _ (by decide)) ?_
  have hr9 : f_m_says2 t m = (m 18 t, (up2 m 20 0 0)) := rfl
  exact G.st (congrArg (fun z : Int32 × CS => mW Y K z.2) hr9) (hE _ _ (m 18 t) dM_says_45 rfl (congrArg Prod.fst hr9).symm)

def f_m_sayswl (t : Nat) (w : Int32) (m : CS) : Int32 × CS := (0, (up2 m 20 0 1))
theorem i_m_sayswl (t : Nat) (ht : t < 4) (w : Int32) (m : CS) (hI : InvM m) (hw : w < 0) : InvM (f_m_sayswl t w m).2 := by
  unfold f_m_sayswl
  exact (InvM.upo hI rfl)
set_option maxRecDepth 100000 in
set_option maxHeartbeats 4000000 in
theorem k_m_sayswl (l : Launch) (D : va_G) (K : Nat → ClassId) (base : Nat) (Y : Nat → Nat) (t : Nat) (ht : t < 4) (w : Int32) (m : CS) (hI : InvM m) (hw : w < 0) : CtI l D K base yM_says cM_says 4 .int (rmD 1) [.ref (Y 0), .int (nI t), .int w] (mW Y K m) (f_m_sayswl t w m).1 (mW Y K (f_m_sayswl t w m).2) := by
  refine CtI.enter (by decide) (Nat.le_of_ble_eq_true rfl) ?_
  intro κ A Q F hE
  show G κ l (rmD 1) A Q D 4 0 0 (mW Y K m) 0 [(0, .ref (Y 0)), (1, .int (nI t)), (2, .int w)] []
  refine G.aload_n 0 F dM_says_0 rfl rfl ?_
  refine G.iload_n 1 F dM_says_1 rfl rfl ?_
  refine G.callsi F (k_m_isThread l D K base Y (nI t) m hI) ckM_78 ⟨rfl, rfl⟩ ⟨by decide, by decide⟩ ⟨Nat.zero_le _, Nat.zero_le _⟩ rfl rfl (Nat.le_of_ble_eq_true rfl) dM_says_2 ?_
  refine G.if_eq 21 F dM_says_5 rfl (fun h9 => absurd h9 (isT ht m)) (fun _ => ?_)
  refine G.iload_n 2 F dM_says_8 rfl rfl ?_
  refine G.if_lt 21 F dM_says_9 rfl (fun _ => ?_) (fun h9 => absurd hw h9)
  refine G.iconst 1 F dM_says_21 (by decide) ?_
  refine G.pM 0 F (by decide) flM_75 dM_says_22 ?_
  refine G.aload_n 0 F dM_says_25 rfl rfl ?_
  refine G.gM 0 F (by decide) flM_75 rfl dM_says_26 ?_
  refine G.tope (y := 1) (up2_eq _ _ _ _) ?_
  refine G.if_le 34 F dM_says_29 rfl (fun h9 => absurd h9 (by decide)) (fun _ => ?_)
  refine G.iconst 0 F dM_says_32 (by decide) ?_
  have hr9 : f_m_sayswl t w m = (0, (up2 m 20 0 1)) := rfl
  exact G.st (congrArg (fun z : Int32 × CS => mW Y K z.2) hr9) (hE _ _ 0 dM_says_33 rfl (congrArg Prod.fst hr9).symm)

def f_m_sayswh (t : Nat) (w : Int32) (m : CS) : Int32 × CS := (0, (up2 m 20 0 1))
theorem i_m_sayswh (t : Nat) (ht : t < 4) (w : Int32) (m : CS) (hI : InvM m) (hw : ¬ w < 0) (hw2 : 2 < w) : InvM (f_m_sayswh t w m).2 := by
  unfold f_m_sayswh
  exact (InvM.upo hI rfl)
set_option maxRecDepth 100000 in
set_option maxHeartbeats 4000000 in
theorem k_m_sayswh (l : Launch) (D : va_G) (K : Nat → ClassId) (base : Nat) (Y : Nat → Nat) (t : Nat) (ht : t < 4) (w : Int32) (m : CS) (hI : InvM m) (hw : ¬ w < 0) (hw2 : 2 < w) : CtI l D K base yM_says cM_says 4 .int (rmD 1) [.ref (Y 0), .int (nI t), .int w] (mW Y K m) (f_m_sayswh t w m).1 (mW Y K (f_m_sayswh t w m).2) := by
  refine CtI.enter (by decide) (Nat.le_of_ble_eq_true rfl) ?_
  intro κ A Q F hE
  show G κ l (rmD 1) A Q D 4 0 0 (mW Y K m) 0 [(0, .ref (Y 0)), (1, .int (nI t)), (2, .int w)] []
  refine G.aload_n 0 F dM_says_0 rfl rfl ?_
  refine G.iload_n 1 F dM_says_1 rfl rfl ?_
  refine G.callsi F (k_m_isThread l D K base Y (nI t) m hI) ckM_78 ⟨rfl, rfl⟩ ⟨by decide, by decide⟩ ⟨Nat.zero_le _, Nat.zero_le _⟩ rfl rfl (Nat.le_of_ble_eq_true rfl) dM_says_2 ?_
  refine G.if_eq 21 F dM_says_5 rfl (fun h9 => absurd h9 (isT ht m)) (fun _ => ?_)
  refine G.iload_n 2 F dM_says_8 rfl rfl ?_
  refine G.if_lt 21 F dM_says_9 rfl (fun h9 => absurd h9 hw) (fun _ => ?_)
  refine G.iload_n 2 F dM_says_12 rfl rfl ?_
  refine G.iconst 2 F dM_says_13 (by decide) ?_
  refine G.icmp_gt 21 F dM_says_14 rfl (fun _ => ?_) (fun h9 => absurd hw2 h9)
  refine G.iconst 1 F dM_says_21 (by decide) ?_
  refine G.pM 0 F (by decide) flM_75 dM_says_22 ?_
  refine G.aload_n 0 F dM_says_25 rfl rfl ?_
  refine G.gM 0 F (by decide) flM_75 rfl dM_says_26 ?_
  refine G.tope (y := 1) (up2_eq _ _ _ _) ?_
  refine G.if_le 34 F dM_says_29 rfl (fun h9 => absurd h9 (by decide)) (fun _ => ?_)
  refine G.iconst 0 F dM_says_32 (by decide) ?_
  have hr9 : f_m_sayswh t w m = (0, (up2 m 20 0 1)) := rfl
  exact G.st (congrArg (fun z : Int32 × CS => mW Y K z.2) hr9) (hE _ _ 0 dM_says_33 rfl (congrArg Prod.fst hr9).symm)

def f_m_beginb (v : Int32) (o : Int32) (y : Int32) (m : CS) : CS := (up2 m 20 0 1)
theorem i_m_beginb (v : Int32) (o : Int32) (y : Int32) (m : CS) (hI : InvM m) (hv : f_m_isThread v m = 0) : InvM (f_m_beginb v o y m) := by
  unfold f_m_beginb
  exact (InvM.upo hI rfl)
set_option maxRecDepth 100000 in
set_option maxHeartbeats 4000000 in
theorem k_m_beginb (l : Launch) (D : va_G) (K : Nat → ClassId) (base : Nat) (Y : Nat → Nat) (v : Int32) (o : Int32) (y : Int32) (m : CS) (hI : InvM m) (hv : f_m_isThread v m = 0) : CtV l D K base yM_begin cM_begin 4 (rmD 1) [.ref (Y 0), .int v, .int o, .int y] (mW Y K m) (mW Y K (f_m_beginb v o y m)) := by
  refine CtV.enter (by decide) (Nat.le_of_ble_eq_true rfl) ?_
  intro κ A Q F hE
  show G κ l (rmD 1) A Q D 4 0 0 (mW Y K m) 0 [(0, .ref (Y 0)), (1, .int v), (2, .int o), (3, .int y)] []
  refine G.aload_n 0 F dM_begin_0 rfl rfl ?_
  refine G.iload_n 1 F dM_begin_1 rfl rfl ?_
  refine G.callsi F (k_m_isThread l D K base Y v m hI) ckM_78 ⟨rfl, rfl⟩ ⟨by decide, by decide⟩ ⟨Nat.zero_le _, Nat.zero_le _⟩ rfl rfl (Nat.le_of_ble_eq_true rfl) dM_begin_2 ?_
  refine G.if_ne 12 F dM_begin_5 rfl (fun h9 => absurd hv h9) (fun _ => ?_)
  refine G.iconst 1 F dM_begin_8 (by decide) ?_
  refine G.goto 49 F dM_begin_9 rfl ?_
  refine G.pM 0 F (by decide) flM_75 dM_begin_49 ?_
  refine G.aload_n 0 F dM_begin_52 rfl rfl ?_
  refine G.gM 0 F (by decide) flM_75 rfl dM_begin_53 ?_
  refine G.tope (y := 1) (up2_eq _ _ _ _) ?_
  refine G.if_le 60 F dM_begin_56 rfl (fun h9 => absurd h9 (by decide)) (fun _ => ?_)
  exact G.st (congrArg (mW Y K) rfl) (hE _ _ dM_begin_59)

def f_m_resultb (v : Int32) (m : CS) : Int32 × CS := (0, (up2 m 20 0 1))
theorem i_m_resultb (v : Int32) (m : CS) (hI : InvM m) (hv : f_m_isThread v m = 0) : InvM (f_m_resultb v m).2 := by
  unfold f_m_resultb
  exact (InvM.upo hI rfl)
set_option maxRecDepth 100000 in
set_option maxHeartbeats 4000000 in
theorem k_m_resultb (l : Launch) (D : va_G) (K : Nat → ClassId) (base : Nat) (Y : Nat → Nat) (v : Int32) (m : CS) (hI : InvM m) (hv : f_m_isThread v m = 0) : CtI l D K base yM_result cM_result 2 .int (rmD 1) [.ref (Y 0), .int v] (mW Y K m) (f_m_resultb v m).1 (mW Y K (f_m_resultb v m).2) := by
  refine CtI.enter (by decide) (Nat.le_of_ble_eq_true rfl) ?_
  intro κ A Q F hE
  show G κ l (rmD 1) A Q D 2 0 0 (mW Y K m) 0 [(0, .ref (Y 0)), (1, .int v)] []
  refine G.aload_n 0 F dM_result_0 rfl rfl ?_
  refine G.iload_n 1 F dM_result_1 rfl rfl ?_
  refine G.callsi F (k_m_isThread l D K base Y v m hI) ckM_78 ⟨rfl, rfl⟩ ⟨by decide, by decide⟩ ⟨Nat.zero_le _, Nat.zero_le _⟩ rfl rfl (Nat.le_of_ble_eq_true rfl) dM_result_2 ?_
  refine G.if_ne 12 F dM_result_5 rfl (fun h9 => absurd hv h9) (fun _ => ?_)
  refine G.iconst 1 F dM_result_8 (by decide) ?_
  refine G.goto 26 F dM_result_9 rfl ?_
  refine G.pM 0 F (by decide) flM_75 dM_result_26 ?_
  refine G.aload_n 0 F dM_result_29 rfl rfl ?_
  refine G.gM 0 F (by decide) flM_75 rfl dM_result_30 ?_
  refine G.tope (y := 1) (up2_eq _ _ _ _) ?_
  refine G.if_le 40 F dM_result_33 rfl (fun h9 => absurd h9 (by decide)) (fun _ => ?_)
  refine G.iconst 0 F dM_result_36 (by decide) ?_
  refine G.goto 46 F dM_result_37 rfl ?_
  have hr9 : f_m_resultb v m = (0, (up2 m 20 0 1)) := rfl
  exact G.st (congrArg (fun z : Int32 × CS => mW Y K z.2) hr9) (hE _ _ 0 dM_result_46 rfl (congrArg Prod.fst hr9).symm)

def f_m_atb (v : Int32) (m : CS) : Int32 × CS := (0, (up2 m 20 0 1))
theorem i_m_atb (v : Int32) (m : CS) (hI : InvM m) (hv : f_m_isThread v m = 0) : InvM (f_m_atb v m).2 := by
  unfold f_m_atb
  exact (InvM.upo hI rfl)
set_option maxRecDepth 100000 in
set_option maxHeartbeats 4000000 in
theorem k_m_atb (l : Launch) (D : va_G) (K : Nat → ClassId) (base : Nat) (Y : Nat → Nat) (v : Int32) (m : CS) (hI : InvM m) (hv : f_m_isThread v m = 0) : CtI l D K base yM_at cM_at 2 .int (rmD 1) [.ref (Y 0), .int v] (mW Y K m) (f_m_atb v m).1 (mW Y K (f_m_atb v m).2) := by
  refine CtI.enter (by decide) (Nat.le_of_ble_eq_true rfl) ?_
  intro κ A Q F hE
  show G κ l (rmD 1) A Q D 2 0 0 (mW Y K m) 0 [(0, .ref (Y 0)), (1, .int v)] []
  refine G.aload_n 0 F dM_at_0 rfl rfl ?_
  refine G.iload_n 1 F dM_at_1 rfl rfl ?_
  refine G.callsi F (k_m_isThread l D K base Y v m hI) ckM_78 ⟨rfl, rfl⟩ ⟨by decide, by decide⟩ ⟨Nat.zero_le _, Nat.zero_le _⟩ rfl rfl (Nat.le_of_ble_eq_true rfl) dM_at_2 ?_
  refine G.if_eq 12 F dM_at_5 rfl (fun _ => ?_) (fun h9 => absurd hv h9)
  refine G.iconst 1 F dM_at_12 (by decide) ?_
  refine G.pM 0 F (by decide) flM_75 dM_at_13 ?_
  refine G.aload_n 0 F dM_at_16 rfl rfl ?_
  refine G.gM 0 F (by decide) flM_75 rfl dM_at_17 ?_
  refine G.tope (y := 1) (up2_eq _ _ _ _) ?_
  refine G.if_le 27 F dM_at_20 rfl (fun h9 => absurd h9 (by decide)) (fun _ => ?_)
  refine G.iconst 0 F dM_at_23 (by decide) ?_
  refine G.goto 33 F dM_at_24 rfl ?_
  have hr9 : f_m_atb v m = (0, (up2 m 20 0 1)) := rfl
  exact G.st (congrArg (fun z : Int32 × CS => mW Y K z.2) hr9) (hE _ _ 0 dM_at_33 rfl (congrArg Prod.fst hr9).symm)

def f_m_knownb (v : Int32) (w : Int32) (m : CS) : Int32 × CS := (0, (up2 m 20 0 1))
theorem i_m_knownb (v : Int32) (w : Int32) (m : CS) (hI : InvM m) (hv : f_m_isThread v m = 0) : InvM (f_m_knownb v w m).2 := by
  unfold f_m_knownb
  exact (InvM.upo hI rfl)
set_option maxRecDepth 100000 in
set_option maxHeartbeats 4000000 in
theorem k_m_knownb (l : Launch) (D : va_G) (K : Nat → ClassId) (base : Nat) (Y : Nat → Nat) (v : Int32) (w : Int32) (m : CS) (hI : InvM m) (hv : f_m_isThread v m = 0) : CtI l D K base yM_known cM_known 3 .int (rmD 1) [.ref (Y 0), .int v, .int w] (mW Y K m) (f_m_knownb v w m).1 (mW Y K (f_m_knownb v w m).2) := by
  refine CtI.enter (by decide) (Nat.le_of_ble_eq_true rfl) ?_
  intro κ A Q F hE
  show G κ l (rmD 1) A Q D 3 0 0 (mW Y K m) 0 [(0, .ref (Y 0)), (1, .int v), (2, .int w)] []
  refine G.aload_n 0 F dM_known_0 rfl rfl ?_
  refine G.iload_n 1 F dM_known_1 rfl rfl ?_
  refine G.callsi F (k_m_isThread l D K base Y v m hI) ckM_78 ⟨rfl, rfl⟩ ⟨by decide, by decide⟩ ⟨Nat.zero_le _, Nat.zero_le _⟩ rfl rfl (Nat.le_of_ble_eq_true rfl) dM_known_2 ?_
  refine G.if_eq 21 F dM_known_5 rfl (fun _ => ?_) (fun h9 => absurd hv h9)
  refine G.iconst 1 F dM_known_21 (by decide) ?_
  refine G.pM 0 F (by decide) flM_75 dM_known_22 ?_
  refine G.aload_n 0 F dM_known_25 rfl rfl ?_
  refine G.gM 0 F (by decide) flM_75 rfl dM_known_26 ?_
  refine G.tope (y := 1) (up2_eq _ _ _ _) ?_
  refine G.if_le 34 F dM_known_29 rfl (fun h9 => absurd h9 (by decide)) (fun _ => ?_)
  refine G.iconst 0 F dM_known_32 (by decide) ?_
  have hr9 : f_m_knownb v w m = (0, (up2 m 20 0 1)) := rfl
  exact G.st (congrArg (fun z : Int32 × CS => mW Y K z.2) hr9) (hE _ _ 0 dM_known_33 rfl (congrArg Prod.fst hr9).symm)

def f_m_saysb (v : Int32) (w : Int32) (m : CS) : Int32 × CS := (0, (up2 m 20 0 1))
theorem i_m_saysb (v : Int32) (w : Int32) (m : CS) (hI : InvM m) (hv : f_m_isThread v m = 0) : InvM (f_m_saysb v w m).2 := by
  unfold f_m_saysb
  exact (InvM.upo hI rfl)
set_option maxRecDepth 100000 in
set_option maxHeartbeats 4000000 in
theorem k_m_saysb (l : Launch) (D : va_G) (K : Nat → ClassId) (base : Nat) (Y : Nat → Nat) (v : Int32) (w : Int32) (m : CS) (hI : InvM m) (hv : f_m_isThread v m = 0) : CtI l D K base yM_says cM_says 4 .int (rmD 1) [.ref (Y 0), .int v, .int w] (mW Y K m) (f_m_saysb v w m).1 (mW Y K (f_m_saysb v w m).2) := by
  refine CtI.enter (by decide) (Nat.le_of_ble_eq_true rfl) ?_
  intro κ A Q F hE
  show G κ l (rmD 1) A Q D 4 0 0 (mW Y K m) 0 [(0, .ref (Y 0)), (1, .int v), (2, .int w)] []
  refine G.aload_n 0 F dM_says_0 rfl rfl ?_
  refine G.iload_n 1 F dM_says_1 rfl rfl ?_
  refine G.callsi F (k_m_isThread l D K base Y v m hI) ckM_78 ⟨rfl, rfl⟩ ⟨by decide, by decide⟩ ⟨Nat.zero_le _, Nat.zero_le _⟩ rfl rfl (Nat.le_of_ble_eq_true rfl) dM_says_2 ?_
  refine G.if_eq 21 F dM_says_5 rfl (fun _ => ?_) (fun h9 => absurd hv h9)
  refine G.iconst 1 F dM_says_21 (by decide) ?_
  refine G.pM 0 F (by decide) flM_75 dM_says_22 ?_
  refine G.aload_n 0 F dM_says_25 rfl rfl ?_
  refine G.gM 0 F (by decide) flM_75 rfl dM_says_26 ?_
  refine G.tope (y := 1) (up2_eq _ _ _ _) ?_
  refine G.if_le 34 F dM_says_29 rfl (fun h9 => absurd h9 (by decide)) (fun _ => ?_)
  refine G.iconst 0 F dM_says_32 (by decide) ?_
  have hr9 : f_m_saysb v w m = (0, (up2 m 20 0 1)) := rfl
  exact G.st (congrArg (fun z : Int32 × CS => mW Y K z.2) hr9) (hE _ _ 0 dM_says_33 rfl (congrArg Prod.fst hr9).symm)

def f_m_size (m : CS) : Int32 × CS := (f_m_count 0 31 (up2 m 20 0 0), (up2 m 20 0 0))
theorem i_m_size  (m : CS) (hI : InvM m) : InvM (f_m_size  m).2 := by
  unfold f_m_size
  exact (InvM.upo hI rfl)
set_option maxRecDepth 100000 in
set_option maxHeartbeats 4000000 in
theorem k_m_size (l : Launch) (D : va_G) (K : Nat → ClassId) (base : Nat) (Y : Nat → Nat)  (m : CS) (hI : InvM m) : CtI l D K base yM_size cM_size 1 .int (rmD 1) [.ref (Y 0)] (mW Y K m) (f_m_size m).1 (mW Y K (f_m_size m).2) := by
  refine CtI.enter (by decide) (Nat.le_of_ble_eq_true rfl) ?_
  intro κ A Q F hE
  show G κ l (rmD 1) A Q D 1 0 0 (mW Y K m) 0 [(0, .ref (Y 0))] []
  refine G.aload_n 0 F dM_size_0 rfl rfl ?_
  refine G.iconst 0 F dM_size_1 (by decide) ?_
  refine G.pM 0 F (by decide) flM_75 dM_size_2 ?_
  refine G.aload_n 0 F dM_size_5 rfl rfl ?_
  refine G.iconst 0 F dM_size_6 (by decide) ?_
  refine G.bipush 31 F dM_size_7 (by decide) ?_
  refine G.calli F (k_m_count l D K base Y 0 31 (up2 m 20 0 0) (InvM.upo hI rfl)) ckM_153 mW_m rfl rfl ⟨rfl, rfl⟩ ⟨by decide, by decide⟩ ⟨Nat.zero_le _, Nat.zero_le _⟩ rfl rfl (Nat.le_of_ble_eq_true rfl) dM_size_9 ?_
  have hr9 : f_m_size m = (f_m_count 0 31 (up2 m 20 0 0), (up2 m 20 0 0)) := rfl
  exact G.st (congrArg (fun z : Int32 × CS => mW Y K z.2) hr9) (hE _ _ (f_m_count 0 31 (up2 m 20 0 0)) dM_size_12 rfl (congrArg Prod.fst hr9).symm)

def f_m_has (y : Int32) (m : CS) : Int32 × CS := (if f_m_count y y (up2 m 20 0 0) ≤ 0 then (0, (up2 m 20 0 0)) else (1, (up2 m 20 0 0)))
theorem i_m_has (y : Int32) (m : CS) (hI : InvM m) : InvM (f_m_has y m).2 := by
  unfold f_m_has
  exact (ite_m2 (fun h1 => (InvM.upo hI rfl)) (fun h1 => (InvM.upo hI rfl)))
set_option maxRecDepth 100000 in
set_option maxHeartbeats 4000000 in
theorem k_m_has (l : Launch) (D : va_G) (K : Nat → ClassId) (base : Nat) (Y : Nat → Nat) (y : Int32) (m : CS) (hI : InvM m) : CtI l D K base yM_has cM_has 2 .boolean (rmD 1) [.ref (Y 0), .int y] (mW Y K m) (f_m_has y m).1 (mW Y K (f_m_has y m).2) := by
  refine CtI.enter (by decide) (Nat.le_of_ble_eq_true rfl) ?_
  intro κ A Q F hE
  show G κ l (rmD 1) A Q D 2 0 0 (mW Y K m) 0 [(0, .ref (Y 0)), (1, .int y)] []
  refine G.aload_n 0 F dM_has_0 rfl rfl ?_
  refine G.iconst 0 F dM_has_1 (by decide) ?_
  refine G.pM 0 F (by decide) flM_75 dM_has_2 ?_
  refine G.aload_n 0 F dM_has_5 rfl rfl ?_
  refine G.iload_n 1 F dM_has_6 rfl rfl ?_
  refine G.iload_n 1 F dM_has_7 rfl rfl ?_
  refine G.calli F (k_m_count l D K base Y y y (up2 m 20 0 0) (InvM.upo hI rfl)) ckM_153 mW_m rfl rfl ⟨rfl, rfl⟩ ⟨by decide, by decide⟩ ⟨Nat.zero_le _, Nat.zero_le _⟩ rfl rfl (Nat.le_of_ble_eq_true rfl) dM_has_8 ?_
  refine G.if_le 18 F dM_has_11 rfl (fun h1 => ?_) (fun h1 => ?_)
  · skip
    refine G.iconst 0 F dM_has_18 (by decide) ?_
    have hr9 : f_m_has y m = (0, (up2 m 20 0 0)) := (if_pos h1)
    exact G.st (congrArg (fun z : Int32 × CS => mW Y K z.2) hr9) (hE _ _ 0 dM_has_19 rfl (congrArg Prod.fst hr9).symm)
  · skip
    refine G.iconst 1 F dM_has_14 (by decide) ?_
    refine G.goto 19 F dM_has_15 rfl ?_
    have hr9 : f_m_has y m = (1, (up2 m 20 0 0)) := (if_neg h1)
    exact G.st (congrArg (fun z : Int32 × CS => mW Y K z.2) hr9) (hE _ _ 1 dM_has_19 rfl (congrArg Prod.fst hr9).symm)

def fl_m_retire_45 (t : Nat) (b : Int32) : Nat → Nat → Int32 → CS → CS
  | 0, _, n3, m9 => (if m9 20 1 = 1 then (if n3 < 4 then m9 else (f_m_sweep t m9).2) else m9)
  | n + 1, k, n3, m9 => (if m9 0 k = 2 then (if m9 5 k = nI t then (fl_m_retire_45 t b n (k + 1) (n3 + 1) m9) else (fl_m_retire_45 t b n (k + 1) n3 m9)) else (fl_m_retire_45 t b n (k + 1) n3 m9))
def f_m_retire (t : Nat) (b : Int32) (m : CS) : CS := (if m 20 1 = 2 then (if m 20 1 = 0 then (fl_m_retire_45 t b 20 1 0 (up2 (up2 m 0 b.toNatClampNeg 0) 5 b.toNatClampNeg (m 20 2))) else (fl_m_retire_45 t b 20 1 0 (up2 (up2 m 0 b.toNatClampNeg 0) 5 b.toNatClampNeg (nI t)))) else (if m 20 1 = 0 then (fl_m_retire_45 t b 20 1 0 (up2 (up2 m 0 b.toNatClampNeg 2) 5 b.toNatClampNeg (m 20 2))) else (fl_m_retire_45 t b 20 1 0 (up2 (up2 m 0 b.toNatClampNeg 2) 5 b.toNatClampNeg (nI t)))))
theorem i_fl_m_retire_45 (t : Nat) (ht : t < 4) (b : Int32) (hb : vp_in b 21) : ∀ (n k : Nat) (n3 : Int32) (m9 : CS), k + n = 21 → InvM m9 → InvM (fl_m_retire_45 t b n k n3 m9) := by
  intro n
  induction n with
  | zero =>
    intro k n3 m9 hkn hI9
    exact (ite_m (fun h3 => (ite_m (fun h4 => hI9) (fun h4 => (i_m_sweep t ht m9 hI9)))) (fun h3 => hI9))
  | succ n ih =>
    intro k n3 m9 hkn hI9
    have hk : k < 21 := by omega
    unfold fl_m_retire_45
    exact (ite_m (fun h5 => (ite_m (fun h6 => (ih (k + 1) (n3 + 1) _ (by omega) hI9)) (fun h6 => (ih (k + 1) n3 _ (by omega) hI9)))) (fun h5 => (ih (k + 1) n3 _ (by omega) hI9)))
theorem i_m_retire (t : Nat) (ht : t < 4) (b : Int32) (hb : vp_in b 21) (m : CS) (hI : InvM m) : InvM (f_m_retire t b m) := by
  unfold f_m_retire
  exact (ite_m (fun h1 => (ite_m (fun h7 => (i_fl_m_retire_45 t ht b hb 20 1 0 _ (by decide) (InvM.upo (InvM.upo hI rfl) rfl))) (fun h7 => (i_fl_m_retire_45 t ht b hb 20 1 0 _ (by decide) (InvM.upo (InvM.upo hI rfl) rfl))))) (fun h1 => (ite_m (fun h2 => (i_fl_m_retire_45 t ht b hb 20 1 0 _ (by decide) (InvM.upo (InvM.upo hI rfl) rfl))) (fun h2 => (i_fl_m_retire_45 t ht b hb 20 1 0 _ (by decide) (InvM.upo (InvM.upo hI rfl) rfl))))))
set_option maxRecDepth 100000 in
set_option maxHeartbeats 4000000 in
theorem k_m_retire (l : Launch) (D : va_G) (K : Nat → ClassId) (base : Nat) (Y : Nat → Nat) (t : Nat) (ht : t < 4) (b : Int32) (hb : vp_in b 21) (m : CS) (hI : InvM m) : CtV l D K base yM_retire cM_retire 5 (rmD 2) [.ref (Y 0), .int (nI t), .int b] (mW Y K m) (mW Y K (f_m_retire t b m)) := by
  refine CtV.enter (by decide) (Nat.le_of_ble_eq_true rfl) ?_
  intro κ A Q F hE
  show G κ l (rmD 2) A Q D 5 0 0 (mW Y K m) 0 [(0, .ref (Y 0)), (1, .int (nI t)), (2, .int b)] []
  have hloop45 : ∀ (n k : Nat) (n3 : Int32) (m9 : CS), k + n = 21 → InvM m9 → f_m_retire t b m = fl_m_retire_45 t b n k n3 m9 → G κ l (rmD 2) A Q D 5 0 0 (mW Y K m9) 45 [(4, .int (nI k)), (3, .int n3), (0, .ref (Y 0)), (1, .int (nI t)), (2, .int b)] [] := by
    intro n
    induction n with
    | zero =>
      intro k n3 m9 hkn hI9 hρ
      obtain rfl : k = 21 := by omega
      refine G.iload 0 F dM_retire_45 rfl ?_
      refine G.bipush 20 F dM_retire_47 (by decide) ?_
      refine G.icmp_gt 88 F dM_retire_49 rfl (fun _ => ?_) (fun h9 => absurd (by decide) h9)
      refine G.aload_n 2 F dM_retire_88 rfl rfl ?_
      refine G.gM 1 F (by decide) flM_71 rfl dM_retire_89 ?_
      refine G.iconst 1 F dM_retire_92 (by decide) ?_
      refine G.icmp_ne 107 F dM_retire_93 rfl (fun h3 => ?_) (fun h3 => ?_)
      · skip
        exact G.st (congrArg (mW Y K) (hρ.trans (if_neg h3))) (hE _ _ dM_retire_107)
      · skip
        refine G.iload_n 1 F dM_retire_96 rfl rfl ?_
        refine G.iconst 4 F dM_retire_97 (by decide) ?_
        refine G.icmp_lt 107 F dM_retire_98 rfl (fun h4 => ?_) (fun h4 => ?_)
        · skip
          exact G.st (congrArg (mW Y K) (hρ.trans ((if_pos h3).trans (if_pos h4)))) (hE _ _ dM_retire_107)
        · skip
          refine G.aload_n 2 F dM_retire_101 rfl rfl ?_
          refine G.iload_n 3 F dM_retire_102 rfl rfl ?_
          refine G.calli F (k_m_sweep l D K base Y t ht m9 hI9) ckM_88 mW_m rfl rfl ⟨rfl, rfl⟩ ⟨by decide, by decide⟩ ⟨Nat.zero_le _, Nat.zero_le _⟩ rfl rfl (Nat.le_of_ble_eq_true rfl) dM_retire_103 ?_
          refine G.pop F dM_retire_106 rfl ?_
          exact G.st (congrArg (mW Y K) (hρ.trans ((if_pos h3).trans (if_neg h4)))) (hE _ _ dM_retire_107)
    | succ n ih =>
      intro k n3 m9 hkn hI9 hρ
      have hk : k < 21 := by omega
      refine G.iload 0 F dM_retire_45 rfl ?_
      refine G.bipush 20 F dM_retire_47 (by decide) ?_
      refine G.icmp_gt 88 F dM_retire_49 rfl (fun h9 => absurd h9 (nI_nlt (a := 20) (Nat.le_of_lt_succ (Nat.lt_of_lt_of_le hk (by decide))) (by decide))) (fun _ => ?_)
      refine G.aload_n 2 F dM_retire_52 rfl rfl ?_
      refine G.gM 4 F (by decide) flM_7 rfl dM_retire_53 ?_
      refine G.iload 0 F dM_retire_56 rfl ?_
      refine G.ldMn 0 F (by decide) rfl (k := k) rfl hk dM_retire_58 ?_
      refine G.iconst 2 F dM_retire_59 (by decide) ?_
      refine G.icmp_ne 80 F dM_retire_60 rfl (fun h5 => ?_) (fun h5 => ?_)
      · skip
        refine G.iload_n 1 F dM_retire_80 rfl rfl ?_
        refine G.istore_n 1 F dM_retire_81 rfl rfl (by decide) rfl ?_
        refine G.iinc 0 (nI (k + 1)) F dM_retire_82 rfl (nI_succ k).symm (by decide) rfl ?_
        refine G.goto 45 F dM_retire_85 rfl ?_
        exact ih (k + 1) n3 _ (by omega) hI9 (hρ.trans (if_neg h5))
      · skip
        refine G.aload_n 2 F dM_retire_63 rfl rfl ?_
        refine G.gM 9 F (by decide) flM_26 rfl dM_retire_64 ?_
        refine G.iload 0 F dM_retire_67 rfl ?_
        refine G.ldMn 5 F (by decide) rfl (k := k) rfl hk dM_retire_69 ?_
        refine G.iload_n 3 F dM_retire_70 rfl rfl ?_
        refine G.icmp_ne 80 F dM_retire_71 rfl (fun h6 => ?_) (fun h6 => ?_)
        · skip
          refine G.iload_n 1 F dM_retire_80 rfl rfl ?_
          refine G.istore_n 1 F dM_retire_81 rfl rfl (by decide) rfl ?_
          refine G.iinc 0 (nI (k + 1)) F dM_retire_82 rfl (nI_succ k).symm (by decide) rfl ?_
          refine G.goto 45 F dM_retire_85 rfl ?_
          exact ih (k + 1) n3 _ (by omega) hI9 (hρ.trans ((if_pos h5).trans (if_neg h6)))
        · skip
          refine G.iload_n 1 F dM_retire_74 rfl rfl ?_
          refine G.iconst 1 F dM_retire_75 (by decide) ?_
          refine G.iadd F dM_retire_76 ?_
          refine G.goto 81 F dM_retire_77 rfl ?_
          refine G.istore_n 1 F dM_retire_81 rfl rfl (by decide) rfl ?_
          refine G.iinc 0 (nI (k + 1)) F dM_retire_82 rfl (nI_succ k).symm (by decide) rfl ?_
          refine G.goto 45 F dM_retire_85 rfl ?_
          exact ih (k + 1) (n3 + 1) _ (by omega) hI9 (hρ.trans ((if_pos h5).trans (if_pos h6)))
  refine G.aload_n 0 F dM_retire_0 rfl rfl ?_
  refine G.gM 4 F (by decide) flM_7 rfl dM_retire_1 ?_
  refine G.iload_n 2 F dM_retire_4 rfl rfl ?_
  refine G.aload_n 0 F dM_retire_5 rfl rfl ?_
  refine G.gM 1 F (by decide) flM_71 rfl dM_retire_6 ?_
  refine G.iconst 2 F dM_retire_9 (by decide) ?_
  refine G.icmp_ne 17 F dM_retire_10 rfl (fun h1 => ?_) (fun h1 => ?_)
  · skip
    refine G.iconst 2 F dM_retire_17 (by decide) ?_
    refine G.stM 0 F (by decide) rfl hb dM_retire_18 ?_
    refine G.aload_n 0 F dM_retire_19 rfl rfl ?_
    refine G.gM 9 F (by decide) flM_26 rfl dM_retire_20 ?_
    refine G.iload_n 2 F dM_retire_23 rfl rfl ?_
    refine G.aload_n 0 F dM_retire_24 rfl rfl ?_
    refine G.gM 1 F (by decide) flM_71 rfl dM_retire_25 ?_
    refine G.tope (y := m 20 1) (up2_f _ _ _ _ (by decide)) ?_
    refine G.if_ne 38 F dM_retire_28 rfl (fun h2 => ?_) (fun h2 => ?_)
    · skip
      refine G.iload_n 1 F dM_retire_38 rfl rfl ?_
      refine G.stM 5 F (by decide) rfl hb dM_retire_39 ?_
      refine G.iconst 0 F dM_retire_40 (by decide) ?_
      refine G.istore_nN F dM_retire_41 rfl (by decide) rfl ?_
      refine G.iconst 1 F dM_retire_42 (by decide) ?_
      refine G.istoreN F dM_retire_43 (by decide) rfl ?_
      exact hloop45 20 1 0 _ (by decide) (InvM.upo (InvM.upo hI rfl) rfl) ((if_neg h1).trans (if_neg h2))
    · skip
      refine G.aload_n 0 F dM_retire_31 rfl rfl ?_
      refine G.gM 2 F (by decide) flM_85 rfl dM_retire_32 ?_
      refine G.tope (y := m 20 2) (up2_f _ _ _ _ (by decide)) ?_
      refine G.goto 39 F dM_retire_35 rfl ?_
      refine G.stM 5 F (by decide) rfl hb dM_retire_39 ?_
      refine G.iconst 0 F dM_retire_40 (by decide) ?_
      refine G.istore_nN F dM_retire_41 rfl (by decide) rfl ?_
      refine G.iconst 1 F dM_retire_42 (by decide) ?_
      refine G.istoreN F dM_retire_43 (by decide) rfl ?_
      exact hloop45 20 1 0 _ (by decide) (InvM.upo (InvM.upo hI rfl) rfl) ((if_neg h1).trans (if_pos h2))
  · skip
    refine G.iconst 0 F dM_retire_13 (by decide) ?_
    refine G.goto 18 F dM_retire_14 rfl ?_
    refine G.stM 0 F (by decide) rfl hb dM_retire_18 ?_
    refine G.aload_n 0 F dM_retire_19 rfl rfl ?_
    refine G.gM 9 F (by decide) flM_26 rfl dM_retire_20 ?_
    refine G.iload_n 2 F dM_retire_23 rfl rfl ?_
    refine G.aload_n 0 F dM_retire_24 rfl rfl ?_
    refine G.gM 1 F (by decide) flM_71 rfl dM_retire_25 ?_
    refine G.tope (y := m 20 1) (up2_f _ _ _ _ (by decide)) ?_
    refine G.if_ne 38 F dM_retire_28 rfl (fun h7 => ?_) (fun h7 => ?_)
    · skip
      refine G.iload_n 1 F dM_retire_38 rfl rfl ?_
      refine G.stM 5 F (by decide) rfl hb dM_retire_39 ?_
      refine G.iconst 0 F dM_retire_40 (by decide) ?_
      refine G.istore_nN F dM_retire_41 rfl (by decide) rfl ?_
      refine G.iconst 1 F dM_retire_42 (by decide) ?_
      refine G.istoreN F dM_retire_43 (by decide) rfl ?_
      exact hloop45 20 1 0 _ (by decide) (InvM.upo (InvM.upo hI rfl) rfl) ((if_pos h1).trans (if_neg h7))
    · skip
      refine G.aload_n 0 F dM_retire_31 rfl rfl ?_
      refine G.gM 2 F (by decide) flM_85 rfl dM_retire_32 ?_
      refine G.tope (y := m 20 2) (up2_f _ _ _ _ (by decide)) ?_
      refine G.goto 39 F dM_retire_35 rfl ?_
      refine G.stM 5 F (by decide) rfl hb dM_retire_39 ?_
      refine G.iconst 0 F dM_retire_40 (by decide) ?_
      refine G.istore_nN F dM_retire_41 rfl (by decide) rfl ?_
      refine G.iconst 1 F dM_retire_42 (by decide) ?_
      refine G.istoreN F dM_retire_43 (by decide) rfl ?_
      exact hloop45 20 1 0 _ (by decide) (InvM.upo (InvM.upo hI rfl) rfl) ((if_pos h1).trans (if_pos h7))

def f_m_check (t : Nat) (m : CS) : Int32 × CS := (if f_m_linked t (f_m_lookBack t m) = 0 then (2, (f_m_lookBack t m)) else (if (f_m_lookBack t m) 11 t = 0 then (if (f_m_lookBack t m) 11 t = 0 then (7, (up2 (f_m_lookBack t m) 14 t 0)) else (5, (up2 (f_m_lookBack t m) 14 t 0))) else (if (f_m_lookBack t m) 14 t = 0 then (if (f_m_lookBack t m) 11 t = 0 then (7, (up2 (f_m_lookBack t m) 14 t 0)) else (5, (up2 (f_m_lookBack t m) 14 t 0))) else (if (f_m_lookBack t m) 11 t = 0 then (7, (up2 (f_m_lookBack t m) 14 t 1)) else (5, (up2 (f_m_lookBack t m) 14 t 1))))))
theorem i_m_check (t : Nat) (ht : t < 4) (m : CS) (hI : InvM m) : InvM (f_m_check t m).2 := by
  unfold f_m_check
  exact (ite_m2 (fun h1 => (i_m_lookBack t ht m hI)) (fun h1 => (ite_m2 (fun h2 => (ite_m2 (fun h3 => (InvM.upo (i_m_lookBack t ht m hI) rfl)) (fun h3 => (InvM.upo (i_m_lookBack t ht m hI) rfl)))) (fun h2 => (ite_m2 (fun h4 => (ite_m2 (fun h5 => (InvM.upo (i_m_lookBack t ht m hI) rfl)) (fun h5 => (InvM.upo (i_m_lookBack t ht m hI) rfl)))) (fun h4 => (ite_m2 (fun h6 => (InvM.upo (i_m_lookBack t ht m hI) rfl)) (fun h6 => (InvM.upo (i_m_lookBack t ht m hI) rfl)))))))))
set_option maxRecDepth 100000 in
set_option maxHeartbeats 4000000 in
theorem k_m_check (l : Launch) (D : va_G) (K : Nat → ClassId) (base : Nat) (Y : Nat → Nat) (t : Nat) (ht : t < 4) (m : CS) (hI : InvM m) : CtI l D K base yM_check cM_check 2 .int (rmD 2) [.ref (Y 0), .int (nI t)] (mW Y K m) (f_m_check t m).1 (mW Y K (f_m_check t m).2) := by
  refine CtI.enter (by decide) (Nat.le_of_ble_eq_true rfl) ?_
  intro κ A Q F hE
  show G κ l (rmD 2) A Q D 2 0 0 (mW Y K m) 0 [(0, .ref (Y 0)), (1, .int (nI t))] []
  refine G.aload_n 0 F dM_check_0 rfl rfl ?_
  refine G.iload_n 1 F dM_check_1 rfl rfl ?_
  refine G.callv F (k_m_lookBack l D K base Y t ht m hI) ckM_103 mW_m rfl rfl ⟨rfl, rfl⟩ ⟨by decide, by decide⟩ ⟨Nat.zero_le _, Nat.zero_le _⟩ rfl rfl (Nat.le_of_ble_eq_true rfl) dM_check_2 ?_
  refine G.aload_n 0 F dM_check_5 rfl rfl ?_
  refine G.iload_n 1 F dM_check_6 rfl rfl ?_
  refine G.calli F (k_m_linked l D K base Y t ht (f_m_lookBack t m) (i_m_lookBack t ht m hI)) ckM_107 mW_m rfl rfl ⟨rfl, rfl⟩ ⟨by decide, by decide⟩ ⟨Nat.zero_le _, Nat.zero_le _⟩ rfl rfl (Nat.le_of_ble_eq_true rfl) dM_check_7 ?_
  refine G.if_ne 15 F dM_check_10 rfl (fun h1 => ?_) (fun h1 => ?_)
  · skip
    refine G.aload_n 0 F dM_check_15 rfl rfl ?_
    refine G.gM 18 F (by decide) flM_53 rfl dM_check_16 ?_
    refine G.iload_n 1 F dM_check_19 rfl rfl ?_
    refine G.aload_n 0 F dM_check_20 rfl rfl ?_
    refine G.gM 15 F (by decide) flM_44 rfl dM_check_21 ?_
    refine G.iload_n 1 F dM_check_24 rfl rfl ?_
    refine G.ldMn 11 F (by decide) rfl (k := t) rfl ht dM_check_25 ?_
    refine G.if_eq 42 F dM_check_26 rfl (fun h2 => ?_) (fun h2 => ?_)
    · skip
      refine G.iconst 0 F dM_check_42 (by decide) ?_
      refine G.stMzn 14 F (by decide) rfl rfl (k := t) rfl ht dM_check_43 ?_
      refine G.aload_n 0 F dM_check_44 rfl rfl ?_
      refine G.gM 15 F (by decide) flM_44 rfl dM_check_45 ?_
      refine G.iload_n 1 F dM_check_48 rfl rfl ?_
      refine G.ldMn 11 F (by decide) rfl (k := t) rfl ht dM_check_49 ?_
      refine G.tope (y := (f_m_lookBack t m) 11 t) (up2_f _ _ _ _ (by decide)) ?_
      refine G.if_ne 58 F dM_check_50 rfl (fun h3 => ?_) (fun h3 => ?_)
      · skip
        refine G.iconst 5 F dM_check_58 (by decide) ?_
        have hr9 : f_m_check t m = (5, (up2 (f_m_lookBack t m) 14 t 0)) := (if_neg h1).trans ((if_pos h2).trans (if_neg h3))
        exact G.st (congrArg (fun z : Int32 × CS => mW Y K z.2) hr9) (hE _ _ 5 dM_check_59 rfl (congrArg Prod.fst hr9).symm)
      · skip
        refine G.bipush 7 F dM_check_53 (by decide) ?_
        refine G.goto 59 F dM_check_55 rfl ?_
        have hr9 : f_m_check t m = (7, (up2 (f_m_lookBack t m) 14 t 0)) := (if_neg h1).trans ((if_pos h2).trans (if_pos h3))
        exact G.st (congrArg (fun z : Int32 × CS => mW Y K z.2) hr9) (hE _ _ 7 dM_check_59 rfl (congrArg Prod.fst hr9).symm)
    · skip
      refine G.aload_n 0 F dM_check_29 rfl rfl ?_
      refine G.gM 18 F (by decide) flM_53 rfl dM_check_30 ?_
      refine G.iload_n 1 F dM_check_33 rfl rfl ?_
      refine G.ldMzn 14 F (by decide) rfl (k := t) rfl ht dM_check_34 ?_
      refine G.if_eq 42 F dM_check_35 rfl (fun h4 => ?_) (fun h4 => ?_)
      · skip
        refine G.iconst 0 F dM_check_42 (by decide) ?_
        refine G.stMzn 14 F (by decide) rfl rfl (k := t) rfl ht dM_check_43 ?_
        refine G.aload_n 0 F dM_check_44 rfl rfl ?_
        refine G.gM 15 F (by decide) flM_44 rfl dM_check_45 ?_
        refine G.iload_n 1 F dM_check_48 rfl rfl ?_
        refine G.ldMn 11 F (by decide) rfl (k := t) rfl ht dM_check_49 ?_
        refine G.tope (y := (f_m_lookBack t m) 11 t) (up2_f _ _ _ _ (by decide)) ?_
        refine G.if_ne 58 F dM_check_50 rfl (fun h5 => ?_) (fun h5 => ?_)
        · skip
          refine G.iconst 5 F dM_check_58 (by decide) ?_
          have hr9 : f_m_check t m = (5, (up2 (f_m_lookBack t m) 14 t 0)) := (if_neg h1).trans ((if_neg h2).trans ((if_pos h4).trans (if_neg h5)))
          exact G.st (congrArg (fun z : Int32 × CS => mW Y K z.2) hr9) (hE _ _ 5 dM_check_59 rfl (congrArg Prod.fst hr9).symm)
        · skip
          refine G.bipush 7 F dM_check_53 (by decide) ?_
          refine G.goto 59 F dM_check_55 rfl ?_
          have hr9 : f_m_check t m = (7, (up2 (f_m_lookBack t m) 14 t 0)) := (if_neg h1).trans ((if_neg h2).trans ((if_pos h4).trans (if_pos h5)))
          exact G.st (congrArg (fun z : Int32 × CS => mW Y K z.2) hr9) (hE _ _ 7 dM_check_59 rfl (congrArg Prod.fst hr9).symm)
      · skip
        refine G.iconst 1 F dM_check_38 (by decide) ?_
        refine G.goto 43 F dM_check_39 rfl ?_
        refine G.stMzn 14 F (by decide) rfl rfl (k := t) rfl ht dM_check_43 ?_
        refine G.aload_n 0 F dM_check_44 rfl rfl ?_
        refine G.gM 15 F (by decide) flM_44 rfl dM_check_45 ?_
        refine G.iload_n 1 F dM_check_48 rfl rfl ?_
        refine G.ldMn 11 F (by decide) rfl (k := t) rfl ht dM_check_49 ?_
        refine G.tope (y := (f_m_lookBack t m) 11 t) (up2_f _ _ _ _ (by decide)) ?_
        refine G.if_ne 58 F dM_check_50 rfl (fun h6 => ?_) (fun h6 => ?_)
        · skip
          refine G.iconst 5 F dM_check_58 (by decide) ?_
          have hr9 : f_m_check t m = (5, (up2 (f_m_lookBack t m) 14 t 1)) := (if_neg h1).trans ((if_neg h2).trans ((if_neg h4).trans (if_neg h6)))
          exact G.st (congrArg (fun z : Int32 × CS => mW Y K z.2) hr9) (hE _ _ 5 dM_check_59 rfl (congrArg Prod.fst hr9).symm)
        · skip
          refine G.bipush 7 F dM_check_53 (by decide) ?_
          refine G.goto 59 F dM_check_55 rfl ?_
          have hr9 : f_m_check t m = (7, (up2 (f_m_lookBack t m) 14 t 1)) := (if_neg h1).trans ((if_neg h2).trans ((if_neg h4).trans (if_pos h6)))
          exact G.st (congrArg (fun z : Int32 × CS => mW Y K z.2) hr9) (hE _ _ 7 dM_check_59 rfl (congrArg Prod.fst hr9).symm)
  · skip
    refine G.iconst 2 F dM_check_13 (by decide) ?_
    have hr9 : f_m_check t m = (2, (f_m_lookBack t m)) := (if_pos h1)
    exact G.st (congrArg (fun z : Int32 × CS => mW Y K z.2) hr9) (hE _ _ 2 dM_check_14 rfl (congrArg Prod.fst hr9).symm)

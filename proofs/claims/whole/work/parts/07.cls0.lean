def f_leadsTo (k : Nat) (b : Int32) (c : CS) : Int32 := (if c 2 k = b then (if c 3 k = 0 then 1 else 0) else 0)
set_option maxRecDepth 100000 in
set_option maxHeartbeats 4000000 in
theorem k_leadsTo (l : Launch) (D : va_G) (K : Nat → ClassId) (base : Nat) (X : Nat → Nat) (k : Nat) (hk : k < 21) (b : Int32) (c : CS) (hI : Inv c) : CtI l D K base yB_leadsTo cB_leadsTo 2 .boolean (rmD 0) [.ref (X (2 + k)), .int b] (cW X K c) (f_leadsTo k b c) (cW X K c) := by
  refine CtI.enter (by decide) (Nat.le_of_ble_eq_true rfl) ?_
  intro κ A Q F hE
  show G κ l (rmD 0) A Q D 2 0 0 (cW X K c) 0 [(0, .ref (X (2 + k))), (1, .int b)] []
  refine G.aload_n 0 F dB_leadsTo_0 rfl rfl ?_
  refine G.gB 2 F hk (by decide) flB_18 dB_leadsTo_1 ?_
  refine G.iload_n 1 F dB_leadsTo_4 rfl rfl ?_
  refine G.icmp_ne 19 F dB_leadsTo_5 rfl (fun h1 => ?_) (fun h1 => ?_)
  · skip
    refine G.iconst 0 F dB_leadsTo_19 (by decide) ?_
    exact hE _ _ 0 dB_leadsTo_20 rfl (if_neg h1).symm
  · skip
    refine G.aload_n 0 F dB_leadsTo_8 rfl rfl ?_
    refine G.gB 3 F hk (by decide) flB_21 dB_leadsTo_9 ?_
    refine G.if_ne 19 F dB_leadsTo_12 rfl (fun h2 => ?_) (fun h2 => ?_)
    · skip
      refine G.iconst 0 F dB_leadsTo_19 (by decide) ?_
      exact hE _ _ 0 dB_leadsTo_20 rfl ((if_pos h1).trans (if_neg h2)).symm
    · skip
      refine G.iconst 1 F dB_leadsTo_15 (by decide) ?_
      refine G.goto 20 F dB_leadsTo_16 rfl ?_
      exact hE _ _ 1 dB_leadsTo_20 rfl ((if_pos h1).trans (if_pos h2)).symm

def f_lead (k : Nat) (b : Int32) (c : CS) : CS := (up2 (up2 c 2 k b) 3 k 0)
theorem i_lead (k : Nat) (hk : k < 21) (b : Int32) (hb : vp_in b 21) (c : CS) (hI : Inv c) : Inv (f_lead k b c) := by
  unfold f_lead
  exact (Inv.upo (Inv.upi hI hb) rfl)
set_option maxRecDepth 100000 in
set_option maxHeartbeats 4000000 in
theorem k_lead (l : Launch) (D : va_G) (K : Nat → ClassId) (base : Nat) (X : Nat → Nat) (k : Nat) (hk : k < 21) (b : Int32) (hb : vp_in b 21) (c : CS) (hI : Inv c) : CtV l D K base yB_lead cB_lead 2 (rmD 0) [.ref (X (2 + k)), .int b] (cW X K c) (cW X K (f_lead k b c)) := by
  refine CtV.enter (by decide) (Nat.le_of_ble_eq_true rfl) ?_
  intro κ A Q F hE
  show G κ l (rmD 0) A Q D 2 0 0 (cW X K c) 0 [(0, .ref (X (2 + k))), (1, .int b)] []
  refine G.aload_n 0 F dB_lead_0 rfl rfl ?_
  refine G.iload_n 1 F dB_lead_1 rfl rfl ?_
  refine G.pB 2 F hk (by decide) flB_18 rfl rfl dB_lead_2 ?_
  refine G.aload_n 0 F dB_lead_5 rfl rfl ?_
  refine G.iconst 0 F dB_lead_6 (by decide) ?_
  refine G.pB 3 F hk (by decide) flB_21 rfl rfl dB_lead_7 ?_
  exact G.st (congrArg (cW X K) rfl) (hE _ _ dB_lead_10)

def f_retireWith (k : Nat) (e : Int32) (c : CS) : CS := (up2 (up2 c 0 k 2) 5 k e)
theorem i_retireWith (k : Nat) (hk : k < 21) (e : Int32) (c : CS) (hI : Inv c) : Inv (f_retireWith k e c) := by
  unfold f_retireWith
  exact (Inv.upo (Inv.upo hI rfl) rfl)
set_option maxRecDepth 100000 in
set_option maxHeartbeats 4000000 in
theorem k_retireWith (l : Launch) (D : va_G) (K : Nat → ClassId) (base : Nat) (X : Nat → Nat) (k : Nat) (hk : k < 21) (e : Int32) (c : CS) (hI : Inv c) : CtV l D K base yB_retireWith cB_retireWith 2 (rmD 0) [.ref (X (2 + k)), .int e] (cW X K c) (cW X K (f_retireWith k e c)) := by
  refine CtV.enter (by decide) (Nat.le_of_ble_eq_true rfl) ?_
  intro κ A Q F hE
  show G κ l (rmD 0) A Q D 2 0 0 (cW X K c) 0 [(0, .ref (X (2 + k))), (1, .int e)] []
  refine G.aload_n 0 F dB_retireWith_0 rfl rfl ?_
  refine G.iconst 2 F dB_retireWith_1 (by decide) ?_
  refine G.pB 0 F hk (by decide) flB_9 rfl rfl dB_retireWith_2 ?_
  refine G.aload_n 0 F dB_retireWith_5 rfl rfl ?_
  refine G.iload_n 1 F dB_retireWith_6 rfl rfl ?_
  refine G.pB 5 F hk (by decide) flB_15 rfl rfl dB_retireWith_7 ?_
  exact G.st (congrArg (cW X K) rfl) (hE _ _ dB_retireWith_10)

def f_setFree (k : Nat) (c : CS) : CS := (up2 (up2 c 0 k 0) 5 k (-1))
theorem i_setFree (k : Nat) (hk : k < 21) (c : CS) (hI : Inv c) : Inv (f_setFree k c) := by
  unfold f_setFree
  exact (Inv.upo (Inv.upo hI rfl) rfl)
set_option maxRecDepth 100000 in
set_option maxHeartbeats 4000000 in
theorem k_setFree (l : Launch) (D : va_G) (K : Nat → ClassId) (base : Nat) (X : Nat → Nat) (k : Nat) (hk : k < 21) (c : CS) (hI : Inv c) : CtV l D K base yB_setFree cB_setFree 1 (rmD 0) [.ref (X (2 + k))] (cW X K c) (cW X K (f_setFree k c)) := by
  refine CtV.enter (by decide) (Nat.le_of_ble_eq_true rfl) ?_
  intro κ A Q F hE
  show G κ l (rmD 0) A Q D 1 0 0 (cW X K c) 0 [(0, .ref (X (2 + k)))] []
  refine G.aload_n 0 F dB_setFree_0 rfl rfl ?_
  refine G.iconst 0 F dB_setFree_1 (by decide) ?_
  refine G.pB 0 F hk (by decide) flB_9 rfl rfl dB_setFree_2 ?_
  refine G.aload_n 0 F dB_setFree_5 rfl rfl ?_
  refine G.iconst (-1) F dB_setFree_6 (by decide) ?_
  refine G.pB 5 F hk (by decide) flB_15 rfl rfl dB_setFree_7 ?_
  exact G.st (congrArg (cW X K) rfl) (hE _ _ dB_setFree_10)

def f_tell (k : Nat) (w : Int32) (c : CS) : Int32 := (if w = 0 then c 0 k else (if w = 1 then c 1 k else (if w = 2 then c 2 k else (if w = 3 then (if c 3 k = 0 then 0 else 1) else (if w = 4 then c 4 k else c 5 k)))))
set_option maxRecDepth 100000 in
set_option maxHeartbeats 4000000 in
theorem k_tell (l : Launch) (D : va_G) (K : Nat → ClassId) (base : Nat) (X : Nat → Nat) (k : Nat) (hk : k < 21) (w : Int32) (c : CS) (hI : Inv c) : CtI l D K base yB_tell cB_tell 2 .int (rmD 0) [.ref (X (2 + k)), .int w] (cW X K c) (f_tell k w c) (cW X K c) := by
  refine CtI.enter (by decide) (Nat.le_of_ble_eq_true rfl) ?_
  intro κ A Q F hE
  show G κ l (rmD 0) A Q D 2 0 0 (cW X K c) 0 [(0, .ref (X (2 + k))), (1, .int w)] []
  refine G.iload_n 1 F dB_tell_0 rfl rfl ?_
  by_cases h1 : w = 0
  · skip
    refine G.tabIn 36 (off := 35) F dB_tell_1 (sw_lo h1 (by decide)) (sw_hi h1 (by decide)) (sw_at h1 rfl) rfl ?_
    refine G.aload_n 0 F dB_tell_36 rfl rfl ?_
    refine G.gB 0 F hk (by decide) flB_9 dB_tell_37 ?_
    exact hE _ _ (c 0 k) dB_tell_40 rfl (if_pos h1).symm
  by_cases h2 : w = 1
  · skip
    refine G.tabIn 41 (off := 40) F dB_tell_1 (sw_lo h2 (by decide)) (sw_hi h2 (by decide)) (sw_at h2 rfl) rfl ?_
    refine G.aload_n 0 F dB_tell_41 rfl rfl ?_
    refine G.gB 1 F hk (by decide) flB_25 dB_tell_42 ?_
    exact hE _ _ (c 1 k) dB_tell_45 rfl ((if_neg h1).trans (if_pos h2)).symm
  by_cases h3 : w = 2
  · skip
    refine G.tabIn 46 (off := 45) F dB_tell_1 (sw_lo h3 (by decide)) (sw_hi h3 (by decide)) (sw_at h3 rfl) rfl ?_
    refine G.aload_n 0 F dB_tell_46 rfl rfl ?_
    refine G.gB 2 F hk (by decide) flB_18 dB_tell_47 ?_
    exact hE _ _ (c 2 k) dB_tell_50 rfl ((if_neg h1).trans ((if_neg h2).trans (if_pos h3))).symm
  by_cases h4 : w = 3
  · skip
    refine G.tabIn 51 (off := 50) F dB_tell_1 (sw_lo h4 (by decide)) (sw_hi h4 (by decide)) (sw_at h4 rfl) rfl ?_
    refine G.aload_n 0 F dB_tell_51 rfl rfl ?_
    refine G.gB 3 F hk (by decide) flB_21 dB_tell_52 ?_
    refine G.if_eq 62 F dB_tell_55 rfl (fun h5 => ?_) (fun h5 => ?_)
    · skip
      refine G.iconst 0 F dB_tell_62 (by decide) ?_
      exact hE _ _ 0 dB_tell_63 rfl ((if_neg h1).trans ((if_neg h2).trans ((if_neg h3).trans ((if_pos h4).trans (if_pos h5))))).symm
    · skip
      refine G.iconst 1 F dB_tell_58 (by decide) ?_
      refine G.goto 63 F dB_tell_59 rfl ?_
      exact hE _ _ 1 dB_tell_63 rfl ((if_neg h1).trans ((if_neg h2).trans ((if_neg h3).trans ((if_pos h4).trans (if_neg h5))))).symm
  by_cases h6 : w = 4
  · skip
    refine G.tabIn 64 (off := 63) F dB_tell_1 (sw_lo h6 (by decide)) (sw_hi h6 (by decide)) (sw_at h6 rfl) rfl ?_
    refine G.aload_n 0 F dB_tell_64 rfl rfl ?_
    refine G.gB 4 F hk (by decide) flB_28 dB_tell_65 ?_
    exact hE _ _ (c 4 k) dB_tell_68 rfl ((if_neg h1).trans ((if_neg h2).trans ((if_neg h3).trans ((if_neg h4).trans (if_pos h6))))).symm
  refine G.tabOut 69 F dB_tell_1 (by have e0 := lv_neT h1 (show (0 : Int32).toInt = 0 from rfl); have e1 := lv_neT h2 (show (1 : Int32).toInt = 1 from rfl); have e2 := lv_neT h3 (show (2 : Int32).toInt = 2 from rfl); have e3 := lv_neT h4 (show (3 : Int32).toInt = 3 from rfl); have e4 := lv_neT h6 (show (4 : Int32).toInt = 4 from rfl); omega) rfl ?_
  refine G.aload_n 0 F dB_tell_69 rfl rfl ?_
  refine G.gB 5 F hk (by decide) flB_15 dB_tell_70 ?_
  exact hE _ _ (c 5 k) dB_tell_73 rfl ((if_neg h1).trans ((if_neg h2).trans ((if_neg h3).trans ((if_neg h4).trans (if_neg h6))))).symm

def f_forget (t : Nat) (c : CS) : CS := (up2 (up2 (up2 (up2 (up2 (up2 (up2 c 10 t 0) 11 t 0) 12 t 0) 13 t 0) 14 t 0) 15 t 0) 16 t 0)
theorem i_forget (t : Nat) (ht : t < 4) (c : CS) (hI : Inv c) : Inv (f_forget t c) := by
  unfold f_forget
  exact (Inv.upi (Inv.upo (Inv.upi (Inv.upo (Inv.upi (Inv.upo (Inv.upi hI vp0) rfl) vp0) rfl) vp0) rfl) vp0)
set_option maxRecDepth 100000 in
set_option maxHeartbeats 4000000 in
theorem k_forget (l : Launch) (D : va_G) (K : Nat → ClassId) (base : Nat) (X : Nat → Nat) (t : Nat) (ht : t < 4) (c : CS) (hI : Inv c) : CtV l D K base yK_forget cK_forget 1 (rmD 0) [.ref (X (24 + t))] (cW X K c) (cW X K (f_forget t c)) := by
  refine CtV.enter (by decide) (Nat.le_of_ble_eq_true rfl) ?_
  intro κ A Q F hE
  show G κ l (rmD 0) A Q D 1 0 0 (cW X K c) 0 [(0, .ref (X (24 + t)))] []
  refine G.aload_n 0 F dK_forget_0 rfl rfl ?_
  refine G.iconst 0 F dK_forget_1 (by decide) ?_
  refine G.pT 4 10 F rfl ht (by decide) (by decide) flK_33 rfl rfl dK_forget_2 ?_
  refine G.aload_n 0 F dK_forget_5 rfl rfl ?_
  refine G.iconst 0 F dK_forget_6 (by decide) ?_
  refine G.pT 5 11 F rfl ht (by decide) (by decide) flK_36 rfl rfl dK_forget_7 ?_
  refine G.aload_n 0 F dK_forget_10 rfl rfl ?_
  refine G.iconst 0 F dK_forget_11 (by decide) ?_
  refine G.pT 6 12 F rfl ht (by decide) (by decide) flK_39 rfl rfl dK_forget_12 ?_
  refine G.aload_n 0 F dK_forget_15 rfl rfl ?_
  refine G.iconst 0 F dK_forget_16 (by decide) ?_
  refine G.pT 7 13 F rfl ht (by decide) (by decide) flK_42 rfl rfl dK_forget_17 ?_
  refine G.aload_n 0 F dK_forget_20 rfl rfl ?_
  refine G.iconst 0 F dK_forget_21 (by decide) ?_
  refine G.pT 8 14 F rfl ht (by decide) (by decide) flK_45 rfl rfl dK_forget_22 ?_
  refine G.aload_n 0 F dK_forget_25 rfl rfl ?_
  refine G.iconst 0 F dK_forget_26 (by decide) ?_
  refine G.pT 9 15 F rfl ht (by decide) (by decide) flK_48 rfl rfl dK_forget_27 ?_
  refine G.aload_n 0 F dK_forget_30 rfl rfl ?_
  refine G.iconst 0 F dK_forget_31 (by decide) ?_
  refine G.pT 10 16 F rfl ht (by decide) (by decide) flK_52 rfl rfl dK_forget_32 ?_
  exact G.st (congrArg (cW X K) rfl) (hE _ _ dK_forget_35)

def f_conclude (t : Nat) (r : Int32) (c : CS) : CS := (up2 (up2 c 17 t r) 7 t 9)
theorem i_conclude (t : Nat) (ht : t < 4) (r : Int32) (c : CS) (hI : Inv c) : Inv (f_conclude t r c) := by
  unfold f_conclude
  exact (Inv.upo (Inv.upo hI rfl) rfl)
set_option maxRecDepth 100000 in
set_option maxHeartbeats 4000000 in
theorem k_conclude (l : Launch) (D : va_G) (K : Nat → ClassId) (base : Nat) (X : Nat → Nat) (t : Nat) (ht : t < 4) (r : Int32) (c : CS) (hI : Inv c) : CtV l D K base yS_conclude cS_conclude 3 (rmD 0) [.ref (X 0), .ref (X (24 + t)), .int r] (cW X K c) (cW X K (f_conclude t r c)) := by
  refine CtV.enter (by decide) (Nat.le_of_ble_eq_true rfl) ?_
  intro κ A Q F hE
  show G κ l (rmD 0) A Q D 3 0 0 (cW X K c) 0 [(0, .ref (X 0)), (1, .ref (X (24 + t))), (2, .int r)] []
  refine G.aload_n 1 F dS_conclude_0 rfl rfl ?_
  refine G.iload_n 2 F dS_conclude_1 rfl rfl ?_
  refine G.pT 11 17 F rfl ht (by decide) (by decide) flS_222 rfl rfl dS_conclude_2 ?_
  refine G.aload_n 1 F dS_conclude_5 rfl rfl ?_
  refine G.bipush 9 F dS_conclude_6 (by decide) ?_
  refine G.pT 1 7 F rfl ht (by decide) (by decide) flS_42 rfl rfl dS_conclude_8 ?_
  exact G.st (congrArg (cW X K) rfl) (hE _ _ dS_conclude_11)

def f_countFault (k : Nat) (v : Int32) (c : CS) : CS := (if c 0 k = 0 then (up2 c 22 2 ((c 22 2) + 1)) else (if c 4 k = v then c else (up2 c 22 2 ((c 22 2) + 1))))
theorem i_countFault (k : Nat) (hk : k < 21) (v : Int32) (c : CS) (hI : Inv c) : Inv (f_countFault k v c) := by
  unfold f_countFault
  exact (ite_c (fun h1 => (Inv.upo hI rfl)) (fun h1 => (ite_c (fun h2 => hI) (fun h2 => (Inv.upo hI rfl)))))
set_option maxRecDepth 100000 in
set_option maxHeartbeats 4000000 in
theorem k_countFault (l : Launch) (D : va_G) (K : Nat → ClassId) (base : Nat) (X : Nat → Nat) (k : Nat) (hk : k < 21) (v : Int32) (c : CS) (hI : Inv c) : CtV l D K base yS_countFault cS_countFault 3 (rmD 0) [.ref (X 0), .ref (X (2 + k)), .int v] (cW X K c) (cW X K (f_countFault k v c)) := by
  refine CtV.enter (by decide) (Nat.le_of_ble_eq_true rfl) ?_
  intro κ A Q F hE
  show G κ l (rmD 0) A Q D 3 0 0 (cW X K c) 0 [(0, .ref (X 0)), (1, .ref (X (2 + k))), (2, .int v)] []
  refine G.aload_n 1 F dS_countFault_0 rfl rfl ?_
  refine G.gB 0 F hk (by decide) flS_235 dS_countFault_1 ?_
  refine G.if_eq 15 F dS_countFault_4 rfl (fun h1 => ?_) (fun h1 => ?_)
  · skip
    refine G.aload_n 0 F dS_countFault_15 rfl rfl ?_
    refine G.dup F dS_countFault_16 rfl ?_
    refine G.gX 4 F (by decide) flS_139 rfl dS_countFault_17 ?_
    refine G.iconst 1 F dS_countFault_20 (by decide) ?_
    refine G.iadd F dS_countFault_21 ?_
    refine G.pX4 F flS_139 dS_countFault_22 ?_
    exact G.st (congrArg (cW X K) (if_pos h1)) (hE _ _ dS_countFault_25)
  · skip
    refine G.aload_n 1 F dS_countFault_7 rfl rfl ?_
    refine G.gB 4 F hk (by decide) flS_225 dS_countFault_8 ?_
    refine G.iload_n 2 F dS_countFault_11 rfl rfl ?_
    refine G.icmp_eq 25 F dS_countFault_12 rfl (fun h2 => ?_) (fun h2 => ?_)
    · skip
      exact G.st (congrArg (cW X K) ((if_neg h1).trans (if_pos h2))) (hE _ _ dS_countFault_25)
    · skip
      refine G.aload_n 0 F dS_countFault_15 rfl rfl ?_
      refine G.dup F dS_countFault_16 rfl ?_
      refine G.gX 4 F (by decide) flS_139 rfl dS_countFault_17 ?_
      refine G.iconst 1 F dS_countFault_20 (by decide) ?_
      refine G.iadd F dS_countFault_21 ?_
      refine G.pX4 F flS_139 dS_countFault_22 ?_
      exact G.st (congrArg (cW X K) ((if_neg h1).trans (if_neg h2))) (hE _ _ dS_countFault_25)

def f_moveHereTo (t : Nat) (b : Int32) (c : CS) : CS := (if c 22 0 = 1 then (if b = 0 then (up2 (up2 (up2 c 12 t b) 13 t (c 4 b.toNatClampNeg)) 7 t 4) else (up2 (up2 (up2 c 12 t b) 13 t (c 4 b.toNatClampNeg)) 7 t 3)) else (up2 (up2 (up2 c 12 t b) 13 t (c 4 b.toNatClampNeg)) 7 t 4))
theorem i_moveHereTo (t : Nat) (ht : t < 4) (b : Int32) (hb : vp_in b 21) (c : CS) (hI : Inv c) : Inv (f_moveHereTo t b c) := by
  unfold f_moveHereTo
  exact (ite_c (fun h1 => (ite_c (fun h2 => (Inv.upo (Inv.upo (Inv.upi hI hb) rfl) rfl)) (fun h2 => (Inv.upo (Inv.upo (Inv.upi hI hb) rfl) rfl)))) (fun h1 => (Inv.upo (Inv.upo (Inv.upi hI hb) rfl) rfl)))
set_option maxRecDepth 100000 in
set_option maxHeartbeats 4000000 in
theorem k_moveHereTo (l : Launch) (D : va_G) (K : Nat → ClassId) (base : Nat) (X : Nat → Nat) (t : Nat) (ht : t < 4) (b : Int32) (hb : vp_in b 21) (c : CS) (hI : Inv c) : CtV l D K base yS_moveHereTo cS_moveHereTo 3 (rmD 0) [.ref (X 0), .ref (X (24 + t)), .int b] (cW X K c) (cW X K (f_moveHereTo t b c)) := by
  refine CtV.enter (by decide) (Nat.le_of_ble_eq_true rfl) ?_
  intro κ A Q F hE
  show G κ l (rmD 0) A Q D 3 0 0 (cW X K c) 0 [(0, .ref (X 0)), (1, .ref (X (24 + t))), (2, .int b)] []
  refine G.aload_n 1 F dS_moveHereTo_0 rfl rfl ?_
  refine G.iload_n 2 F dS_moveHereTo_1 rfl rfl ?_
  refine G.pT 6 12 F rfl ht (by decide) (by decide) flS_77 rfl rfl dS_moveHereTo_2 ?_
  refine G.aload_n 1 F dS_moveHereTo_5 rfl rfl ?_
  refine G.aload_n 0 F dS_moveHereTo_6 rfl rfl ?_
  refine G.gX 1 F (by decide) flS_15 rfl dS_moveHereTo_7 ?_
  refine G.iload_n 2 F dS_moveHereTo_10 rfl rfl ?_
  refine G.ldB F hb dS_moveHereTo_11 ?_
  refine G.gB 4 F (ix_lt hb) (by decide) flS_225 dS_moveHereTo_12 ?_
  refine G.tope (y := c 4 b.toNatClampNeg) (up2_f _ _ _ _ (by decide)) ?_
  refine G.pT 7 13 F rfl ht (by decide) (by decide) flS_196 rfl rfl dS_moveHereTo_15 ?_
  refine G.aload_n 1 F dS_moveHereTo_18 rfl rfl ?_
  refine G.aload_n 0 F dS_moveHereTo_19 rfl rfl ?_
  refine G.gX 0 F (by decide) flS_9 rfl dS_moveHereTo_20 ?_
  refine G.tope (y := c 22 0) ((up2_f _ _ _ _ (by decide)).trans (up2_f _ _ _ _ (by decide))) ?_
  refine G.iconst 1 F dS_moveHereTo_23 (by decide) ?_
  refine G.icmp_ne 35 F dS_moveHereTo_24 rfl (fun h1 => ?_) (fun h1 => ?_)
  · skip
    refine G.iconst 4 F dS_moveHereTo_35 (by decide) ?_
    refine G.pT 1 7 F rfl ht (by decide) (by decide) flS_42 rfl rfl dS_moveHereTo_36 ?_
    exact G.st (congrArg (cW X K) (if_neg h1)) (hE _ _ dS_moveHereTo_39)
  · skip
    refine G.iload_n 2 F dS_moveHereTo_27 rfl rfl ?_
    refine G.if_eq 35 F dS_moveHereTo_28 rfl (fun h2 => ?_) (fun h2 => ?_)
    · skip
      refine G.iconst 4 F dS_moveHereTo_35 (by decide) ?_
      refine G.pT 1 7 F rfl ht (by decide) (by decide) flS_42 rfl rfl dS_moveHereTo_36 ?_
      exact G.st (congrArg (cW X K) ((if_pos h1).trans (if_pos h2))) (hE _ _ dS_moveHereTo_39)
    · skip
      refine G.iconst 3 F dS_moveHereTo_31 (by decide) ?_
      refine G.goto 36 F dS_moveHereTo_32 rfl ?_
      refine G.pT 1 7 F rfl ht (by decide) (by decide) flS_42 rfl rfl dS_moveHereTo_36 ?_
      exact G.st (congrArg (cW X K) ((if_pos h1).trans (if_neg h2))) (hE _ _ dS_moveHereTo_39)

def f_isRetiredBy (t : Nat) (k : Nat) (c : CS) : Int32 := (if c 0 k = 2 then (if c 5 k = c 6 t then 1 else 0) else 0)
set_option maxRecDepth 100000 in
set_option maxHeartbeats 4000000 in
theorem k_isRetiredBy (l : Launch) (D : va_G) (K : Nat → ClassId) (base : Nat) (X : Nat → Nat) (t : Nat) (ht : t < 4) (k : Nat) (hk : k < 21) (c : CS) (hI : Inv c) : CtI l D K base yS_isRetiredBy cS_isRetiredBy 3 .boolean (rmD 0) [.ref (X 0), .ref (X (24 + t)), .int (nI k)] (cW X K c) (f_isRetiredBy t k c) (cW X K c) := by
  refine CtI.enter (by decide) (Nat.le_of_ble_eq_true rfl) ?_
  intro κ A Q F hE
  show G κ l (rmD 0) A Q D 3 0 0 (cW X K c) 0 [(0, .ref (X 0)), (1, .ref (X (24 + t))), (2, .int (nI k))] []
  refine G.aload_n 0 F dS_isRetiredBy_0 rfl rfl ?_
  refine G.gX 1 F (by decide) flS_15 rfl dS_isRetiredBy_1 ?_
  refine G.iload_n 2 F dS_isRetiredBy_4 rfl rfl ?_
  refine G.ldBn k F rfl hk dS_isRetiredBy_5 ?_
  refine G.gB 0 F hk (by decide) flS_235 dS_isRetiredBy_6 ?_
  refine G.iconst 2 F dS_isRetiredBy_9 (by decide) ?_
  refine G.icmp_ne 33 F dS_isRetiredBy_10 rfl (fun h1 => ?_) (fun h1 => ?_)
  · skip
    refine G.iconst 0 F dS_isRetiredBy_33 (by decide) ?_
    exact hE _ _ 0 dS_isRetiredBy_34 rfl (if_neg h1).symm
  · skip
    refine G.aload_n 0 F dS_isRetiredBy_13 rfl rfl ?_
    refine G.gX 1 F (by decide) flS_15 rfl dS_isRetiredBy_14 ?_
    refine G.iload_n 2 F dS_isRetiredBy_17 rfl rfl ?_
    refine G.ldBn k F rfl hk dS_isRetiredBy_18 ?_
    refine G.gB 5 F hk (by decide) flS_250 dS_isRetiredBy_19 ?_
    refine G.aload_n 1 F dS_isRetiredBy_22 rfl rfl ?_
    refine G.gT 0 6 F rfl ht (by decide) flS_244 dS_isRetiredBy_23 ?_
    refine G.icmp_ne 33 F dS_isRetiredBy_26 rfl (fun h2 => ?_) (fun h2 => ?_)
    · skip
      refine G.iconst 0 F dS_isRetiredBy_33 (by decide) ?_
      exact hE _ _ 0 dS_isRetiredBy_34 rfl ((if_pos h1).trans (if_neg h2)).symm
    · skip
      refine G.iconst 1 F dS_isRetiredBy_29 (by decide) ?_
      refine G.goto 34 F dS_isRetiredBy_30 rfl ?_
      exact hE _ _ 1 dS_isRetiredBy_34 rfl ((if_pos h1).trans (if_pos h2)).symm

def fl_isNamed_2 (b : Int32) : Nat → Nat → CS → Int32
  | 0, _, c => 0
  | n + 1, k, c => (if c 19 k = b then 1 else (if c 20 k = b then 1 else (fl_isNamed_2 b n (k + 1) c)))
def f_isNamed (b : Int32) (c : CS) : Int32 := (fl_isNamed_2 b 4 0 c)
set_option maxRecDepth 100000 in
set_option maxHeartbeats 4000000 in
theorem k_isNamed (l : Launch) (D : va_G) (K : Nat → ClassId) (base : Nat) (X : Nat → Nat) (b : Int32) (c : CS) (hI : Inv c) : CtI l D K base yS_isNamed cS_isNamed 3 .boolean (rmD 0) [.ref (X 0), .int b] (cW X K c) (f_isNamed b c) (cW X K c) := by
  refine CtI.enter (by decide) (Nat.le_of_ble_eq_true rfl) ?_
  intro κ A Q F hE
  show G κ l (rmD 0) A Q D 3 0 0 (cW X K c) 0 [(0, .ref (X 0)), (1, .int b)] []
  have hloop2 : ∀ (n k : Nat), k + n = 4 → f_isNamed b c = fl_isNamed_2 b n k c → G κ l (rmD 0) A Q D 3 0 0 (cW X K c) 2 [(2, .int (nI k)), (0, .ref (X 0)), (1, .int b)] [] := by
    intro n
    induction n with
    | zero =>
      intro k hkn hρ
      obtain rfl : k = 4 := by omega
      refine G.iload_n 0 F dS_isNamed_2 rfl rfl ?_
      refine G.iconst 4 F dS_isNamed_3 (by decide) ?_
      refine G.icmp_ge 41 F dS_isNamed_4 rfl (fun _ => ?_) (fun h9 => absurd (by decide) h9)
      refine G.iconst 0 F dS_isNamed_41 (by decide) ?_
      exact hE _ _ 0 dS_isNamed_42 rfl hρ.symm
    | succ n ih =>
      intro k hkn hρ
      have hk : k < 4 := by omega
      refine G.iload_n 0 F dS_isNamed_2 rfl rfl ?_
      refine G.iconst 4 F dS_isNamed_3 (by decide) ?_
      refine G.icmp_ge 41 F dS_isNamed_4 rfl (fun h9 => absurd h9 (nI_ge (b := 4) (Nat.lt_of_lt_of_le hk (by decide)) (by decide))) (fun _ => ?_)
      refine G.aload_n 1 F dS_isNamed_7 rfl rfl ?_
      refine G.gX 2 F (by decide) flS_22 rfl dS_isNamed_8 ?_
      refine G.iload_n 0 F dS_isNamed_11 rfl rfl ?_
      refine G.ldTn k F rfl hk dS_isNamed_12 ?_
      refine G.gT 13 19 F rfl hk (by decide) flS_91 dS_isNamed_13 ?_
      refine G.iload_n 2 F dS_isNamed_16 rfl rfl ?_
      refine G.icmp_eq 33 F dS_isNamed_17 rfl (fun h1 => ?_) (fun h1 => ?_)
      · skip
        refine G.iconst 1 F dS_isNamed_33 (by decide) ?_
        exact hE _ _ 1 dS_isNamed_34 rfl (hρ.trans (if_pos h1)).symm
      · skip
        refine G.aload_n 1 F dS_isNamed_20 rfl rfl ?_
        refine G.gX 2 F (by decide) flS_22 rfl dS_isNamed_21 ?_
        refine G.iload_n 0 F dS_isNamed_24 rfl rfl ?_
        refine G.ldTn k F rfl hk dS_isNamed_25 ?_
        refine G.gT 14 20 F rfl hk (by decide) flS_94 dS_isNamed_26 ?_
        refine G.iload_n 2 F dS_isNamed_29 rfl rfl ?_
        refine G.icmp_ne 35 F dS_isNamed_30 rfl (fun h2 => ?_) (fun h2 => ?_)
        · skip
          refine G.iinc 0 (nI (k + 1)) F dS_isNamed_35 rfl (nI_succ k).symm (by decide) rfl ?_
          refine G.goto 2 F dS_isNamed_38 rfl ?_
          exact ih (k + 1) (by omega) (hρ.trans ((if_neg h1).trans (if_neg h2)))
        · skip
          refine G.iconst 1 F dS_isNamed_33 (by decide) ?_
          exact hE _ _ 1 dS_isNamed_34 rfl (hρ.trans ((if_neg h1).trans (if_pos h2))).symm
  refine G.iconst 0 F dS_isNamed_0 (by decide) ?_
  refine G.istore_nN F dS_isNamed_1 rfl (by decide) rfl ?_
  exact hloop2 4 0 (by decide) rfl

def fl_allAnnounceCurrentEpoch_2  : Nat → Nat → CS → Int32
  | 0, _, c => 1
  | n + 1, k, c => (if c 21 k = (-1) then (fl_allAnnounceCurrentEpoch_2  n (k + 1) c) else (if c 21 k = c 22 1 then (fl_allAnnounceCurrentEpoch_2  n (k + 1) c) else 0))
def f_allAnnounceCurrentEpoch (c : CS) : Int32 := (fl_allAnnounceCurrentEpoch_2 4 0 c)
set_option maxRecDepth 100000 in
set_option maxHeartbeats 4000000 in
theorem k_allAnnounceCurrentEpoch (l : Launch) (D : va_G) (K : Nat → ClassId) (base : Nat) (X : Nat → Nat)  (c : CS) (hI : Inv c) : CtI l D K base yS_allAnnounceCurrentEpoch cS_allAnnounceCurrentEpoch 3 .boolean (rmD 0) [.ref (X 0)] (cW X K c) (f_allAnnounceCurrentEpoch c) (cW X K c) := by
  refine CtI.enter (by decide) (Nat.le_of_ble_eq_true rfl) ?_
  intro κ A Q F hE
  show G κ l (rmD 0) A Q D 3 0 0 (cW X K c) 0 [(0, .ref (X 0))] []
  have hloop2 : ∀ (n k : Nat), k + n = 4 → f_allAnnounceCurrentEpoch c = fl_allAnnounceCurrentEpoch_2  n k c → G κ l (rmD 0) A Q D 3 0 0 (cW X K c) 2 [(1, .int (nI k)), (0, .ref (X 0))] [] := by
    intro n
    induction n with
    | zero =>
      intro k hkn hρ
      obtain rfl : k = 4 := by omega
      refine G.iload_n 0 F dS_allAnnounceCurrentEpoch_2 rfl rfl ?_
      refine G.iconst 4 F dS_allAnnounceCurrentEpoch_3 (by decide) ?_
      refine G.icmp_ge 38 F dS_allAnnounceCurrentEpoch_4 rfl (fun _ => ?_) (fun h9 => absurd (by decide) h9)
      refine G.iconst 1 F dS_allAnnounceCurrentEpoch_38 (by decide) ?_
      exact hE _ _ 1 dS_allAnnounceCurrentEpoch_39 rfl hρ.symm
    | succ n ih =>
      intro k hkn hρ
      have hk : k < 4 := by omega
      refine G.iload_n 0 F dS_allAnnounceCurrentEpoch_2 rfl rfl ?_
      refine G.iconst 4 F dS_allAnnounceCurrentEpoch_3 (by decide) ?_
      refine G.icmp_ge 38 F dS_allAnnounceCurrentEpoch_4 rfl (fun h9 => absurd h9 (nI_ge (b := 4) (Nat.lt_of_lt_of_le hk (by decide)) (by decide))) (fun _ => ?_)
      refine G.aload_n 1 F dS_allAnnounceCurrentEpoch_7 rfl rfl ?_
      refine G.gX 2 F (by decide) flS_22 rfl dS_allAnnounceCurrentEpoch_8 ?_
      refine G.iload_n 0 F dS_allAnnounceCurrentEpoch_11 rfl rfl ?_
      refine G.ldTn k F rfl hk dS_allAnnounceCurrentEpoch_12 ?_
      refine G.gT 15 21 F rfl hk (by decide) flS_97 dS_allAnnounceCurrentEpoch_13 ?_
      refine G.istore_nN F dS_allAnnounceCurrentEpoch_16 rfl (by decide) rfl ?_
      refine G.iload_n 0 F dS_allAnnounceCurrentEpoch_17 rfl rfl ?_
      refine G.iconst (-1) F dS_allAnnounceCurrentEpoch_18 (by decide) ?_
      refine G.icmp_eq 32 F dS_allAnnounceCurrentEpoch_19 rfl (fun h1 => ?_) (fun h1 => ?_)
      · skip
        refine G.iinc 1 (nI (k + 1)) F dS_allAnnounceCurrentEpoch_32 rfl (nI_succ k).symm (by decide) rfl ?_
        refine G.goto 2 F dS_allAnnounceCurrentEpoch_35 rfl ?_
        refine G.drop ?_
        exact ih (k + 1) (by omega) (hρ.trans (if_pos h1))
      · skip
        refine G.iload_n 0 F dS_allAnnounceCurrentEpoch_22 rfl rfl ?_
        refine G.aload_n 2 F dS_allAnnounceCurrentEpoch_23 rfl rfl ?_
        refine G.gX 3 F (by decide) flS_111 rfl dS_allAnnounceCurrentEpoch_24 ?_
        refine G.icmp_eq 32 F dS_allAnnounceCurrentEpoch_27 rfl (fun h2 => ?_) (fun h2 => ?_)
        · skip
          refine G.iinc 1 (nI (k + 1)) F dS_allAnnounceCurrentEpoch_32 rfl (nI_succ k).symm (by decide) rfl ?_
          refine G.goto 2 F dS_allAnnounceCurrentEpoch_35 rfl ?_
          refine G.drop ?_
          exact ih (k + 1) (by omega) (hρ.trans ((if_neg h1).trans (if_pos h2)))
        · skip
          refine G.iconst 0 F dS_allAnnounceCurrentEpoch_30 (by decide) ?_
          exact hE _ _ 0 dS_allAnnounceCurrentEpoch_31 rfl (hρ.trans ((if_neg h1).trans (if_neg h2))).symm
  refine G.iconst 0 F dS_allAnnounceCurrentEpoch_0 (by decide) ?_
  refine G.istore_nN F dS_allAnnounceCurrentEpoch_1 rfl (by decide) rfl ?_
  exact hloop2 4 0 (by decide) rfl

def fl_takeFreeBlock_2  : Nat → Nat → CS → Int32 × CS
  | 0, _, c9 => (0, c9)
  | n + 1, k, c9 => (if c9 0 k = 0 then (nI k, (up2 (up2 c9 0 k 1) 4 k ((c9 4 k) + 1))) else (fl_takeFreeBlock_2  n (k + 1) c9))
def f_takeFreeBlock (c : CS) : Int32 × CS := (fl_takeFreeBlock_2 20 1 c)
theorem i_fl_takeFreeBlock_2  : ∀ (n k : Nat) (c9 : CS), k + n = 21 → Inv c9 → Inv (fl_takeFreeBlock_2  n k c9).2 := by
  intro n
  induction n with
  | zero =>
    intro k c9 hkn hI9
    exact hI9
  | succ n ih =>
    intro k c9 hkn hI9
    have hk : k < 21 := by omega
    unfold fl_takeFreeBlock_2
    exact (ite_c2 (fun h1 => (Inv.upo (Inv.upo hI9 rfl) rfl)) (fun h1 => (ih (k + 1) _ (by omega) hI9)))
theorem i_takeFreeBlock  (c : CS) (hI : Inv c) : Inv (f_takeFreeBlock  c).2 := by
  unfold f_takeFreeBlock
  exact (i_fl_takeFreeBlock_2  20 1 _ (by decide) hI)
set_option maxRecDepth 100000 in
set_option maxHeartbeats 4000000 in
theorem k_takeFreeBlock (l : Launch) (D : va_G) (K : Nat → ClassId) (base : Nat) (X : Nat → Nat)  (c : CS) (hI : Inv c) : CtI l D K base yS_takeFreeBlock cS_takeFreeBlock 2 .int (rmD 0) [.ref (X 0)] (cW X K c) (f_takeFreeBlock c).1 (cW X K (f_takeFreeBlock c).2) := by
  refine CtI.enter (by decide) (Nat.le_of_ble_eq_true rfl) ?_
  intro κ A Q F hE
  show G κ l (rmD 0) A Q D 2 0 0 (cW X K c) 0 [(0, .ref (X 0))] []
  have hloop2 : ∀ (n k : Nat) (c9 : CS), k + n = 21 → Inv c9 → f_takeFreeBlock c = fl_takeFreeBlock_2  n k c9 → G κ l (rmD 0) A Q D 2 0 0 (cW X K c9) 2 [(1, .int (nI k)), (0, .ref (X 0))] [] := by
    intro n
    induction n with
    | zero =>
      intro k c9 hkn hI9 hρ
      obtain rfl : k = 21 := by omega
      refine G.iload_n 0 F dS_takeFreeBlock_2 rfl rfl ?_
      refine G.bipush 20 F dS_takeFreeBlock_3 (by decide) ?_
      refine G.icmp_gt 53 F dS_takeFreeBlock_5 rfl (fun _ => ?_) (fun h9 => absurd (by decide) h9)
      refine G.iconst 0 F dS_takeFreeBlock_53 (by decide) ?_
      have hr9 : f_takeFreeBlock c = (0, c9) := hρ
      exact G.st (congrArg (fun z : Int32 × CS => cW X K z.2) hr9) (hE _ _ 0 dS_takeFreeBlock_54 rfl (congrArg Prod.fst hr9).symm)
    | succ n ih =>
      intro k c9 hkn hI9 hρ
      have hk : k < 21 := by omega
      refine G.iload_n 0 F dS_takeFreeBlock_2 rfl rfl ?_
      refine G.bipush 20 F dS_takeFreeBlock_3 (by decide) ?_
      refine G.icmp_gt 53 F dS_takeFreeBlock_5 rfl (fun h9 => absurd h9 (nI_nlt (a := 20) (Nat.le_of_lt_succ (Nat.lt_of_lt_of_le hk (by decide))) (by decide))) (fun _ => ?_)
      refine G.aload_n 1 F dS_takeFreeBlock_8 rfl rfl ?_
      refine G.gX 1 F (by decide) flS_15 rfl dS_takeFreeBlock_9 ?_
      refine G.iload_n 0 F dS_takeFreeBlock_12 rfl rfl ?_
      refine G.ldBn k F rfl hk dS_takeFreeBlock_13 ?_
      refine G.gB 0 F hk (by decide) flS_235 dS_takeFreeBlock_14 ?_
      refine G.if_ne 47 F dS_takeFreeBlock_17 rfl (fun h1 => ?_) (fun h1 => ?_)
      · skip
        refine G.iinc 0 (nI (k + 1)) F dS_takeFreeBlock_47 rfl (nI_succ k).symm (by decide) rfl ?_
        refine G.goto 2 F dS_takeFreeBlock_50 rfl ?_
        exact ih (k + 1) _ (by omega) hI9 (hρ.trans (if_neg h1))
      · skip
        refine G.aload_n 1 F dS_takeFreeBlock_20 rfl rfl ?_
        refine G.gX 1 F (by decide) flS_15 rfl dS_takeFreeBlock_21 ?_
        refine G.iload_n 0 F dS_takeFreeBlock_24 rfl rfl ?_
        refine G.ldBn k F rfl hk dS_takeFreeBlock_25 ?_
        refine G.iconst 1 F dS_takeFreeBlock_26 (by decide) ?_
        refine G.pB 0 F hk (by decide) flS_235 rfl rfl dS_takeFreeBlock_27 ?_
        refine G.aload_n 1 F dS_takeFreeBlock_30 rfl rfl ?_
        refine G.gX 1 F (by decide) flS_15 rfl dS_takeFreeBlock_31 ?_
        refine G.iload_n 0 F dS_takeFreeBlock_34 rfl rfl ?_
        refine G.ldBn k F rfl hk dS_takeFreeBlock_35 ?_
        refine G.dup F dS_takeFreeBlock_36 rfl ?_
        refine G.gB 4 F hk (by decide) flS_225 dS_takeFreeBlock_37 ?_
        refine G.tope (y := c9 4 k) (up2_f _ _ _ _ (by decide)) ?_
        refine G.iconst 1 F dS_takeFreeBlock_40 (by decide) ?_
        refine G.iadd F dS_takeFreeBlock_41 ?_
        refine G.pB 4 F hk (by decide) flS_225 rfl rfl dS_takeFreeBlock_42 ?_
        refine G.iload_n 0 F dS_takeFreeBlock_45 rfl rfl ?_
        have hr9 : f_takeFreeBlock c = (nI k, (up2 (up2 c9 0 k 1) 4 k ((c9 4 k) + 1))) := hρ.trans (if_pos h1)
        exact G.st (congrArg (fun z : Int32 × CS => cW X K z.2) hr9) (hE _ _ (nI k) dS_takeFreeBlock_46 rfl (congrArg Prod.fst hr9).symm)
  refine G.iconst 1 F dS_takeFreeBlock_0 (by decide) ?_
  refine G.istore_nN F dS_takeFreeBlock_1 rfl (by decide) rfl ?_
  exact hloop2 20 1 _ (by decide) hI rfl
theorem r_fl_takeFreeBlock : ∀ (n k : Nat) (c : CS), k + n = 21 → vp_in (fl_takeFreeBlock_2 n k c).1 21 := by
  intro n
  induction n with
  | zero => intro k c h; exact vp0
  | succ n ih =>
    intro k c h
    unfold fl_takeFreeBlock_2
    split
    · exact vp_in_nI (by omega) (by decide)
    · exact ih (k + 1) c (by omega)
theorem r_takeFreeBlock (c : CS) : vp_in (f_takeFreeBlock c).1 21 := r_fl_takeFreeBlock 20 1 c (by decide)

def f_endWork (t : Nat) (c : CS) : CS := (up2 (up2 (up2 (up2 (up2 c 21 t (-1)) 19 t (-1)) 20 t (-1)) 18 t (c 17 t)) 7 t 0)
theorem i_endWork (t : Nat) (ht : t < 4) (c : CS) (hI : Inv c) : Inv (f_endWork t c) := by
  unfold f_endWork
  exact (Inv.upo (Inv.upo (Inv.upo (Inv.upo (Inv.upo hI rfl) rfl) rfl) rfl) rfl)
set_option maxRecDepth 100000 in
set_option maxHeartbeats 4000000 in
theorem k_endWork (l : Launch) (D : va_G) (K : Nat → ClassId) (base : Nat) (X : Nat → Nat) (t : Nat) (ht : t < 4) (c : CS) (hI : Inv c) : CtV l D K base yS_endWork cS_endWork 2 (rmD 0) [.ref (X 0), .ref (X (24 + t))] (cW X K c) (cW X K (f_endWork t c)) := by
  refine CtV.enter (by decide) (Nat.le_of_ble_eq_true rfl) ?_
  intro κ A Q F hE
  show G κ l (rmD 0) A Q D 2 0 0 (cW X K c) 0 [(0, .ref (X 0)), (1, .ref (X (24 + t)))] []
  refine G.aload_n 1 F dS_endWork_0 rfl rfl ?_
  refine G.iconst (-1) F dS_endWork_1 (by decide) ?_
  refine G.pT 15 21 F rfl ht (by decide) (by decide) flS_97 rfl rfl dS_endWork_2 ?_
  refine G.aload_n 1 F dS_endWork_5 rfl rfl ?_
  refine G.iconst (-1) F dS_endWork_6 (by decide) ?_
  refine G.pT 13 19 F rfl ht (by decide) (by decide) flS_91 rfl rfl dS_endWork_7 ?_
  refine G.aload_n 1 F dS_endWork_10 rfl rfl ?_
  refine G.iconst (-1) F dS_endWork_11 (by decide) ?_
  refine G.pT 14 20 F rfl ht (by decide) (by decide) flS_94 rfl rfl dS_endWork_12 ?_
  refine G.aload_n 1 F dS_endWork_15 rfl rfl ?_
  refine G.aload_n 1 F dS_endWork_16 rfl rfl ?_
  refine G.gT 11 17 F rfl ht (by decide) flS_222 dS_endWork_17 ?_
  refine G.tope (y := c 17 t) ((up2_f _ _ _ _ (by decide)).trans ((up2_f _ _ _ _ (by decide)).trans (up2_f _ _ _ _ (by decide)))) ?_
  refine G.pT 12 18 F rfl ht (by decide) (by decide) flS_66 rfl rfl dS_endWork_20 ?_
  refine G.aload_n 1 F dS_endWork_23 rfl rfl ?_
  refine G.iconst 0 F dS_endWork_24 (by decide) ?_
  refine G.pT 1 7 F rfl ht (by decide) (by decide) flS_42 rfl rfl dS_endWork_25 ?_
  exact G.st (congrArg (cW X K) rfl) (hE _ _ dS_endWork_28)

def f_nameHere (t : Nat) (c : CS) : CS := (if c 10 t = 0 then (up2 (up2 c 19 t (c 12 t)) 7 t 4) else (if c 19 t = c 10 t then (up2 (up2 c 20 t (c 12 t)) 7 t 4) else (up2 (up2 c 19 t (c 12 t)) 7 t 4)))
theorem i_nameHere (t : Nat) (ht : t < 4) (c : CS) (hI : Inv c) : Inv (f_nameHere t c) := by
  unfold f_nameHere
  exact (ite_c (fun h1 => (Inv.upo (Inv.upo hI rfl) rfl)) (fun h1 => (ite_c (fun h2 => (Inv.upo (Inv.upo hI rfl) rfl)) (fun h2 => (Inv.upo (Inv.upo hI rfl) rfl)))))
set_option maxRecDepth 100000 in
set_option maxHeartbeats 4000000 in
theorem k_nameHere (l : Launch) (D : va_G) (K : Nat → ClassId) (base : Nat) (X : Nat → Nat) (t : Nat) (ht : t < 4) (c : CS) (hI : Inv c) : CtV l D K base yS_nameHere cS_nameHere 2 (rmD 0) [.ref (X 0), .ref (X (24 + t))] (cW X K c) (cW X K (f_nameHere t c)) := by
  refine CtV.enter (by decide) (Nat.le_of_ble_eq_true rfl) ?_
  intro κ A Q F hE
  show G κ l (rmD 0) A Q D 2 0 0 (cW X K c) 0 [(0, .ref (X 0)), (1, .ref (X (24 + t)))] []
  refine G.aload_n 1 F dS_nameHere_0 rfl rfl ?_
  refine G.gT 4 10 F rfl ht (by decide) flS_74 dS_nameHere_1 ?_
  refine G.if_eq 29 F dS_nameHere_4 rfl (fun h1 => ?_) (fun h1 => ?_)
  · skip
    refine G.aload_n 1 F dS_nameHere_29 rfl rfl ?_
    refine G.aload_n 1 F dS_nameHere_30 rfl rfl ?_
    refine G.gT 6 12 F rfl ht (by decide) flS_77 dS_nameHere_31 ?_
    refine G.pT 13 19 F rfl ht (by decide) (by decide) flS_91 rfl rfl dS_nameHere_34 ?_
    refine G.aload_n 1 F dS_nameHere_37 rfl rfl ?_
    refine G.iconst 4 F dS_nameHere_38 (by decide) ?_
    refine G.pT 1 7 F rfl ht (by decide) (by decide) flS_42 rfl rfl dS_nameHere_39 ?_
    exact G.st (congrArg (cW X K) (if_pos h1)) (hE _ _ dS_nameHere_42)
  · skip
    refine G.aload_n 1 F dS_nameHere_7 rfl rfl ?_
    refine G.gT 13 19 F rfl ht (by decide) flS_91 dS_nameHere_8 ?_
    refine G.aload_n 1 F dS_nameHere_11 rfl rfl ?_
    refine G.gT 4 10 F rfl ht (by decide) flS_74 dS_nameHere_12 ?_
    refine G.icmp_ne 29 F dS_nameHere_15 rfl (fun h2 => ?_) (fun h2 => ?_)
    · skip
      refine G.aload_n 1 F dS_nameHere_29 rfl rfl ?_
      refine G.aload_n 1 F dS_nameHere_30 rfl rfl ?_
      refine G.gT 6 12 F rfl ht (by decide) flS_77 dS_nameHere_31 ?_
      refine G.pT 13 19 F rfl ht (by decide) (by decide) flS_91 rfl rfl dS_nameHere_34 ?_
      refine G.aload_n 1 F dS_nameHere_37 rfl rfl ?_
      refine G.iconst 4 F dS_nameHere_38 (by decide) ?_
      refine G.pT 1 7 F rfl ht (by decide) (by decide) flS_42 rfl rfl dS_nameHere_39 ?_
      exact G.st (congrArg (cW X K) ((if_neg h1).trans (if_neg h2))) (hE _ _ dS_nameHere_42)
    · skip
      refine G.aload_n 1 F dS_nameHere_18 rfl rfl ?_
      refine G.aload_n 1 F dS_nameHere_19 rfl rfl ?_
      refine G.gT 6 12 F rfl ht (by decide) flS_77 dS_nameHere_20 ?_
      refine G.pT 14 20 F rfl ht (by decide) (by decide) flS_94 rfl rfl dS_nameHere_23 ?_
      refine G.goto 37 F dS_nameHere_26 rfl ?_
      refine G.aload_n 1 F dS_nameHere_37 rfl rfl ?_
      refine G.iconst 4 F dS_nameHere_38 (by decide) ?_
      refine G.pT 1 7 F rfl ht (by decide) (by decide) flS_42 rfl rfl dS_nameHere_39 ?_
      exact G.st (congrArg (cW X K) ((if_neg h1).trans (if_pos h2))) (hE _ _ dS_nameHere_42)

def f_startWork (t : Nat) (c : CS) : CS := (if c 22 0 = 0 then (up2 (up2 c 21 t (c 22 1)) 7 t 2) else (up2 c 7 t 2))
theorem i_startWork (t : Nat) (ht : t < 4) (c : CS) (hI : Inv c) : Inv (f_startWork t c) := by
  unfold f_startWork
  exact (ite_c (fun h1 => (Inv.upo (Inv.upo hI rfl) rfl)) (fun h1 => (Inv.upo hI rfl)))
set_option maxRecDepth 100000 in
set_option maxHeartbeats 4000000 in
theorem k_startWork (l : Launch) (D : va_G) (K : Nat → ClassId) (base : Nat) (X : Nat → Nat) (t : Nat) (ht : t < 4) (c : CS) (hI : Inv c) : CtV l D K base yS_startWork cS_startWork 2 (rmD 0) [.ref (X 0), .ref (X (24 + t))] (cW X K c) (cW X K (f_startWork t c)) := by
  refine CtV.enter (by decide) (Nat.le_of_ble_eq_true rfl) ?_
  intro κ A Q F hE
  show G κ l (rmD 0) A Q D 2 0 0 (cW X K c) 0 [(0, .ref (X 0)), (1, .ref (X (24 + t)))] []
  refine G.aload_n 0 F dS_startWork_0 rfl rfl ?_
  refine G.gX 0 F (by decide) flS_9 rfl dS_startWork_1 ?_
  refine G.if_ne 15 F dS_startWork_4 rfl (fun h1 => ?_) (fun h1 => ?_)
  · skip
    refine G.aload_n 1 F dS_startWork_15 rfl rfl ?_
    refine G.iconst 2 F dS_startWork_16 (by decide) ?_
    refine G.pT 1 7 F rfl ht (by decide) (by decide) flS_42 rfl rfl dS_startWork_17 ?_
    exact G.st (congrArg (cW X K) (if_neg h1)) (hE _ _ dS_startWork_20)
  · skip
    refine G.aload_n 1 F dS_startWork_7 rfl rfl ?_
    refine G.aload_n 0 F dS_startWork_8 rfl rfl ?_
    refine G.gX 3 F (by decide) flS_111 rfl dS_startWork_9 ?_
    refine G.pT 15 21 F rfl ht (by decide) (by decide) flS_97 rfl rfl dS_startWork_12 ?_
    refine G.aload_n 1 F dS_startWork_15 rfl rfl ?_
    refine G.iconst 2 F dS_startWork_16 (by decide) ?_
    refine G.pT 1 7 F rfl ht (by decide) (by decide) flS_42 rfl rfl dS_startWork_17 ?_
    exact G.st (congrArg (cW X K) (if_pos h1)) (hE _ _ dS_startWork_20)

set_option maxRecDepth 100000 in
set_option maxHeartbeats 4000000 in
theorem k_workerOf (l : Launch) (D : va_G) (K : Nat → ClassId) (base : Nat) (X : Nat → Nat) (t : Nat) (ht : t < 4) (c : CS) (hI : Inv c) : CtR l D K base yS_workerOf cS_workerOf 2 RK (rmD 0) [.ref (X 0), .int (nI t)] (cW X K c) (X (24 + t)) (cW X K c) := by
  refine CtR.enter (by decide) (Nat.le_of_ble_eq_true rfl) ?_
  intro κ A Q F hE
  show G κ l (rmD 0) A Q D 2 0 0 (cW X K c) 0 [(0, .ref (X 0)), (1, .int (nI t))] []
  refine G.iload_n 1 F dS_workerOf_0 rfl rfl ?_
  refine G.if_lt 9 F dS_workerOf_1 rfl (fun h9 => absurd h9 (cm_lt0 ht (by decide))) (fun _ => ?_)
  refine G.iload_n 1 F dS_workerOf_4 rfl rfl ?_
  refine G.iconst 4 F dS_workerOf_5 (by decide) ?_
  refine G.icmp_lt 19 F dS_workerOf_6 rfl (fun _ => ?_) (fun h9 => absurd (nI_lt (b := 4) (Nat.lt_of_lt_of_le ht (by decide)) (by decide)) h9)
  refine G.aload_n 0 F dS_workerOf_19 rfl rfl ?_
  refine G.gX 2 F (by decide) flS_22 rfl dS_workerOf_20 ?_
  refine G.iload_n 1 F dS_workerOf_23 rfl rfl ?_
  refine G.ldTn t F rfl ht dS_workerOf_24 ?_
  exact hE _ _ _ dS_workerOf_25 rfl

def fl_size_14  : Nat → Nat → Int32 → Int32 → CS → Int32
  | 0, _, b2, n1, c => n1
  | n + 1, k, b2, n1, c => (if b2 = 0 then n1 else (if c 3 b2.toNatClampNeg = 0 then (fl_size_14  n (k + 1) (c 2 b2.toNatClampNeg) (n1 + 1) c) else (fl_size_14  n (k + 1) (c 2 b2.toNatClampNeg) n1 c)))
def f_size (c : CS) : Int32 := (fl_size_14 20 0 (c 2 0) 0 c)
set_option maxRecDepth 100000 in
set_option maxHeartbeats 4000000 in
theorem k_size (l : Launch) (D : va_G) (K : Nat → ClassId) (base : Nat) (X : Nat → Nat)  (c : CS) (hI : Inv c) : CtI l D K base yS_size cS_size 4 .int (rmD 0) [.ref (X 0)] (cW X K c) (f_size c) (cW X K c) := by
  refine CtI.enter (by decide) (Nat.le_of_ble_eq_true rfl) ?_
  intro κ A Q F hE
  show G κ l (rmD 0) A Q D 4 0 0 (cW X K c) 0 [(0, .ref (X 0))] []
  have hloop14 : ∀ (n k : Nat) (b2 : Int32) (n1 : Int32), k + n = 20 → vp_in b2 21 → f_size c = fl_size_14  n k b2 n1 c → G κ l (rmD 0) A Q D 4 0 0 (cW X K c) 14 [(3, .int (nI k)), (2, .int b2), (1, .int n1), (0, .ref (X 0))] [] := by
    intro n
    induction n with
    | zero =>
      intro k b2 n1 hkn hr_b2 hρ
      obtain rfl : k = 20 := by omega
      refine G.iload_n 0 F dS_size_14 rfl rfl ?_
      refine G.bipush 20 F dS_size_15 (by decide) ?_
      refine G.icmp_ge 55 F dS_size_17 rfl (fun _ => ?_) (fun h9 => absurd (by decide) h9)
      refine G.iload_n 2 F dS_size_55 rfl rfl ?_
      exact hE _ _ n1 dS_size_56 rfl hρ.symm
    | succ n ih =>
      intro k b2 n1 hkn hr_b2 hρ
      have hk : k < 20 := by omega
      refine G.iload_n 0 F dS_size_14 rfl rfl ?_
      refine G.bipush 20 F dS_size_15 (by decide) ?_
      refine G.icmp_ge 55 F dS_size_17 rfl (fun h9 => absurd h9 (nI_ge (b := 20) (Nat.lt_of_lt_of_le hk (by decide)) (by decide))) (fun _ => ?_)
      refine G.iload_n 1 F dS_size_20 rfl rfl ?_
      refine G.if_eq 55 F dS_size_21 rfl (fun h1 => ?_) (fun h1 => ?_)
      · skip
        refine G.iload_n 2 F dS_size_55 rfl rfl ?_
        exact hE _ _ n1 dS_size_56 rfl (hρ.trans (if_pos h1)).symm
      · skip
        refine G.aload_n 3 F dS_size_24 rfl rfl ?_
        refine G.gX 1 F (by decide) flS_15 rfl dS_size_25 ?_
        refine G.iload_n 1 F dS_size_28 rfl rfl ?_
        refine G.ldB F hr_b2 dS_size_29 ?_
        refine G.gB 3 F (ix_lt hr_b2) (by decide) flS_134 dS_size_30 ?_
        refine G.if_ne 39 F dS_size_33 rfl (fun h2 => ?_) (fun h2 => ?_)
        · skip
          refine G.aload_n 3 F dS_size_39 rfl rfl ?_
          refine G.gX 1 F (by decide) flS_15 rfl dS_size_40 ?_
          refine G.iload_n 1 F dS_size_43 rfl rfl ?_
          refine G.ldB F hr_b2 dS_size_44 ?_
          refine G.gB 2 F (ix_lt hr_b2) (by decide) flS_131 dS_size_45 ?_
          refine G.istore_n 1 F dS_size_48 rfl rfl (by decide) rfl ?_
          refine G.iinc 0 (nI (k + 1)) F dS_size_49 rfl (nI_succ k).symm (by decide) rfl ?_
          refine G.goto 14 F dS_size_52 rfl ?_
          exact ih (k + 1) (c 2 b2.toNatClampNeg) n1 (by omega) (hI 2 _ rfl) (hρ.trans ((if_neg h1).trans (if_neg h2)))
        · skip
          refine G.iinc 2 (n1 + 1) F dS_size_36 rfl rfl (by decide) rfl ?_
          refine G.aload_n 3 F dS_size_39 rfl rfl ?_
          refine G.gX 1 F (by decide) flS_15 rfl dS_size_40 ?_
          refine G.iload_n 1 F dS_size_43 rfl rfl ?_
          refine G.ldB F hr_b2 dS_size_44 ?_
          refine G.gB 2 F (ix_lt hr_b2) (by decide) flS_131 dS_size_45 ?_
          refine G.istore_n 1 F dS_size_48 rfl rfl (by decide) rfl ?_
          refine G.iinc 0 (nI (k + 1)) F dS_size_49 rfl (nI_succ k).symm (by decide) rfl ?_
          refine G.goto 14 F dS_size_52 rfl ?_
          exact ih (k + 1) (c 2 b2.toNatClampNeg) (n1 + 1) (by omega) (hI 2 _ rfl) (hρ.trans ((if_neg h1).trans (if_pos h2)))
  refine G.iconst 0 F dS_size_0 (by decide) ?_
  refine G.istore_nN F dS_size_1 rfl (by decide) rfl ?_
  refine G.aload_n 1 F dS_size_2 rfl rfl ?_
  refine G.gX 1 F (by decide) flS_15 rfl dS_size_3 ?_
  refine G.iconst 0 F dS_size_6 (by decide) ?_
  refine G.ldBn 0 F rfl (by decide) dS_size_7 ?_
  refine G.gB 2 F (by decide) (by decide) flS_131 dS_size_8 ?_
  refine G.istore_nN F dS_size_11 rfl (by decide) rfl ?_
  refine G.iconst 0 F dS_size_12 (by decide) ?_
  refine G.istore_nN F dS_size_13 rfl (by decide) rfl ?_
  exact hloop14 20 0 (c 2 0) 0 (by decide) (hI 2 _ rfl) rfl

def fl_has_12 (y : Int32) : Nat → Nat → Int32 → CS → Int32
  | 0, _, b2, c => 0
  | n + 1, k, b2, c => (if b2 = 0 then 0 else (if c 3 b2.toNatClampNeg = 0 then (if c 1 b2.toNatClampNeg = y then 1 else (fl_has_12 y n (k + 1) (c 2 b2.toNatClampNeg) c)) else (fl_has_12 y n (k + 1) (c 2 b2.toNatClampNeg) c)))
def f_has (y : Int32) (c : CS) : Int32 := (fl_has_12 y 20 0 (c 2 0) c)
set_option maxRecDepth 100000 in
set_option maxHeartbeats 4000000 in
theorem k_has (l : Launch) (D : va_G) (K : Nat → ClassId) (base : Nat) (X : Nat → Nat) (y : Int32) (c : CS) (hI : Inv c) : CtI l D K base yS_has cS_has 4 .boolean (rmD 0) [.ref (X 0), .int y] (cW X K c) (f_has y c) (cW X K c) := by
  refine CtI.enter (by decide) (Nat.le_of_ble_eq_true rfl) ?_
  intro κ A Q F hE
  show G κ l (rmD 0) A Q D 4 0 0 (cW X K c) 0 [(0, .ref (X 0)), (1, .int y)] []
  have hloop12 : ∀ (n k : Nat) (b2 : Int32), k + n = 20 → vp_in b2 21 → f_has y c = fl_has_12 y n k b2 c → G κ l (rmD 0) A Q D 4 0 0 (cW X K c) 12 [(3, .int (nI k)), (2, .int b2), (0, .ref (X 0)), (1, .int y)] [] := by
    intro n
    induction n with
    | zero =>
      intro k b2 hkn hr_b2 hρ
      obtain rfl : k = 20 := by omega
      refine G.iload_n 0 F dS_has_12 rfl rfl ?_
      refine G.bipush 20 F dS_has_13 (by decide) ?_
      refine G.icmp_ge 65 F dS_has_15 rfl (fun _ => ?_) (fun h9 => absurd (by decide) h9)
      refine G.iconst 0 F dS_has_65 (by decide) ?_
      exact hE _ _ 0 dS_has_66 rfl hρ.symm
    | succ n ih =>
      intro k b2 hkn hr_b2 hρ
      have hk : k < 20 := by omega
      refine G.iload_n 0 F dS_has_12 rfl rfl ?_
      refine G.bipush 20 F dS_has_13 (by decide) ?_
      refine G.icmp_ge 65 F dS_has_15 rfl (fun h9 => absurd h9 (nI_ge (b := 20) (Nat.lt_of_lt_of_le hk (by decide)) (by decide))) (fun _ => ?_)
      refine G.iload_n 1 F dS_has_18 rfl rfl ?_
      refine G.if_eq 65 F dS_has_19 rfl (fun h1 => ?_) (fun h1 => ?_)
      · skip
        refine G.iconst 0 F dS_has_65 (by decide) ?_
        exact hE _ _ 0 dS_has_66 rfl (hρ.trans (if_pos h1)).symm
      · skip
        refine G.aload_n 2 F dS_has_22 rfl rfl ?_
        refine G.gX 1 F (by decide) flS_15 rfl dS_has_23 ?_
        refine G.iload_n 1 F dS_has_26 rfl rfl ?_
        refine G.ldB F hr_b2 dS_has_27 ?_
        refine G.gB 3 F (ix_lt hr_b2) (by decide) flS_134 dS_has_28 ?_
        refine G.if_ne 49 F dS_has_31 rfl (fun h2 => ?_) (fun h2 => ?_)
        · skip
          refine G.aload_n 2 F dS_has_49 rfl rfl ?_
          refine G.gX 1 F (by decide) flS_15 rfl dS_has_50 ?_
          refine G.iload_n 1 F dS_has_53 rfl rfl ?_
          refine G.ldB F hr_b2 dS_has_54 ?_
          refine G.gB 2 F (ix_lt hr_b2) (by decide) flS_131 dS_has_55 ?_
          refine G.istore_n 1 F dS_has_58 rfl rfl (by decide) rfl ?_
          refine G.iinc 0 (nI (k + 1)) F dS_has_59 rfl (nI_succ k).symm (by decide) rfl ?_
          refine G.goto 12 F dS_has_62 rfl ?_
          exact ih (k + 1) (c 2 b2.toNatClampNeg) (by omega) (hI 2 _ rfl) (hρ.trans ((if_neg h1).trans (if_neg h2)))
        · skip
          refine G.aload_n 2 F dS_has_34 rfl rfl ?_
          refine G.gX 1 F (by decide) flS_15 rfl dS_has_35 ?_
          refine G.iload_n 1 F dS_has_38 rfl rfl ?_
          refine G.ldB F hr_b2 dS_has_39 ?_
          refine G.gB 1 F (ix_lt hr_b2) (by decide) flS_138 dS_has_40 ?_
          refine G.iload_n 3 F dS_has_43 rfl rfl ?_
          refine G.icmp_ne 49 F dS_has_44 rfl (fun h3 => ?_) (fun h3 => ?_)
          · skip
            refine G.aload_n 2 F dS_has_49 rfl rfl ?_
            refine G.gX 1 F (by decide) flS_15 rfl dS_has_50 ?_
            refine G.iload_n 1 F dS_has_53 rfl rfl ?_
            refine G.ldB F hr_b2 dS_has_54 ?_
            refine G.gB 2 F (ix_lt hr_b2) (by decide) flS_131 dS_has_55 ?_
            refine G.istore_n 1 F dS_has_58 rfl rfl (by decide) rfl ?_
            refine G.iinc 0 (nI (k + 1)) F dS_has_59 rfl (nI_succ k).symm (by decide) rfl ?_
            refine G.goto 12 F dS_has_62 rfl ?_
            exact ih (k + 1) (c 2 b2.toNatClampNeg) (by omega) (hI 2 _ rfl) (hρ.trans ((if_neg h1).trans ((if_pos h2).trans (if_neg h3))))
          · skip
            refine G.iconst 1 F dS_has_47 (by decide) ?_
            exact hE _ _ 1 dS_has_48 rfl (hρ.trans ((if_neg h1).trans ((if_pos h2).trans (if_pos h3)))).symm
  refine G.aload_n 0 F dS_has_0 rfl rfl ?_
  refine G.gX 1 F (by decide) flS_15 rfl dS_has_1 ?_
  refine G.iconst 0 F dS_has_4 (by decide) ?_
  refine G.ldBn 0 F rfl (by decide) dS_has_5 ?_
  refine G.gB 2 F (by decide) (by decide) flS_131 dS_has_6 ?_
  refine G.istore_nN F dS_has_9 rfl (by decide) rfl ?_
  refine G.iconst 0 F dS_has_10 (by decide) ?_
  refine G.istore_nN F dS_has_11 rfl (by decide) rfl ?_
  exact hloop12 20 0 (c 2 0) (by decide) (hI 2 _ rfl) rfl

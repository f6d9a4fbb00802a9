def f_m_thrown (m : CS) : Int32 := m 20 0
set_option maxRecDepth 100000 in
set_option maxHeartbeats 4000000 in
theorem k_m_thrown (l : Launch) (D : va_G) (K : Nat → ClassId) (base : Nat) (Y : Nat → Nat)  (m : CS) (hI : InvM m) : CtI l D K base yM_thrown cM_thrown 1 .int (rmD 0) [.ref (Y 0)] (mW Y K m) (f_m_thrown m) (mW Y K m) := by
  refine CtI.enter (by decide) (Nat.le_of_ble_eq_true rfl) ?_
  intro κ A Q F hE
  show G κ l (rmD 0) A Q D 1 0 0 (mW Y K m) 0 [(0, .ref (Y 0))] []
  refine G.aload_n 0 F dM_thrown_0 rfl rfl ?_
  refine G.gM 0 F (by decide) flM_75 rfl dM_thrown_1 ?_
  exact hE _ _ (m 20 0) dM_thrown_4 rfl rfl.symm

def f_m_isThread (v : Int32) (m : CS) : Int32 := (if v < 0 then 0 else (if 3 < v then 0 else 1))
set_option maxRecDepth 100000 in
set_option maxHeartbeats 4000000 in
theorem k_m_isThread (l : Launch) (D : va_G) (K : Nat → ClassId) (base : Nat) (Y : Nat → Nat) (v : Int32) (m : CS) (hI : InvM m) : CtI l D K base yM_isThread cM_isThread 1 .boolean (rmD 0) [.int v] (mW Y K m) (f_m_isThread v m) (mW Y K m) := by
  refine CtI.enter (by decide) (Nat.le_of_ble_eq_true rfl) ?_
  intro κ A Q F hE
  show G κ l (rmD 0) A Q D 1 0 0 (mW Y K m) 0 [(0, .int v)] []
  refine G.iload_n 0 F dM_isThread_0 rfl rfl ?_
  refine G.if_lt 13 F dM_isThread_1 rfl (fun h1 => ?_) (fun h1 => ?_)
  · skip
    refine G.iconst 0 F dM_isThread_13 (by decide) ?_
    exact hE _ _ 0 dM_isThread_14 rfl (if_pos h1).symm
  · skip
    refine G.iload_n 0 F dM_isThread_4 rfl rfl ?_
    refine G.iconst 3 F dM_isThread_5 (by decide) ?_
    refine G.icmp_gt 13 F dM_isThread_6 rfl (fun h2 => ?_) (fun h2 => ?_)
    · skip
      refine G.iconst 0 F dM_isThread_13 (by decide) ?_
      exact hE _ _ 0 dM_isThread_14 rfl ((if_neg h1).trans (if_pos h2)).symm
    · skip
      refine G.iconst 1 F dM_isThread_9 (by decide) ?_
      refine G.goto 14 F dM_isThread_10 rfl ?_
      exact hE _ _ 1 dM_isThread_14 rfl ((if_neg h1).trans (if_neg h2)).symm
theorem isT {t : Nat} (ht : t < 4) (m : CS) : ¬ f_m_isThread (nI t) m = 0 := by
  rcases (show t = 0 ∨ t = 1 ∨ t = 2 ∨ t = 3 by omega) with rfl | rfl | rfl | rfl <;> (unfold f_m_isThread; decide)

def fl_m_isNamed_4 (b : Int32) : Nat → Nat → Int32 → CS → Int32
  | 0, _, z, m => z
  | n + 1, k, z, m => (if z = 0 then (if m 19 k = b then (fl_m_isNamed_4 b n (k + 1) 1 m) else (fl_m_isNamed_4 b n (k + 1) 0 m)) else (fl_m_isNamed_4 b n (k + 1) 1 m))
def f_m_isNamed (b : Int32) (m : CS) : Int32 := (fl_m_isNamed_4 b 8 0 0 m)
set_option maxRecDepth 100000 in
set_option maxHeartbeats 4000000 in
theorem k_m_isNamed (l : Launch) (D : va_G) (K : Nat → ClassId) (base : Nat) (Y : Nat → Nat) (b : Int32) (m : CS) (hI : InvM m) : CtI l D K base yM_isNamed cM_isNamed 4 .boolean (rmD 0) [.ref (Y 0), .int b] (mW Y K m) (f_m_isNamed b m) (mW Y K m) := by
  refine CtI.enter (by decide) (Nat.le_of_ble_eq_true rfl) ?_
  intro κ A Q F hE
  show G κ l (rmD 0) A Q D 4 0 0 (mW Y K m) 0 [(0, .ref (Y 0)), (1, .int b)] []
  have hloop4 : ∀ (n k : Nat) (z : Int32), k + n = 8 → bz z → f_m_isNamed b m = fl_m_isNamed_4 b n k z m → G κ l (rmD 0) A Q D 4 0 0 (mW Y K m) 4 [(3, .int (nI k)), (2, .int z), (0, .ref (Y 0)), (1, .int b)] [] := by
    intro n
    induction n with
    | zero =>
      intro k z hkn hr_z hρ
      obtain rfl : k = 8 := by omega
      refine G.iload_n 0 F dM_isNamed_4 rfl rfl ?_
      refine G.bipush 8 F dM_isNamed_5 (by decide) ?_
      refine G.icmp_ge 36 F dM_isNamed_7 rfl (fun _ => ?_) (fun h9 => absurd (by decide) h9)
      refine G.iload_n 1 F dM_isNamed_36 rfl rfl ?_
      exact hE _ _ z dM_isNamed_37 (bz_nar hr_z) hρ.symm
    | succ n ih =>
      intro k z hkn hr_z hρ
      have hk : k < 8 := by omega
      refine G.iload_n 0 F dM_isNamed_4 rfl rfl ?_
      refine G.bipush 8 F dM_isNamed_5 (by decide) ?_
      refine G.icmp_ge 36 F dM_isNamed_7 rfl (fun h9 => absurd h9 (nI_ge (b := 8) (Nat.lt_of_lt_of_le hk (by decide)) (by decide))) (fun _ => ?_)
      refine G.iload_n 1 F dM_isNamed_10 rfl rfl ?_
      refine G.if_ne 24 F dM_isNamed_11 rfl (fun h1 => ?_) (fun h1 => ?_)
      · skip
        refine G.iconst 1 F dM_isNamed_24 (by decide) ?_
        refine G.goto 29 F dM_isNamed_25 rfl ?_
        refine G.istore_n 1 F dM_isNamed_29 rfl rfl (by decide) rfl ?_
        refine G.iinc 0 (nI (k + 1)) F dM_isNamed_30 rfl (nI_succ k).symm (by decide) rfl ?_
        refine G.goto 4 F dM_isNamed_33 rfl ?_
        exact ih (k + 1) 1 (by omega) bz1 (hρ.trans (if_neg h1))
      · skip
        refine G.aload_n 2 F dM_isNamed_14 rfl rfl ?_
        refine G.gM 23 F (by decide) flM_68 rfl dM_isNamed_15 ?_
        refine G.iload_n 0 F dM_isNamed_18 rfl rfl ?_
        refine G.ldMn 19 F (by decide) rfl (k := k) rfl hk dM_isNamed_19 ?_
        refine G.iload_n 3 F dM_isNamed_20 rfl rfl ?_
        refine G.icmp_ne 28 F dM_isNamed_21 rfl (fun h2 => ?_) (fun h2 => ?_)
        · skip
          refine G.iconst 0 F dM_isNamed_28 (by decide) ?_
          refine G.istore_n 1 F dM_isNamed_29 rfl rfl (by decide) rfl ?_
          refine G.iinc 0 (nI (k + 1)) F dM_isNamed_30 rfl (nI_succ k).symm (by decide) rfl ?_
          refine G.goto 4 F dM_isNamed_33 rfl ?_
          exact ih (k + 1) 0 (by omega) bz0 (hρ.trans ((if_pos h1).trans (if_neg h2)))
        · skip
          refine G.iconst 1 F dM_isNamed_24 (by decide) ?_
          refine G.goto 29 F dM_isNamed_25 rfl ?_
          refine G.istore_n 1 F dM_isNamed_29 rfl rfl (by decide) rfl ?_
          refine G.iinc 0 (nI (k + 1)) F dM_isNamed_30 rfl (nI_succ k).symm (by decide) rfl ?_
          refine G.goto 4 F dM_isNamed_33 rfl ?_
          exact ih (k + 1) 1 (by omega) bz1 (hρ.trans ((if_pos h1).trans (if_pos h2)))
  refine G.iconst 0 F dM_isNamed_0 (by decide) ?_
  refine G.istore_nN F dM_isNamed_1 rfl (by decide) rfl ?_
  refine G.iconst 0 F dM_isNamed_2 (by decide) ?_
  refine G.istore_nN F dM_isNamed_3 rfl (by decide) rfl ?_
  exact hloop4 8 0 0 (by decide) bz0 rfl

def f_m_look (b : Int32) (v : Int32) (m : CS) : CS := (if b ≤ 0 then (up2 m 20 3 (m 20 3)) else (if m 0 b.toNatClampNeg = 0 then (up2 m 20 3 ((m 20 3) + 1)) else (if m 4 b.toNatClampNeg = v then (up2 m 20 3 (m 20 3)) else (up2 m 20 3 ((m 20 3) + 1)))))
theorem i_m_look (b : Int32) (hb : vp_in b 21) (v : Int32) (m : CS) (hI : InvM m) : InvM (f_m_look b v m) := by
  unfold f_m_look
  exact (ite_m (fun h1 => (InvM.upo hI rfl)) (fun h1 => (ite_m (fun h2 => (InvM.upo hI rfl)) (fun h2 => (ite_m (fun h3 => (InvM.upo hI rfl)) (fun h3 => (InvM.upo hI rfl)))))))
set_option maxRecDepth 100000 in
set_option maxHeartbeats 4000000 in
theorem k_m_look (l : Launch) (D : va_G) (K : Nat → ClassId) (base : Nat) (Y : Nat → Nat) (b : Int32) (hb : vp_in b 21) (v : Int32) (m : CS) (hI : InvM m) : CtV l D K base yM_look cM_look 3 (rmD 0) [.ref (Y 0), .int b, .int v] (mW Y K m) (mW Y K (f_m_look b v m)) := by
  refine CtV.enter (by decide) (Nat.le_of_ble_eq_true rfl) ?_
  intro κ A Q F hE
  show G κ l (rmD 0) A Q D 3 0 0 (mW Y K m) 0 [(0, .ref (Y 0)), (1, .int b), (2, .int v)] []
  refine G.aload_n 0 F dM_look_0 rfl rfl ?_
  refine G.iload_n 1 F dM_look_1 rfl rfl ?_
  refine G.if_le 33 F dM_look_2 rfl (fun h1 => ?_) (fun h1 => ?_)
  · skip
    refine G.aload_n 0 F dM_look_33 rfl rfl ?_
    refine G.gM 3 F (by decide) flM_92 rfl dM_look_34 ?_
    refine G.pM 3 F (by decide) flM_92 dM_look_37 ?_
    exact G.st (congrArg (mW Y K) (if_pos h1)) (hE _ _ dM_look_40)
  · skip
    refine G.aload_n 0 F dM_look_5 rfl rfl ?_
    refine G.gM 4 F (by decide) flM_7 rfl dM_look_6 ?_
    refine G.iload_n 1 F dM_look_9 rfl rfl ?_
    refine G.ldM 0 F (by decide) rfl hb dM_look_10 ?_
    refine G.if_eq 24 F dM_look_11 rfl (fun h2 => ?_) (fun h2 => ?_)
    · skip
      refine G.aload_n 0 F dM_look_24 rfl rfl ?_
      refine G.gM 3 F (by decide) flM_92 rfl dM_look_25 ?_
      refine G.iconst 1 F dM_look_28 (by decide) ?_
      refine G.iadd F dM_look_29 ?_
      refine G.goto 37 F dM_look_30 rfl ?_
      refine G.pM 3 F (by decide) flM_92 dM_look_37 ?_
      exact G.st (congrArg (mW Y K) ((if_neg h1).trans (if_pos h2))) (hE _ _ dM_look_40)
    · skip
      refine G.aload_n 0 F dM_look_14 rfl rfl ?_
      refine G.gM 8 F (by decide) flM_23 rfl dM_look_15 ?_
      refine G.iload_n 1 F dM_look_18 rfl rfl ?_
      refine G.ldM 4 F (by decide) rfl hb dM_look_19 ?_
      refine G.iload_n 2 F dM_look_20 rfl rfl ?_
      refine G.icmp_eq 33 F dM_look_21 rfl (fun h3 => ?_) (fun h3 => ?_)
      · skip
        refine G.aload_n 0 F dM_look_33 rfl rfl ?_
        refine G.gM 3 F (by decide) flM_92 rfl dM_look_34 ?_
        refine G.pM 3 F (by decide) flM_92 dM_look_37 ?_
        exact G.st (congrArg (mW Y K) ((if_neg h1).trans ((if_neg h2).trans (if_pos h3)))) (hE _ _ dM_look_40)
      · skip
        refine G.aload_n 0 F dM_look_24 rfl rfl ?_
        refine G.gM 3 F (by decide) flM_92 rfl dM_look_25 ?_
        refine G.iconst 1 F dM_look_28 (by decide) ?_
        refine G.iadd F dM_look_29 ?_
        refine G.goto 37 F dM_look_30 rfl ?_
        refine G.pM 3 F (by decide) flM_92 dM_look_37 ?_
        exact G.st (congrArg (mW Y K) ((if_neg h1).trans ((if_neg h2).trans (if_neg h3)))) (hE _ _ dM_look_40)

def f_m_linked (t : Nat) (m : CS) : Int32 := (if m 2 ((m 9 t).toNatClampNeg) = m 11 t then (if m 3 ((m 9 t).toNatClampNeg) = 0 then 1 else 0) else 0)
set_option maxRecDepth 100000 in
set_option maxHeartbeats 4000000 in
theorem k_m_linked (l : Launch) (D : va_G) (K : Nat → ClassId) (base : Nat) (Y : Nat → Nat) (t : Nat) (ht : t < 4) (m : CS) (hI : InvM m) : CtI l D K base yM_linked cM_linked 2 .boolean (rmD 0) [.ref (Y 0), .int (nI t)] (mW Y K m) (f_m_linked t m) (mW Y K m) := by
  refine CtI.enter (by decide) (Nat.le_of_ble_eq_true rfl) ?_
  intro κ A Q F hE
  show G κ l (rmD 0) A Q D 2 0 0 (mW Y K m) 0 [(0, .ref (Y 0)), (1, .int (nI t))] []
  refine G.aload_n 0 F dM_linked_0 rfl rfl ?_
  refine G.gM 6 F (by decide) flM_16 rfl dM_linked_1 ?_
  refine G.aload_n 0 F dM_linked_4 rfl rfl ?_
  refine G.gM 13 F (by decide) flM_38 rfl dM_linked_5 ?_
  refine G.iload_n 1 F dM_linked_8 rfl rfl ?_
  refine G.ldMn 9 F (by decide) rfl (k := t) rfl ht dM_linked_9 ?_
  refine G.ldM 2 F (by decide) rfl (hI 9 _ rfl) dM_linked_10 ?_
  refine G.aload_n 0 F dM_linked_11 rfl rfl ?_
  refine G.gM 15 F (by decide) flM_44 rfl dM_linked_12 ?_
  refine G.iload_n 1 F dM_linked_15 rfl rfl ?_
  refine G.ldMn 11 F (by decide) rfl (k := t) rfl ht dM_linked_16 ?_
  refine G.icmp_ne 38 F dM_linked_17 rfl (fun h1 => ?_) (fun h1 => ?_)
  · skip
    refine G.iconst 0 F dM_linked_38 (by decide) ?_
    exact hE _ _ 0 dM_linked_39 rfl (if_neg h1).symm
  · skip
    refine G.aload_n 0 F dM_linked_20 rfl rfl ?_
    refine G.gM 7 F (by decide) flM_19 rfl dM_linked_21 ?_
    refine G.aload_n 0 F dM_linked_24 rfl rfl ?_
    refine G.gM 13 F (by decide) flM_38 rfl dM_linked_25 ?_
    refine G.iload_n 1 F dM_linked_28 rfl rfl ?_
    refine G.ldMn 9 F (by decide) rfl (k := t) rfl ht dM_linked_29 ?_
    refine G.ldMz 3 F (by decide) rfl (hI 9 _ rfl) dM_linked_30 ?_
    refine G.if_ne 38 F dM_linked_31 rfl (fun h2 => ?_) (fun h2 => ?_)
    · skip
      refine G.iconst 0 F dM_linked_38 (by decide) ?_
      exact hE _ _ 0 dM_linked_39 rfl ((if_pos h1).trans (if_neg h2)).symm
    · skip
      refine G.iconst 1 F dM_linked_34 (by decide) ?_
      refine G.goto 39 F dM_linked_35 rfl ?_
      exact hE _ _ 1 dM_linked_39 rfl ((if_pos h1).trans (if_pos h2)).symm

def f_m_link (b : Int32) (o : Int32) (m : CS) : CS := (up2 (up2 m 2 b.toNatClampNeg o) 3 b.toNatClampNeg 0)
theorem i_m_link (b : Int32) (hb : vp_in b 21) (o : Int32) (ho : vp_in o 21) (m : CS) (hI : InvM m) : InvM (f_m_link b o m) := by
  unfold f_m_link
  exact (InvM.upo (InvM.upi hI ho) rfl)
set_option maxRecDepth 100000 in
set_option maxHeartbeats 4000000 in
theorem k_m_link (l : Launch) (D : va_G) (K : Nat → ClassId) (base : Nat) (Y : Nat → Nat) (b : Int32) (hb : vp_in b 21) (o : Int32) (ho : vp_in o 21) (m : CS) (hI : InvM m) : CtV l D K base yM_link cM_link 4 (rmD 0) [.ref (Y 0), .int b, .int o, .int 0] (mW Y K m) (mW Y K (f_m_link b o m)) := by
  refine CtV.enter (by decide) (Nat.le_of_ble_eq_true rfl) ?_
  intro κ A Q F hE
  show G κ l (rmD 0) A Q D 4 0 0 (mW Y K m) 0 [(0, .ref (Y 0)), (1, .int b), (2, .int o), (3, .int 0)] []
  refine G.aload_n 0 F dM_link_0 rfl rfl ?_
  refine G.gM 6 F (by decide) flM_16 rfl dM_link_1 ?_
  refine G.iload_n 1 F dM_link_4 rfl rfl ?_
  refine G.iload_n 2 F dM_link_5 rfl rfl ?_
  refine G.stM 2 F (by decide) rfl hb dM_link_6 ?_
  refine G.aload_n 0 F dM_link_7 rfl rfl ?_
  refine G.gM 7 F (by decide) flM_19 rfl dM_link_8 ?_
  refine G.iload_n 1 F dM_link_11 rfl rfl ?_
  refine G.iload_n 3 F dM_link_12 rfl rfl ?_
  refine G.stMz 3 F (by decide) rfl rfl hb dM_link_13 ?_
  exact G.st (congrArg (mW Y K) rfl) (hE _ _ dM_link_14)

def f_m_come (t : Nat) (b : Int32) (m : CS) : Int32 × CS := (if m 20 1 = 1 then (if b = 0 then (4, (up2 (up2 m 11 t b) 12 t (m 4 b.toNatClampNeg))) else (3, (up2 (up2 m 11 t b) 12 t (m 4 b.toNatClampNeg)))) else (4, (up2 (up2 m 11 t b) 12 t (m 4 b.toNatClampNeg))))
theorem i_m_come (t : Nat) (ht : t < 4) (b : Int32) (hb : vp_in b 21) (m : CS) (hI : InvM m) : InvM (f_m_come t b m).2 := by
  unfold f_m_come
  exact (ite_m2 (fun h1 => (ite_m2 (fun h2 => (InvM.upo (InvM.upi hI hb) rfl)) (fun h2 => (InvM.upo (InvM.upi hI hb) rfl)))) (fun h1 => (InvM.upo (InvM.upi hI hb) rfl)))
set_option maxRecDepth 100000 in
set_option maxHeartbeats 4000000 in
theorem k_m_come (l : Launch) (D : va_G) (K : Nat → ClassId) (base : Nat) (Y : Nat → Nat) (t : Nat) (ht : t < 4) (b : Int32) (hb : vp_in b 21) (m : CS) (hI : InvM m) : CtI l D K base yM_come cM_come 3 .int (rmD 0) [.ref (Y 0), .int (nI t), .int b] (mW Y K m) (f_m_come t b m).1 (mW Y K (f_m_come t b m).2) := by
  refine CtI.enter (by decide) (Nat.le_of_ble_eq_true rfl) ?_
  intro κ A Q F hE
  show G κ l (rmD 0) A Q D 3 0 0 (mW Y K m) 0 [(0, .ref (Y 0)), (1, .int (nI t)), (2, .int b)] []
  refine G.aload_n 0 F dM_come_0 rfl rfl ?_
  refine G.gM 15 F (by decide) flM_44 rfl dM_come_1 ?_
  refine G.iload_n 1 F dM_come_4 rfl rfl ?_
  refine G.iload_n 2 F dM_come_5 rfl rfl ?_
  refine G.stMn 11 F (by decide) rfl (k := t) rfl ht dM_come_6 ?_
  refine G.aload_n 0 F dM_come_7 rfl rfl ?_
  refine G.gM 16 F (by decide) flM_47 rfl dM_come_8 ?_
  refine G.iload_n 1 F dM_come_11 rfl rfl ?_
  refine G.aload_n 0 F dM_come_12 rfl rfl ?_
  refine G.gM 8 F (by decide) flM_23 rfl dM_come_13 ?_
  refine G.iload_n 2 F dM_come_16 rfl rfl ?_
  refine G.ldM 4 F (by decide) rfl hb dM_come_17 ?_
  refine G.tope (y := m 4 b.toNatClampNeg) (up2_f _ _ _ _ (by decide)) ?_
  refine G.stMn 12 F (by decide) rfl (k := t) rfl ht dM_come_18 ?_
  refine G.aload_n 0 F dM_come_19 rfl rfl ?_
  refine G.gM 1 F (by decide) flM_71 rfl dM_come_20 ?_
  refine G.tope (y := m 20 1) ((up2_f _ _ _ _ (by decide)).trans (up2_f _ _ _ _ (by decide))) ?_
  refine G.iconst 1 F dM_come_23 (by decide) ?_
  refine G.icmp_ne 35 F dM_come_24 rfl (fun h1 => ?_) (fun h1 => ?_)
  · skip
    refine G.iconst 4 F dM_come_35 (by decide) ?_
    have hr9 : f_m_come t b m = (4, (up2 (up2 m 11 t b) 12 t (m 4 b.toNatClampNeg))) := (if_neg h1)
    exact G.st (congrArg (fun z : Int32 × CS => mW Y K z.2) hr9) (hE _ _ 4 dM_come_36 rfl (congrArg Prod.fst hr9).symm)
  · skip
    refine G.iload_n 2 F dM_come_27 rfl rfl ?_
    refine G.if_eq 35 F dM_come_28 rfl (fun h2 => ?_) (fun h2 => ?_)
    · skip
      refine G.iconst 4 F dM_come_35 (by decide) ?_
      have hr9 : f_m_come t b m = (4, (up2 (up2 m 11 t b) 12 t (m 4 b.toNatClampNeg))) := (if_pos h1).trans (if_pos h2)
      exact G.st (congrArg (fun z : Int32 × CS => mW Y K z.2) hr9) (hE _ _ 4 dM_come_36 rfl (congrArg Prod.fst hr9).symm)
    · skip
      refine G.iconst 3 F dM_come_31 (by decide) ?_
      refine G.goto 36 F dM_come_32 rfl ?_
      have hr9 : f_m_come t b m = (3, (up2 (up2 m 11 t b) 12 t (m 4 b.toNatClampNeg))) := (if_pos h1).trans (if_neg h2)
      exact G.st (congrArg (fun z : Int32 × CS => mW Y K z.2) hr9) (hE _ _ 3 dM_come_36 rfl (congrArg Prod.fst hr9).symm)

def f_m_name (t : Nat) (m : CS) : Int32 × CS := (if m 9 t = 0 then (4, (up2 m 19 (2 * t) (m 11 t))) else (if m 19 (2 * t) = m 9 t then (4, (up2 m 19 ((2 * t) + 1) (m 11 t))) else (4, (up2 m 19 (2 * t) (m 11 t)))))
theorem i_m_name (t : Nat) (ht : t < 4) (m : CS) (hI : InvM m) : InvM (f_m_name t m).2 := by
  unfold f_m_name
  exact (ite_m2 (fun h1 => (InvM.upo hI rfl)) (fun h1 => (ite_m2 (fun h2 => (InvM.upo hI rfl)) (fun h2 => (InvM.upo hI rfl)))))
set_option maxRecDepth 100000 in
set_option maxHeartbeats 4000000 in
theorem k_m_name (l : Launch) (D : va_G) (K : Nat → ClassId) (base : Nat) (Y : Nat → Nat) (t : Nat) (ht : t < 4) (m : CS) (hI : InvM m) : CtI l D K base yM_name cM_name 3 .int (rmD 0) [.ref (Y 0), .int (nI t)] (mW Y K m) (f_m_name t m).1 (mW Y K (f_m_name t m).2) := by
  refine CtI.enter (by decide) (Nat.le_of_ble_eq_true rfl) ?_
  intro κ A Q F hE
  show G κ l (rmD 0) A Q D 3 0 0 (mW Y K m) 0 [(0, .ref (Y 0)), (1, .int (nI t))] []
  refine G.aload_n 0 F dM_name_0 rfl rfl ?_
  refine G.gM 13 F (by decide) flM_38 rfl dM_name_1 ?_
  refine G.iload_n 1 F dM_name_4 rfl rfl ?_
  refine G.ldMn 9 F (by decide) rfl (k := t) rfl ht dM_name_5 ?_
  refine G.if_eq 30 F dM_name_6 rfl (fun h1 => ?_) (fun h1 => ?_)
  · skip
    refine G.iconst 0 F dM_name_30 (by decide) ?_
    refine G.istore_nN F dM_name_31 rfl (by decide) rfl ?_
    refine G.aload_n 1 F dM_name_32 rfl rfl ?_
    refine G.gM 23 F (by decide) flM_68 rfl dM_name_33 ?_
    refine G.iload_n 0 F dM_name_36 rfl rfl ?_
    refine G.if_eq 48 F dM_name_37 rfl (fun _ => ?_) (fun h9 => absurd (by decide) h9)
    refine G.iconst 2 F dM_name_48 (by decide) ?_
    refine G.iload_n 2 F dM_name_49 rfl rfl ?_
    refine G.imul F dM_name_50 ?_
    refine G.tope (y := nI (2 * t)) (pk_mul 2 t) ?_
    refine G.aload_n 1 F dM_name_51 rfl rfl ?_
    refine G.gM 15 F (by decide) flM_44 rfl dM_name_52 ?_
    refine G.iload_n 2 F dM_name_55 rfl rfl ?_
    refine G.ldMn 11 F (by decide) rfl (k := t) rfl ht dM_name_56 ?_
    refine G.stMn 19 F (by decide) rfl (k := (2 * t)) rfl (show 2 * t < 8 by omega) dM_name_57 ?_
    refine G.iconst 4 F dM_name_58 (by decide) ?_
    have hr9 : f_m_name t m = (4, (up2 m 19 (2 * t) (m 11 t))) := (if_pos h1)
    exact G.st (congrArg (fun z : Int32 × CS => mW Y K z.2) hr9) (hE _ _ 4 dM_name_59 rfl (congrArg Prod.fst hr9).symm)
  · skip
    refine G.aload_n 0 F dM_name_9 rfl rfl ?_
    refine G.gM 23 F (by decide) flM_68 rfl dM_name_10 ?_
    refine G.iconst 2 F dM_name_13 (by decide) ?_
    refine G.iload_n 1 F dM_name_14 rfl rfl ?_
    refine G.imul F dM_name_15 ?_
    refine G.tope (y := nI (2 * t)) (pk_mul 2 t) ?_
    refine G.ldMn 19 F (by decide) rfl (k := (2 * t)) rfl (show 2 * t < 8 by omega) dM_name_16 ?_
    refine G.aload_n 0 F dM_name_17 rfl rfl ?_
    refine G.gM 13 F (by decide) flM_38 rfl dM_name_18 ?_
    refine G.iload_n 1 F dM_name_21 rfl rfl ?_
    refine G.ldMn 9 F (by decide) rfl (k := t) rfl ht dM_name_22 ?_
    refine G.icmp_ne 30 F dM_name_23 rfl (fun h2 => ?_) (fun h2 => ?_)
    · skip
      refine G.iconst 0 F dM_name_30 (by decide) ?_
      refine G.istore_nN F dM_name_31 rfl (by decide) rfl ?_
      refine G.aload_n 1 F dM_name_32 rfl rfl ?_
      refine G.gM 23 F (by decide) flM_68 rfl dM_name_33 ?_
      refine G.iload_n 0 F dM_name_36 rfl rfl ?_
      refine G.if_eq 48 F dM_name_37 rfl (fun _ => ?_) (fun h9 => absurd (by decide) h9)
      refine G.iconst 2 F dM_name_48 (by decide) ?_
      refine G.iload_n 2 F dM_name_49 rfl rfl ?_
      refine G.imul F dM_name_50 ?_
      refine G.tope (y := nI (2 * t)) (pk_mul 2 t) ?_
      refine G.aload_n 1 F dM_name_51 rfl rfl ?_
      refine G.gM 15 F (by decide) flM_44 rfl dM_name_52 ?_
      refine G.iload_n 2 F dM_name_55 rfl rfl ?_
      refine G.ldMn 11 F (by decide) rfl (k := t) rfl ht dM_name_56 ?_
      refine G.stMn 19 F (by decide) rfl (k := (2 * t)) rfl (show 2 * t < 8 by omega) dM_name_57 ?_
      refine G.iconst 4 F dM_name_58 (by decide) ?_
      have hr9 : f_m_name t m = (4, (up2 m 19 (2 * t) (m 11 t))) := (if_neg h1).trans (if_neg h2)
      exact G.st (congrArg (fun z : Int32 × CS => mW Y K z.2) hr9) (hE _ _ 4 dM_name_59 rfl (congrArg Prod.fst hr9).symm)
    · skip
      refine G.iconst 1 F dM_name_26 (by decide) ?_
      refine G.goto 31 F dM_name_27 rfl ?_
      refine G.istore_nN F dM_name_31 rfl (by decide) rfl ?_
      refine G.aload_n 1 F dM_name_32 rfl rfl ?_
      refine G.gM 23 F (by decide) flM_68 rfl dM_name_33 ?_
      refine G.iload_n 0 F dM_name_36 rfl rfl ?_
      refine G.if_eq 48 F dM_name_37 rfl (fun h9 => absurd h9 (by decide)) (fun _ => ?_)
      refine G.iconst 2 F dM_name_40 (by decide) ?_
      refine G.iload_n 2 F dM_name_41 rfl rfl ?_
      refine G.imul F dM_name_42 ?_
      refine G.tope (y := nI (2 * t)) (pk_mul 2 t) ?_
      refine G.iconst 1 F dM_name_43 (by decide) ?_
      refine G.iadd F dM_name_44 ?_
      refine G.tope (y := nI ((2 * t) + 1)) (nI_add (2 * t) 1) ?_
      refine G.goto 51 F dM_name_45 rfl ?_
      refine G.aload_n 1 F dM_name_51 rfl rfl ?_
      refine G.gM 15 F (by decide) flM_44 rfl dM_name_52 ?_
      refine G.iload_n 2 F dM_name_55 rfl rfl ?_
      refine G.ldMn 11 F (by decide) rfl (k := t) rfl ht dM_name_56 ?_
      refine G.stMn 19 F (by decide) rfl (k := ((2 * t) + 1)) rfl (show (2 * t) + 1 < 8 by omega) dM_name_57 ?_
      refine G.iconst 4 F dM_name_58 (by decide) ?_
      have hr9 : f_m_name t m = (4, (up2 m 19 ((2 * t) + 1) (m 11 t))) := (if_neg h1).trans (if_pos h2)
      exact G.st (congrArg (fun z : Int32 × CS => mW Y K z.2) hr9) (hE _ _ 4 dM_name_59 rfl (congrArg Prod.fst hr9).symm)

def f_m_end (t : Nat) (m : CS) : Int32 × CS := (0, (up2 (up2 (up2 (up2 m 17 t (m 16 t)) 18 t (-1)) 19 (2 * t) 0) 19 ((2 * t) + 1) 0))
theorem i_m_end (t : Nat) (ht : t < 4) (m : CS) (hI : InvM m) : InvM (f_m_end t m).2 := by
  unfold f_m_end
  exact (InvM.upo (InvM.upo (InvM.upo (InvM.upo hI rfl) rfl) rfl) rfl)
set_option maxRecDepth 100000 in
set_option maxHeartbeats 4000000 in
theorem k_m_end (l : Launch) (D : va_G) (K : Nat → ClassId) (base : Nat) (Y : Nat → Nat) (t : Nat) (ht : t < 4) (m : CS) (hI : InvM m) : CtI l D K base yM_end cM_end 2 .int (rmD 0) [.ref (Y 0), .int (nI t)] (mW Y K m) (f_m_end t m).1 (mW Y K (f_m_end t m).2) := by
  refine CtI.enter (by decide) (Nat.le_of_ble_eq_true rfl) ?_
  intro κ A Q F hE
  show G κ l (rmD 0) A Q D 2 0 0 (mW Y K m) 0 [(0, .ref (Y 0)), (1, .int (nI t))] []
  refine G.aload_n 0 F dM_end_0 rfl rfl ?_
  refine G.gM 21 F (by decide) flM_62 rfl dM_end_1 ?_
  refine G.iload_n 1 F dM_end_4 rfl rfl ?_
  refine G.aload_n 0 F dM_end_5 rfl rfl ?_
  refine G.gM 20 F (by decide) flM_59 rfl dM_end_6 ?_
  refine G.iload_n 1 F dM_end_9 rfl rfl ?_
  refine G.ldMn 16 F (by decide) rfl (k := t) rfl ht dM_end_10 ?_
  refine G.stMn 17 F (by decide) rfl (k := t) rfl ht dM_end_11 ?_
  refine G.aload_n 0 F dM_end_12 rfl rfl ?_
  refine G.gM 22 F (by decide) flM_65 rfl dM_end_13 ?_
  refine G.iload_n 1 F dM_end_16 rfl rfl ?_
  refine G.iconst (-1) F dM_end_17 (by decide) ?_
  refine G.stMn 18 F (by decide) rfl (k := t) rfl ht dM_end_18 ?_
  refine G.aload_n 0 F dM_end_19 rfl rfl ?_
  refine G.gM 23 F (by decide) flM_68 rfl dM_end_20 ?_
  refine G.iconst 2 F dM_end_23 (by decide) ?_
  refine G.iload_n 1 F dM_end_24 rfl rfl ?_
  refine G.imul F dM_end_25 ?_
  refine G.tope (y := nI (2 * t)) (pk_mul 2 t) ?_
  refine G.iconst 0 F dM_end_26 (by decide) ?_
  refine G.stMn 19 F (by decide) rfl (k := (2 * t)) rfl (show 2 * t < 8 by omega) dM_end_27 ?_
  refine G.aload_n 0 F dM_end_28 rfl rfl ?_
  refine G.gM 23 F (by decide) flM_68 rfl dM_end_29 ?_
  refine G.iconst 2 F dM_end_32 (by decide) ?_
  refine G.iload_n 1 F dM_end_33 rfl rfl ?_
  refine G.imul F dM_end_34 ?_
  refine G.tope (y := nI (2 * t)) (pk_mul 2 t) ?_
  refine G.iconst 1 F dM_end_35 (by decide) ?_
  refine G.iadd F dM_end_36 ?_
  refine G.tope (y := nI ((2 * t) + 1)) (nI_add (2 * t) 1) ?_
  refine G.iconst 0 F dM_end_37 (by decide) ?_
  refine G.stMn 19 F (by decide) rfl (k := ((2 * t) + 1)) rfl (show (2 * t) + 1 < 8 by omega) dM_end_38 ?_
  refine G.iconst 0 F dM_end_39 (by decide) ?_
  have hr9 : f_m_end t m = (0, (up2 (up2 (up2 (up2 m 17 t (m 16 t)) 18 t (-1)) 19 (2 * t) 0) 19 ((2 * t) + 1) 0)) := rfl
  exact G.st (congrArg (fun z : Int32 × CS => mW Y K z.2) hr9) (hE _ _ 0 dM_end_40 rfl (congrArg Prod.fst hr9).symm)

def f_m_blockg (k : Nat) (w : Int32) (m : CS) : Int32 × CS := (if w < 0 then (0, (up2 m 20 0 1)) else (if 5 < w then (0, (up2 m 20 0 1)) else (if w = 2 then (m 2 k, (up2 m 20 0 0)) else (if nI k = 0 then ((-1), (up2 m 20 0 0)) else (if w = 0 then (m 0 k, (up2 m 20 0 0)) else (if w = 1 then (m 1 k, (up2 m 20 0 0)) else (if w = 2 then (if m 0 k = 2 then (m 5 k, (up2 m 20 0 0)) else ((-1), (up2 m 20 0 0))) else (if w = 3 then (if m 3 k = 0 then (0, (up2 m 20 0 0)) else (1, (up2 m 20 0 0))) else (if w = 4 then (m 4 k, (up2 m 20 0 0)) else (if m 0 k = 2 then (m 5 k, (up2 m 20 0 0)) else ((-1), (up2 m 20 0 0))))))))))))
theorem i_m_blockg (k : Nat) (hk : k < 21) (w : Int32) (m : CS) (hI : InvM m) : InvM (f_m_blockg k w m).2 := by
  unfold f_m_blockg
  exact (ite_m2 (fun h1 => (InvM.upo hI rfl)) (fun h1 => (ite_m2 (fun h2 => (InvM.upo hI rfl)) (fun h2 => (ite_m2 (fun h3 => (InvM.upo hI rfl)) (fun h3 => (ite_m2 (fun h4 => (InvM.upo hI rfl)) (fun h4 => (ite_m2 (fun h5 => (InvM.upo hI rfl)) (fun h5 => (ite_m2 (fun h6 => (InvM.upo hI rfl)) (fun h6 => (ite_m2 (fun h7 => (ite_m2 (fun h8 => (InvM.upo hI rfl)) (fun h8 => (InvM.upo hI rfl)))) (fun h7 => (ite_m2 (fun h9 => (ite_m2 (fun h10 => (InvM.upo hI rfl)) (fun h10 => (InvM.upo hI rfl)))) (fun h9 => (ite_m2 (fun h11 => (InvM.upo hI rfl)) (fun h11 => (ite_m2 (fun h12 => (InvM.upo hI rfl)) (fun h12 => (InvM.upo hI rfl)))))))))))))))))))))
set_option maxRecDepth 100000 in
set_option maxHeartbeats 4000000 in
theorem k_m_blockg (l : Launch) (D : va_G) (K : Nat → ClassId) (base : Nat) (Y : Nat → Nat) (k : Nat) (hk : k < 21) (w : Int32) (m : CS) (hI : InvM m) : CtI l D K base yM_block cM_block 3 .int (rmD 0) [.ref (Y 0), .int (nI k), .int w] (mW Y K m) (f_m_blockg k w m).1 (mW Y K (f_m_blockg k w m).2) := by
  refine CtI.enter (by decide) (Nat.le_of_ble_eq_true rfl) ?_
  intro κ A Q F hE
  show G κ l (rmD 0) A Q D 3 0 0 (mW Y K m) 0 [(0, .ref (Y 0)), (1, .int (nI k)), (2, .int w)] []
  refine G.aload_n 0 F dM_block_0 rfl rfl ?_
  refine G.iload_n 1 F dM_block_1 rfl rfl ?_
  refine G.if_lt 24 F dM_block_2 rfl (fun h9 => absurd h9 (cm_lt0 hk (by decide))) (fun _ => ?_)
  refine G.iload_n 1 F dM_block_5 rfl rfl ?_
  refine G.bipush 20 F dM_block_6 (by decide) ?_
  refine G.icmp_gt 24 F dM_block_8 rfl (fun h9 => absurd h9 (nI_nlt (a := 20) (Nat.le_of_lt_succ (Nat.lt_of_lt_of_le hk (by decide))) (by decide))) (fun _ => ?_)
  refine G.iload_n 2 F dM_block_11 rfl rfl ?_
  refine G.if_lt 24 F dM_block_12 rfl (fun h1 => ?_) (fun h1 => ?_)
  · skip
    refine G.iconst 1 F dM_block_24 (by decide) ?_
    refine G.pM 0 F (by decide) flM_75 dM_block_25 ?_
    refine G.aload_n 0 F dM_block_28 rfl rfl ?_
    refine G.gM 0 F (by decide) flM_75 rfl dM_block_29 ?_
    refine G.tope (y := 1) (up2_eq _ _ _ _) ?_
    refine G.if_le 37 F dM_block_32 rfl (fun h9 => absurd h9 (by decide)) (fun _ => ?_)
    refine G.iconst 0 F dM_block_35 (by decide) ?_
    have hr9 : f_m_blockg k w m = (0, (up2 m 20 0 1)) := (if_pos h1)
    exact G.st (congrArg (fun z : Int32 × CS => mW Y K z.2) hr9) (hE _ _ 0 dM_block_36 rfl (congrArg Prod.fst hr9).symm)
  · skip
    refine G.iload_n 2 F dM_block_15 rfl rfl ?_
    refine G.iconst 5 F dM_block_16 (by decide) ?_
    refine G.icmp_gt 24 F dM_block_17 rfl (fun h2 => ?_) (fun h2 => ?_)
    · skip
      refine G.iconst 1 F dM_block_24 (by decide) ?_
      refine G.pM 0 F (by decide) flM_75 dM_block_25 ?_
      refine G.aload_n 0 F dM_block_28 rfl rfl ?_
      refine G.gM 0 F (by decide) flM_75 rfl dM_block_29 ?_
      refine G.tope (y := 1) (up2_eq _ _ _ _) ?_
      refine G.if_le 37 F dM_block_32 rfl (fun h9 => absurd h9 (by decide)) (fun _ => ?_)
      refine G.iconst 0 F dM_block_35 (by decide) ?_
      have hr9 : f_m_blockg k w m = (0, (up2 m 20 0 1)) := (if_neg h1).trans (if_pos h2)
      exact G.st (congrArg (fun z : Int32 × CS => mW Y K z.2) hr9) (hE _ _ 0 dM_block_36 rfl (congrArg Prod.fst hr9).symm)
    · skip
      refine G.iconst 0 F dM_block_20 (by decide) ?_
      refine G.goto 25 F dM_block_21 rfl ?_
      refine G.pM 0 F (by decide) flM_75 dM_block_25 ?_
      refine G.aload_n 0 F dM_block_28 rfl rfl ?_
      refine G.gM 0 F (by decide) flM_75 rfl dM_block_29 ?_
      refine G.tope (y := 0) (up2_eq _ _ _ _) ?_
      refine G.if_le 37 F dM_block_32 rfl (fun _ => ?_) (fun h9 => absurd (by decide) h9)
      refine G.iload_n 2 F dM_block_37 rfl rfl ?_
      refine G.iconst 2 F dM_block_38 (by decide) ?_
      refine G.icmp_ne 49 F dM_block_39 rfl (fun h3 => ?_) (fun h3 => ?_)
      · skip
        refine G.iload_n 1 F dM_block_49 rfl rfl ?_
        refine G.if_ne 55 F dM_block_50 rfl (fun h4 => ?_) (fun h4 => ?_)
        · skip
          refine G.iload_n 2 F dM_block_55 rfl rfl ?_
          by_cases h5 : w = 0
          · skip
            refine G.tabIn 92 (off := 36) F dM_block_56 (sw_lo h5 (by decide)) (sw_hi h5 (by decide)) (sw_at h5 rfl) rfl ?_
            refine G.aload_n 0 F dM_block_92 rfl rfl ?_
            refine G.gM 4 F (by decide) flM_7 rfl dM_block_93 ?_
            refine G.iload_n 1 F dM_block_96 rfl rfl ?_
            refine G.ldMn 0 F (by decide) rfl (k := k) rfl hk dM_block_97 ?_
            refine G.tope (y := m 0 k) (up2_f _ _ _ _ (by decide)) ?_
            have hr9 : f_m_blockg k w m = (m 0 k, (up2 m 20 0 0)) := (if_neg h1).trans ((if_neg h2).trans ((if_neg h3).trans ((if_neg h4).trans (if_pos h5))))
            exact G.st (congrArg (fun z : Int32 × CS => mW Y K z.2) hr9) (hE _ _ (m 0 k) dM_block_98 rfl (congrArg Prod.fst hr9).symm)
          by_cases h6 : w = 1
          · skip
            refine G.tabIn 99 (off := 43) F dM_block_56 (sw_lo h6 (by decide)) (sw_hi h6 (by decide)) (sw_at h6 rfl) rfl ?_
            refine G.aload_n 0 F dM_block_99 rfl rfl ?_
            refine G.gM 5 F (by decide) flM_13 rfl dM_block_100 ?_
            refine G.iload_n 1 F dM_block_103 rfl rfl ?_
            refine G.ldMn 1 F (by decide) rfl (k := k) rfl hk dM_block_104 ?_
            refine G.tope (y := m 1 k) (up2_f _ _ _ _ (by decide)) ?_
            have hr9 : f_m_blockg k w m = (m 1 k, (up2 m 20 0 0)) := (if_neg h1).trans ((if_neg h2).trans ((if_neg h3).trans ((if_neg h4).trans ((if_neg h5).trans (if_pos h6)))))
            exact G.st (congrArg (fun z : Int32 × CS => mW Y K z.2) hr9) (hE _ _ (m 1 k) dM_block_105 rfl (congrArg Prod.fst hr9).symm)
          by_cases h7 : w = 2
          · skip
            refine G.tabIn 128 (off := 72) F dM_block_56 (sw_lo h7 (by decide)) (sw_hi h7 (by decide)) (sw_at h7 rfl) rfl ?_
            refine G.aload_n 0 F dM_block_128 rfl rfl ?_
            refine G.gM 4 F (by decide) flM_7 rfl dM_block_129 ?_
            refine G.iload_n 1 F dM_block_132 rfl rfl ?_
            refine G.ldMn 0 F (by decide) rfl (k := k) rfl hk dM_block_133 ?_
            refine G.tope (y := m 0 k) (up2_f _ _ _ _ (by decide)) ?_
            refine G.iconst 2 F dM_block_134 (by decide) ?_
            refine G.icmp_ne 147 F dM_block_135 rfl (fun h8 => ?_) (fun h8 => ?_)
            · skip
              refine G.iconst (-1) F dM_block_147 (by decide) ?_
              have hr9 : f_m_blockg k w m = ((-1), (up2 m 20 0 0)) := (if_neg h1).trans ((if_neg h2).trans ((if_neg h3).trans ((if_neg h4).trans ((if_neg h5).trans ((if_neg h6).trans ((if_pos h7).trans (if_neg h8)))))))
              exact G.st (congrArg (fun z : Int32 × CS => mW Y K z.2) hr9) (hE _ _ (-1) dM_block_148 rfl (congrArg Prod.fst hr9).symm)
            · skip
              refine G.aload_n 0 F dM_block_138 rfl rfl ?_
              refine G.gM 9 F (by decide) flM_26 rfl dM_block_139 ?_
              refine G.iload_n 1 F dM_block_142 rfl rfl ?_
              refine G.ldMn 5 F (by decide) rfl (k := k) rfl hk dM_block_143 ?_
              refine G.tope (y := m 5 k) (up2_f _ _ _ _ (by decide)) ?_
              refine G.goto 148 F dM_block_144 rfl ?_
              have hr9 : f_m_blockg k w m = (m 5 k, (up2 m 20 0 0)) := (if_neg h1).trans ((if_neg h2).trans ((if_neg h3).trans ((if_neg h4).trans ((if_neg h5).trans ((if_neg h6).trans ((if_pos h7).trans (if_pos h8)))))))
              exact G.st (congrArg (fun z : Int32 × CS => mW Y K z.2) hr9) (hE _ _ (m 5 k) dM_block_148 rfl (congrArg Prod.fst hr9).symm)
          by_cases h9 : w = 3
          · skip
            refine G.tabIn 106 (off := 50) F dM_block_56 (sw_lo h9 (by decide)) (sw_hi h9 (by decide)) (sw_at h9 rfl) rfl ?_
            refine G.aload_n 0 F dM_block_106 rfl rfl ?_
            refine G.gM 7 F (by decide) flM_19 rfl dM_block_107 ?_
            refine G.iload_n 1 F dM_block_110 rfl rfl ?_
            refine G.ldMzn 3 F (by decide) rfl (k := k) rfl hk dM_block_111 ?_
            refine G.tope (y := m 3 k) (up2_f _ _ _ _ (by decide)) ?_
            refine G.if_eq 119 F dM_block_112 rfl (fun h10 => ?_) (fun h10 => ?_)
            · skip
              refine G.iconst 0 F dM_block_119 (by decide) ?_
              have hr9 : f_m_blockg k w m = (0, (up2 m 20 0 0)) := (if_neg h1).trans ((if_neg h2).trans ((if_neg h3).trans ((if_neg h4).trans ((if_neg h5).trans ((if_neg h6).trans ((if_neg h7).trans ((if_pos h9).trans (if_pos h10))))))))
              exact G.st (congrArg (fun z : Int32 × CS => mW Y K z.2) hr9) (hE _ _ 0 dM_block_120 rfl (congrArg Prod.fst hr9).symm)
            · skip
              refine G.iconst 1 F dM_block_115 (by decide) ?_
              refine G.goto 120 F dM_block_116 rfl ?_
              have hr9 : f_m_blockg k w m = (1, (up2 m 20 0 0)) := (if_neg h1).trans ((if_neg h2).trans ((if_neg h3).trans ((if_neg h4).trans ((if_neg h5).trans ((if_neg h6).trans ((if_neg h7).trans ((if_pos h9).trans (if_neg h10))))))))
              exact G.st (congrArg (fun z : Int32 × CS => mW Y K z.2) hr9) (hE _ _ 1 dM_block_120 rfl (congrArg Prod.fst hr9).symm)
          by_cases h11 : w = 4
          · skip
            refine G.tabIn 121 (off := 65) F dM_block_56 (sw_lo h11 (by decide)) (sw_hi h11 (by decide)) (sw_at h11 rfl) rfl ?_
            refine G.aload_n 0 F dM_block_121 rfl rfl ?_
            refine G.gM 8 F (by decide) flM_23 rfl dM_block_122 ?_
            refine G.iload_n 1 F dM_block_125 rfl rfl ?_
            refine G.ldMn 4 F (by decide) rfl (k := k) rfl hk dM_block_126 ?_
            refine G.tope (y := m 4 k) (up2_f _ _ _ _ (by decide)) ?_
            have hr9 : f_m_blockg k w m = (m 4 k, (up2 m 20 0 0)) := (if_neg h1).trans ((if_neg h2).trans ((if_neg h3).trans ((if_neg h4).trans ((if_neg h5).trans ((if_neg h6).trans ((if_neg h7).trans ((if_neg h9).trans (if_pos h11))))))))
            exact G.st (congrArg (fun z : Int32 × CS => mW Y K z.2) hr9) (hE _ _ (m 4 k) dM_block_127 rfl (congrArg Prod.fst hr9).symm)
          refine G.tabOut 128 F dM_block_56 (by have e0 := lv_neT h5 (show (0 : Int32).toInt = 0 from rfl); have e1 := lv_neT h6 (show (1 : Int32).toInt = 1 from rfl); have e2 := lv_neT h7 (show (2 : Int32).toInt = 2 from rfl); have e3 := lv_neT h9 (show (3 : Int32).toInt = 3 from rfl); have e4 := lv_neT h11 (show (4 : Int32).toInt = 4 from rfl); omega) rfl ?_
          refine G.aload_n 0 F dM_block_128 rfl rfl ?_
          refine G.gM 4 F (by decide) flM_7 rfl dM_block_129 ?_
          refine G.iload_n 1 F dM_block_132 rfl rfl ?_
          refine G.ldMn 0 F (by decide) rfl (k := k) rfl hk dM_block_133 ?_
          refine G.tope (y := m 0 k) (up2_f _ _ _ _ (by decide)) ?_
          refine G.iconst 2 F dM_block_134 (by decide) ?_
          refine G.icmp_ne 147 F dM_block_135 rfl (fun h12 => ?_) (fun h12 => ?_)
          · skip
            refine G.iconst (-1) F dM_block_147 (by decide) ?_
            have hr9 : f_m_blockg k w m = ((-1), (up2 m 20 0 0)) := (if_neg h1).trans ((if_neg h2).trans ((if_neg h3).trans ((if_neg h4).trans ((if_neg h5).trans ((if_neg h6).trans ((if_neg h7).trans ((if_neg h9).trans ((if_neg h11).trans (if_neg h12)))))))))
            exact G.st (congrArg (fun z : Int32 × CS => mW Y K z.2) hr9) (hE _ _ (-1) dM_block_148 rfl (congrArg Prod.fst hr9).symm)
          · skip
            refine G.aload_n 0 F dM_block_138 rfl rfl ?_
            refine G.gM 9 F (by decide) flM_26 rfl dM_block_139 ?_
            refine G.iload_n 1 F dM_block_142 rfl rfl ?_
            refine G.ldMn 5 F (by decide) rfl (k := k) rfl hk dM_block_143 ?_
            refine G.tope (y := m 5 k) (up2_f _ _ _ _ (by decide)) ?_
            refine G.goto 148 F dM_block_144 rfl ?_
            have hr9 : f_m_blockg k w m = (m 5 k, (up2 m 20 0 0)) := (if_neg h1).trans ((if_neg h2).trans ((if_neg h3).trans ((if_neg h4).trans ((if_neg h5).trans ((if_neg h6).trans ((if_neg h7).trans ((if_neg h9).trans ((if_neg h11).trans (if_pos h12)))))))))
            exact G.st (congrArg (fun z : Int32 × CS => mW Y K z.2) hr9) (hE _ _ (m 5 k) dM_block_148 rfl (congrArg Prod.fst hr9).symm)
        · skip
          refine G.iconst (-1) F dM_block_53 (by decide) ?_
          have hr9 : f_m_blockg k w m = ((-1), (up2 m 20 0 0)) := (if_neg h1).trans ((if_neg h2).trans ((if_neg h3).trans (if_pos h4)))
          exact G.st (congrArg (fun z : Int32 × CS => mW Y K z.2) hr9) (hE _ _ (-1) dM_block_54 rfl (congrArg Prod.fst hr9).symm)
      · skip
        refine G.aload_n 0 F dM_block_42 rfl rfl ?_
        refine G.gM 6 F (by decide) flM_16 rfl dM_block_43 ?_
        refine G.iload_n 1 F dM_block_46 rfl rfl ?_
        refine G.ldMn 2 F (by decide) rfl (k := k) rfl hk dM_block_47 ?_
        refine G.tope (y := m 2 k) (up2_f _ _ _ _ (by decide)) ?_
        have hr9 : f_m_blockg k w m = (m 2 k, (up2 m 20 0 0)) := (if_neg h1).trans ((if_neg h2).trans (if_pos h3))
        exact G.st (congrArg (fun z : Int32 × CS => mW Y K z.2) hr9) (hE _ _ (m 2 k) dM_block_48 rfl (congrArg Prod.fst hr9).symm)

def f_m_blockbl (v : Int32) (w : Int32) (m : CS) : Int32 × CS := (0, (up2 m 20 0 1))
theorem i_m_blockbl (v : Int32) (w : Int32) (m : CS) (hI : InvM m) (hv : v < 0) : InvM (f_m_blockbl v w m).2 := by
  unfold f_m_blockbl
  exact (InvM.upo hI rfl)
set_option maxRecDepth 100000 in
set_option maxHeartbeats 4000000 in
theorem k_m_blockbl (l : Launch) (D : va_G) (K : Nat → ClassId) (base : Nat) (Y : Nat → Nat) (v : Int32) (w : Int32) (m : CS) (hI : InvM m) (hv : v < 0) : CtI l D K base yM_block cM_block 3 .int (rmD 0) [.ref (Y 0), .int v, .int w] (mW Y K m) (f_m_blockbl v w m).1 (mW Y K (f_m_blockbl v w m).2) := by
  refine CtI.enter (by decide) (Nat.le_of_ble_eq_true rfl) ?_
  intro κ A Q F hE
  show G κ l (rmD 0) A Q D 3 0 0 (mW Y K m) 0 [(0, .ref (Y 0)), (1, .int v), (2, .int w)] []
  refine G.aload_n 0 F dM_block_0 rfl rfl ?_
  refine G.iload_n 1 F dM_block_1 rfl rfl ?_
  refine G.if_lt 24 F dM_block_2 rfl (fun _ => ?_) (fun h9 => absurd hv h9)
  refine G.iconst 1 F dM_block_24 (by decide) ?_
  refine G.pM 0 F (by decide) flM_75 dM_block_25 ?_
  refine G.aload_n 0 F dM_block_28 rfl rfl ?_
  refine G.gM 0 F (by decide) flM_75 rfl dM_block_29 ?_
  refine G.tope (y := 1) (up2_eq _ _ _ _) ?_
  refine G.if_le 37 F dM_block_32 rfl (fun h9 => absurd h9 (by decide)) (fun _ => ?_)
  refine G.iconst 0 F dM_block_35 (by decide) ?_
  have hr9 : f_m_blockbl v w m = (0, (up2 m 20 0 1)) := rfl
  exact G.st (congrArg (fun z : Int32 × CS => mW Y K z.2) hr9) (hE _ _ 0 dM_block_36 rfl (congrArg Prod.fst hr9).symm)

def f_m_blockbh (v : Int32) (w : Int32) (m : CS) : Int32 × CS := (0, (up2 m 20 0 1))
theorem i_m_blockbh (v : Int32) (w : Int32) (m : CS) (hI : InvM m) (hv : ¬ v < 0) (hv2 : 20 < v) : InvM (f_m_blockbh v w m).2 := by
  unfold f_m_blockbh
  exact (InvM.upo hI rfl)
set_option maxRecDepth 100000 in
set_option maxHeartbeats 4000000 in
theorem k_m_blockbh (l : Launch) (D : va_G) (K : Nat → ClassId) (base : Nat) (Y : Nat → Nat) (v : Int32) (w : Int32) (m : CS) (hI : InvM m) (hv : ¬ v < 0) (hv2 : 20 < v) : CtI l D K base yM_block cM_block 3 .int (rmD 0) [.ref (Y 0), .int v, .int w] (mW Y K m) (f_m_blockbh v w m).1 (mW Y K (f_m_blockbh v w m).2) := by
  refine CtI.enter (by decide) (Nat.le_of_ble_eq_true rfl) ?_
  intro κ A Q F hE
  show G κ l (rmD 0) A Q D 3 0 0 (mW Y K m) 0 [(0, .ref (Y 0)), (1, .int v), (2, .int w)] []
  refine G.aload_n 0 F dM_block_0 rfl rfl ?_
  refine G.iload_n 1 F dM_block_1 rfl rfl ?_
  refine G.if_lt 24 F dM_block_2 rfl (fun h9 => absurd h9 hv) (fun _ => ?_)
  refine G.iload_n 1 F dM_block_5 rfl rfl ?_
  refine G.bipush 20 F dM_block_6 (by decide) ?_
  refine G.icmp_gt 24 F dM_block_8 rfl (fun _ => ?_) (fun h9 => absurd hv2 h9)
  refine G.iconst 1 F dM_block_24 (by decide) ?_
  refine G.pM 0 F (by decide) flM_75 dM_block_25 ?_
  refine G.aload_n 0 F dM_block_28 rfl rfl ?_
  refine G.gM 0 F (by decide) flM_75 rfl dM_block_29 ?_
  refine G.tope (y := 1) (up2_eq _ _ _ _) ?_
  refine G.if_le 37 F dM_block_32 rfl (fun h9 => absurd h9 (by decide)) (fun _ => ?_)
  refine G.iconst 0 F dM_block_35 (by decide) ?_
  have hr9 : f_m_blockbh v w m = (0, (up2 m 20 0 1)) := rfl
  exact G.st (congrArg (fun z : Int32 × CS => mW Y K z.2) hr9) (hE _ _ 0 dM_block_36 rfl (congrArg Prod.fst hr9).symm)

def fl_m_advance_92  : Nat → Nat → Int32 → CS → Int32 × CS
  | 0, _, z, m9 => (1, m9)
  | n + 1, k, z, m9 => (if m9 0 k = 2 then (if (m9 20 2) - 2 < m9 5 k then (fl_m_advance_92  n (k + 1) z (up2 m9 0 k (m9 0 k))) else (fl_m_advance_92  n (k + 1) z (up2 m9 0 k 0))) else (fl_m_advance_92  n (k + 1) z (up2 m9 0 k (m9 0 k))))
def fl_m_advance_31  : Nat → Nat → Int32 → CS → Int32 × CS
  | 0, _, z, m9 => (if z = 0 then (0, m9) else (fl_m_advance_92  20 1 z (up2 m9 20 2 ((m9 20 2) + 1))))
  | n + 1, k, z, m9 => (if z = 0 then (fl_m_advance_31  n (k + 1) 0 m9) else (if m9 18 k < 0 then (fl_m_advance_31  n (k + 1) 1 m9) else (if m9 18 k = m9 20 2 then (fl_m_advance_31  n (k + 1) 1 m9) else (fl_m_advance_31  n (k + 1) 0 m9))))
def f_m_advance (m : CS) : Int32 × CS := (if m 20 1 = 0 then (fl_m_advance_31 4 0 1 (up2 m 20 0 0)) else (fl_m_advance_31 4 0 0 (up2 m 20 0 1)))
theorem i_fl_m_advance_92  : ∀ (n k : Nat) (z : Int32) (m9 : CS), k + n = 21 → InvM m9 → InvM (fl_m_advance_92  n k z m9).2 := by
  intro n
  induction n with
  | zero =>
    intro k z m9 hkn hI9
    exact hI9
  | succ n ih =>
    intro k z m9 hkn hI9
    have hk : k < 21 := by omega
    unfold fl_m_advance_92
    exact (ite_m2 (fun h3 => (ite_m2 (fun h4 => (ih (k + 1) z _ (by omega) (InvM.upo hI9 rfl))) (fun h4 => (ih (k + 1) z _ (by omega) (InvM.upo hI9 rfl))))) (fun h3 => (ih (k + 1) z _ (by omega) (InvM.upo hI9 rfl))))
theorem i_fl_m_advance_31  : ∀ (n k : Nat) (z : Int32) (m9 : CS), k + n = 4 → InvM m9 → bz z → InvM (fl_m_advance_31  n k z m9).2 := by
  intro n
  induction n with
  | zero =>
    intro k z m9 hkn hI9 hr_z
    exact (ite_m2 (fun h2 => hI9) (fun h2 => (i_fl_m_advance_92  20 1 z _ (by decide) (InvM.upo hI9 rfl))))
  | succ n ih =>
    intro k z m9 hkn hI9 hr_z
    have hk : k < 4 := by omega
    unfold fl_m_advance_31
    exact (ite_m2 (fun h5 => (ih (k + 1) 0 _ (by omega) hI9 bz0)) (fun h5 => (ite_m2 (fun h6 => (ih (k + 1) 1 _ (by omega) hI9 bz1)) (fun h6 => (ite_m2 (fun h7 => (ih (k + 1) 1 _ (by omega) hI9 bz1)) (fun h7 => (ih (k + 1) 0 _ (by omega) hI9 bz0)))))))
theorem i_m_advance  (m : CS) (hI : InvM m) : InvM (f_m_advance  m).2 := by
  unfold f_m_advance
  exact (ite_m2 (fun h1 => (i_fl_m_advance_31  4 0 1 _ (by decide) (InvM.upo hI rfl) bz1)) (fun h1 => (i_fl_m_advance_31  4 0 0 _ (by decide) (InvM.upo hI rfl) bz0)))
set_option maxRecDepth 100000 in
set_option maxHeartbeats 4000000 in
theorem k_m_advance (l : Launch) (D : va_G) (K : Nat → ClassId) (base : Nat) (Y : Nat → Nat)  (m : CS) (hI : InvM m) : CtI l D K base yM_advance cM_advance 3 .boolean (rmD 0) [.ref (Y 0)] (mW Y K m) (f_m_advance m).1 (mW Y K (f_m_advance m).2) := by
  refine CtI.enter (by decide) (Nat.le_of_ble_eq_true rfl) ?_
  intro κ A Q F hE
  show G κ l (rmD 0) A Q D 3 0 0 (mW Y K m) 0 [(0, .ref (Y 0))] []
  have hloop92 : ∀ (n k : Nat) (z : Int32) (m9 : CS), k + n = 21 → InvM m9 → f_m_advance m = fl_m_advance_92  n k z m9 → G κ l (rmD 0) A Q D 3 0 0 (mW Y K m9) 92 [(2, .int (nI k)), (1, .int z), (0, .ref (Y 0))] [] := by
    intro n
    induction n with
    | zero =>
      intro k z m9 hkn hI9 hρ
      obtain rfl : k = 21 := by omega
      refine G.iload_n 0 F dM_advance_92 rfl rfl ?_
      refine G.bipush 20 F dM_advance_93 (by decide) ?_
      refine G.icmp_gt 145 F dM_advance_95 rfl (fun _ => ?_) (fun h9 => absurd (by decide) h9)
      refine G.iconst 1 F dM_advance_145 (by decide) ?_
      have hr9 : f_m_advance m = (1, m9) := hρ
      exact G.st (congrArg (fun z : Int32 × CS => mW Y K z.2) hr9) (hE _ _ 1 dM_advance_146 rfl (congrArg Prod.fst hr9).symm)
    | succ n ih =>
      intro k z m9 hkn hI9 hρ
      have hk : k < 21 := by omega
      refine G.iload_n 0 F dM_advance_92 rfl rfl ?_
      refine G.bipush 20 F dM_advance_93 (by decide) ?_
      refine G.icmp_gt 145 F dM_advance_95 rfl (fun h9 => absurd h9 (nI_nlt (a := 20) (Nat.le_of_lt_succ (Nat.lt_of_lt_of_le hk (by decide))) (by decide))) (fun _ => ?_)
      refine G.aload_n 2 F dM_advance_98 rfl rfl ?_
      refine G.gM 4 F (by decide) flM_7 rfl dM_advance_99 ?_
      refine G.iload_n 0 F dM_advance_102 rfl rfl ?_
      refine G.aload_n 2 F dM_advance_103 rfl rfl ?_
      refine G.gM 4 F (by decide) flM_7 rfl dM_advance_104 ?_
      refine G.iload_n 0 F dM_advance_107 rfl rfl ?_
      refine G.ldMn 0 F (by decide) rfl (k := k) rfl hk dM_advance_108 ?_
      refine G.iconst 2 F dM_advance_109 (by decide) ?_
      refine G.icmp_ne 132 F dM_advance_110 rfl (fun h3 => ?_) (fun h3 => ?_)
      · skip
        refine G.aload_n 2 F dM_advance_132 rfl rfl ?_
        refine G.gM 4 F (by decide) flM_7 rfl dM_advance_133 ?_
        refine G.iload_n 0 F dM_advance_136 rfl rfl ?_
        refine G.ldMn 0 F (by decide) rfl (k := k) rfl hk dM_advance_137 ?_
        refine G.stMn 0 F (by decide) rfl (k := k) rfl hk dM_advance_138 ?_
        refine G.iinc 0 (nI (k + 1)) F dM_advance_139 rfl (nI_succ k).symm (by decide) rfl ?_
        refine G.goto 92 F dM_advance_142 rfl ?_
        exact ih (k + 1) z _ (by omega) (InvM.upo hI9 rfl) (hρ.trans (if_neg h3))
      · skip
        refine G.aload_n 2 F dM_advance_113 rfl rfl ?_
        refine G.gM 9 F (by decide) flM_26 rfl dM_advance_114 ?_
        refine G.iload_n 0 F dM_advance_117 rfl rfl ?_
        refine G.ldMn 5 F (by decide) rfl (k := k) rfl hk dM_advance_118 ?_
        refine G.aload_n 2 F dM_advance_119 rfl rfl ?_
        refine G.gM 2 F (by decide) flM_85 rfl dM_advance_120 ?_
        refine G.iconst 2 F dM_advance_123 (by decide) ?_
        refine G.isub F dM_advance_124 ?_
        refine G.icmp_gt 132 F dM_advance_125 rfl (fun h4 => ?_) (fun h4 => ?_)
        · skip
          refine G.aload_n 2 F dM_advance_132 rfl rfl ?_
          refine G.gM 4 F (by decide) flM_7 rfl dM_advance_133 ?_
          refine G.iload_n 0 F dM_advance_136 rfl rfl ?_
          refine G.ldMn 0 F (by decide) rfl (k := k) rfl hk dM_advance_137 ?_
          refine G.stMn 0 F (by decide) rfl (k := k) rfl hk dM_advance_138 ?_
          refine G.iinc 0 (nI (k + 1)) F dM_advance_139 rfl (nI_succ k).symm (by decide) rfl ?_
          refine G.goto 92 F dM_advance_142 rfl ?_
          exact ih (k + 1) z _ (by omega) (InvM.upo hI9 rfl) (hρ.trans ((if_pos h3).trans (if_pos h4)))
        · skip
          refine G.iconst 0 F dM_advance_128 (by decide) ?_
          refine G.goto 138 F dM_advance_129 rfl ?_
          refine G.stMn 0 F (by decide) rfl (k := k) rfl hk dM_advance_138 ?_
          refine G.iinc 0 (nI (k + 1)) F dM_advance_139 rfl (nI_succ k).symm (by decide) rfl ?_
          refine G.goto 92 F dM_advance_142 rfl ?_
          exact ih (k + 1) z _ (by omega) (InvM.upo hI9 rfl) (hρ.trans ((if_pos h3).trans (if_neg h4)))
  have hloop31 : ∀ (n k : Nat) (z : Int32) (m9 : CS), k + n = 4 → InvM m9 → bz z → f_m_advance m = fl_m_advance_31  n k z m9 → G κ l (rmD 0) A Q D 3 0 0 (mW Y K m9) 31 [(2, .int (nI k)), (1, .int z), (0, .ref (Y 0))] [] := by
    intro n
    induction n with
    | zero =>
      intro k z m9 hkn hI9 hr_z hρ
      obtain rfl : k = 4 := by omega
      refine G.iload_n 0 F dM_advance_31 rfl rfl ?_
      refine G.iconst 4 F dM_advance_32 (by decide) ?_
      refine G.icmp_ge 74 F dM_advance_33 rfl (fun _ => ?_) (fun h9 => absurd (by decide) h9)
      refine G.iload_n 1 F dM_advance_74 rfl rfl ?_
      refine G.if_ne 80 F dM_advance_75 rfl (fun h2 => ?_) (fun h2 => ?_)
      · skip
        refine G.aload_n 2 F dM_advance_80 rfl rfl ?_
        refine G.dup F dM_advance_81 rfl ?_
        refine G.gM 2 F (by decide) flM_85 rfl dM_advance_82 ?_
        refine G.iconst 1 F dM_advance_85 (by decide) ?_
        refine G.iadd F dM_advance_86 ?_
        refine G.pM 2 F (by decide) flM_85 dM_advance_87 ?_
        refine G.iconst 1 F dM_advance_90 (by decide) ?_
        refine G.istore_n 0 F dM_advance_91 rfl rfl (by decide) rfl ?_
        exact hloop92 20 1 z _ (by decide) (InvM.upo hI9 rfl) (hρ.trans (if_neg h2))
      · skip
        refine G.iconst 0 F dM_advance_78 (by decide) ?_
        have hr9 : f_m_advance m = (0, m9) := hρ.trans (if_pos h2)
        exact G.st (congrArg (fun z : Int32 × CS => mW Y K z.2) hr9) (hE _ _ 0 dM_advance_79 rfl (congrArg Prod.fst hr9).symm)
    | succ n ih =>
      intro k z m9 hkn hI9 hr_z hρ
      have hk : k < 4 := by omega
      refine G.iload_n 0 F dM_advance_31 rfl rfl ?_
      refine G.iconst 4 F dM_advance_32 (by decide) ?_
      refine G.icmp_ge 74 F dM_advance_33 rfl (fun h9 => absurd h9 (nI_ge (b := 4) (Nat.lt_of_lt_of_le hk (by decide)) (by decide))) (fun _ => ?_)
      refine G.iload_n 1 F dM_advance_36 rfl rfl ?_
      refine G.if_eq 66 F dM_advance_37 rfl (fun h5 => ?_) (fun h5 => ?_)
      · skip
        refine G.iconst 0 F dM_advance_66 (by decide) ?_
        refine G.istore_n 1 F dM_advance_67 rfl rfl (by decide) rfl ?_
        refine G.iinc 0 (nI (k + 1)) F dM_advance_68 rfl (nI_succ k).symm (by decide) rfl ?_
        refine G.goto 31 F dM_advance_71 rfl ?_
        exact ih (k + 1) 0 _ (by omega) hI9 bz0 (hρ.trans (if_pos h5))
      · skip
        refine G.aload_n 2 F dM_advance_40 rfl rfl ?_
        refine G.gM 22 F (by decide) flM_65 rfl dM_advance_41 ?_
        refine G.iload_n 0 F dM_advance_44 rfl rfl ?_
        refine G.ldMn 18 F (by decide) rfl (k := k) rfl hk dM_advance_45 ?_
        refine G.if_lt 62 F dM_advance_46 rfl (fun h6 => ?_) (fun h6 => ?_)
        · skip
          refine G.iconst 1 F dM_advance_62 (by decide) ?_
          refine G.goto 67 F dM_advance_63 rfl ?_
          refine G.istore_n 1 F dM_advance_67 rfl rfl (by decide) rfl ?_
          refine G.iinc 0 (nI (k + 1)) F dM_advance_68 rfl (nI_succ k).symm (by decide) rfl ?_
          refine G.goto 31 F dM_advance_71 rfl ?_
          exact ih (k + 1) 1 _ (by omega) hI9 bz1 (hρ.trans ((if_neg h5).trans (if_pos h6)))
        · skip
          refine G.aload_n 2 F dM_advance_49 rfl rfl ?_
          refine G.gM 22 F (by decide) flM_65 rfl dM_advance_50 ?_
          refine G.iload_n 0 F dM_advance_53 rfl rfl ?_
          refine G.ldMn 18 F (by decide) rfl (k := k) rfl hk dM_advance_54 ?_
          refine G.aload_n 2 F dM_advance_55 rfl rfl ?_
          refine G.gM 2 F (by decide) flM_85 rfl dM_advance_56 ?_
          refine G.icmp_ne 66 F dM_advance_59 rfl (fun h7 => ?_) (fun h7 => ?_)
          · skip
            refine G.iconst 0 F dM_advance_66 (by decide) ?_
            refine G.istore_n 1 F dM_advance_67 rfl rfl (by decide) rfl ?_
            refine G.iinc 0 (nI (k + 1)) F dM_advance_68 rfl (nI_succ k).symm (by decide) rfl ?_
            refine G.goto 31 F dM_advance_71 rfl ?_
            exact ih (k + 1) 0 _ (by omega) hI9 bz0 (hρ.trans ((if_neg h5).trans ((if_neg h6).trans (if_neg h7))))
          · skip
            refine G.iconst 1 F dM_advance_62 (by decide) ?_
            refine G.goto 67 F dM_advance_63 rfl ?_
            refine G.istore_n 1 F dM_advance_67 rfl rfl (by decide) rfl ?_
            refine G.iinc 0 (nI (k + 1)) F dM_advance_68 rfl (nI_succ k).symm (by decide) rfl ?_
            refine G.goto 31 F dM_advance_71 rfl ?_
            exact ih (k + 1) 1 _ (by omega) hI9 bz1 (hρ.trans ((if_neg h5).trans ((if_neg h6).trans (if_pos h7))))
  refine G.aload_n 0 F dM_advance_0 rfl rfl ?_
  refine G.aload_n 0 F dM_advance_1 rfl rfl ?_
  refine G.gM 1 F (by decide) flM_71 rfl dM_advance_2 ?_
  refine G.if_ne 12 F dM_advance_5 rfl (fun h1 => ?_) (fun h1 => ?_)
  · skip
    refine G.iconst 1 F dM_advance_12 (by decide) ?_
    refine G.pM 0 F (by decide) flM_75 dM_advance_13 ?_
    refine G.aload_n 0 F dM_advance_16 rfl rfl ?_
    refine G.gM 0 F (by decide) flM_75 rfl dM_advance_17 ?_
    refine G.tope (y := 1) (up2_eq _ _ _ _) ?_
    refine G.if_ne 27 F dM_advance_20 rfl (fun _ => ?_) (fun h9 => absurd h9 (by decide))
    refine G.iconst 0 F dM_advance_27 (by decide) ?_
    refine G.istore_nN F dM_advance_28 rfl (by decide) rfl ?_
    refine G.iconst 0 F dM_advance_29 (by decide) ?_
    refine G.istore_nN F dM_advance_30 rfl (by decide) rfl ?_
    exact hloop31 4 0 0 _ (by decide) (InvM.upo hI rfl) bz0 (if_neg h1)
  · skip
    refine G.iconst 0 F dM_advance_8 (by decide) ?_
    refine G.goto 13 F dM_advance_9 rfl ?_
    refine G.pM 0 F (by decide) flM_75 dM_advance_13 ?_
    refine G.aload_n 0 F dM_advance_16 rfl rfl ?_
    refine G.gM 0 F (by decide) flM_75 rfl dM_advance_17 ?_
    refine G.tope (y := 0) (up2_eq _ _ _ _) ?_
    refine G.if_ne 27 F dM_advance_20 rfl (fun h9 => absurd (by decide) h9) (fun _ => ?_)
    refine G.iconst 1 F dM_advance_23 (by decide) ?_
    refine G.goto 28 F dM_advance_24 rfl ?_
    refine G.istore_nN F dM_advance_28 rfl (by decide) rfl ?_
    refine G.iconst 0 F dM_advance_29 (by decide) ?_
    refine G.istore_nN F dM_advance_30 rfl (by decide) rfl ?_
    exact hloop31 4 0 1 _ (by decide) (InvM.upo hI rfl) bz1 (if_pos h1)

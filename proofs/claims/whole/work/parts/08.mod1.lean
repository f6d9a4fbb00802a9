def fl_m_count_13 (lo : Int32) (hi : Int32) : Nat → Nat → Int32 → Int32 → CS → Int32
  | 0, _, b4, n3, m => n3
  | n + 1, k, b4, n3, m => (if b4 = 0 then n3 else (if m 3 b4.toNatClampNeg = 0 then (if m 1 b4.toNatClampNeg < lo then (fl_m_count_13 lo hi n (k + 1) (m 2 b4.toNatClampNeg) n3 m) else (if hi < m 1 b4.toNatClampNeg then (fl_m_count_13 lo hi n (k + 1) (m 2 b4.toNatClampNeg) n3 m) else (fl_m_count_13 lo hi n (k + 1) (m 2 b4.toNatClampNeg) (n3 + 1) m))) else (fl_m_count_13 lo hi n (k + 1) (m 2 b4.toNatClampNeg) n3 m)))
def f_m_count (lo : Int32) (hi : Int32) (m : CS) : Int32 := (fl_m_count_13 lo hi 20 0 (m 2 0) 0 m)
set_option maxRecDepth 100000 in
set_option maxHeartbeats 4000000 in
theorem k_m_count (l : Launch) (D : va_G) (K : Nat → ClassId) (base : Nat) (Y : Nat → Nat) (lo : Int32) (hi : Int32) (m : CS) (hI : InvM m) : CtI l D K base yM_count cM_count 6 .int (rmD 0) [.ref (Y 0), .int lo, .int hi] (mW Y K m) (f_m_count lo hi m) (mW Y K m) := by
  refine CtI.enter (by decide) (Nat.le_of_ble_eq_true rfl) ?_
  intro κ A Q F hE
  show G κ l (rmD 0) A Q D 6 0 0 (mW Y K m) 0 [(0, .ref (Y 0)), (1, .int lo), (2, .int hi)] []
  have hloop13 : ∀ (n k : Nat) (b4 : Int32) (n3 : Int32), k + n = 20 → vp_in b4 21 → f_m_count lo hi m = fl_m_count_13 lo hi n k b4 n3 m → G κ l (rmD 0) A Q D 6 0 0 (mW Y K m) 13 [(5, .int (nI k)), (4, .int b4), (3, .int n3), (0, .ref (Y 0)), (1, .int lo), (2, .int hi)] [] := by
    intro n
    induction n with
    | zero =>
      intro k b4 n3 hkn hr_b4 hρ
      obtain rfl : k = 20 := by omega
      refine G.iload 0 F dM_count_13 rfl ?_
      refine G.bipush 20 F dM_count_15 (by decide) ?_
      refine G.icmp_ge 80 F dM_count_17 rfl (fun _ => ?_) (fun h9 => absurd (by decide) h9)
      refine G.iload_n 2 F dM_count_80 rfl rfl ?_
      exact hE _ _ n3 dM_count_81 rfl hρ.symm
    | succ n ih =>
      intro k b4 n3 hkn hr_b4 hρ
      have hk : k < 20 := by omega
      refine G.iload 0 F dM_count_13 rfl ?_
      refine G.bipush 20 F dM_count_15 (by decide) ?_
      refine G.icmp_ge 80 F dM_count_17 rfl (fun h9 => absurd h9 (nI_ge (b := 20) (Nat.lt_of_lt_of_le hk (by decide)) (by decide))) (fun _ => ?_)
      refine G.iload 1 F dM_count_20 rfl ?_
      refine G.if_eq 80 F dM_count_22 rfl (fun h1 => ?_) (fun h1 => ?_)
      · skip
        refine G.iload_n 2 F dM_count_80 rfl rfl ?_
        exact hE _ _ n3 dM_count_81 rfl (hρ.trans (if_pos h1)).symm
      · skip
        refine G.aload_n 3 F dM_count_25 rfl rfl ?_
        refine G.gM 7 F (by decide) flM_19 rfl dM_count_26 ?_
        refine G.iload 1 F dM_count_29 rfl ?_
        refine G.ldMz 3 F (by decide) rfl hr_b4 dM_count_31 ?_
        refine G.if_ne 63 F dM_count_32 rfl (fun h2 => ?_) (fun h2 => ?_)
        · skip
          refine G.iload_n 2 F dM_count_63 rfl rfl ?_
          refine G.istore_n 2 F dM_count_64 rfl rfl (by decide) rfl ?_
          refine G.aload_n 3 F dM_count_65 rfl rfl ?_
          refine G.gM 6 F (by decide) flM_16 rfl dM_count_66 ?_
          refine G.iload 1 F dM_count_69 rfl ?_
          refine G.ldM 2 F (by decide) rfl hr_b4 dM_count_71 ?_
          refine G.istore 1 F dM_count_72 rfl (by decide) rfl ?_
          refine G.iinc 0 (nI (k + 1)) F dM_count_74 rfl (nI_succ k).symm (by decide) rfl ?_
          refine G.goto 13 F dM_count_77 rfl ?_
          exact ih (k + 1) (m 2 b4.toNatClampNeg) n3 (by omega) (hI 2 _ rfl) (hρ.trans ((if_neg h1).trans (if_neg h2)))
        · skip
          refine G.aload_n 3 F dM_count_35 rfl rfl ?_
          refine G.gM 5 F (by decide) flM_13 rfl dM_count_36 ?_
          refine G.iload 1 F dM_count_39 rfl ?_
          refine G.ldM 1 F (by decide) rfl hr_b4 dM_count_41 ?_
          refine G.iload_n 4 F dM_count_42 rfl rfl ?_
          refine G.icmp_lt 63 F dM_count_43 rfl (fun h3 => ?_) (fun h3 => ?_)
          · skip
            refine G.iload_n 2 F dM_count_63 rfl rfl ?_
            refine G.istore_n 2 F dM_count_64 rfl rfl (by decide) rfl ?_
            refine G.aload_n 3 F dM_count_65 rfl rfl ?_
            refine G.gM 6 F (by decide) flM_16 rfl dM_count_66 ?_
            refine G.iload 1 F dM_count_69 rfl ?_
            refine G.ldM 2 F (by decide) rfl hr_b4 dM_count_71 ?_
            refine G.istore 1 F dM_count_72 rfl (by decide) rfl ?_
            refine G.iinc 0 (nI (k + 1)) F dM_count_74 rfl (nI_succ k).symm (by decide) rfl ?_
            refine G.goto 13 F dM_count_77 rfl ?_
            exact ih (k + 1) (m 2 b4.toNatClampNeg) n3 (by omega) (hI 2 _ rfl) (hρ.trans ((if_neg h1).trans ((if_pos h2).trans (if_pos h3))))
          · skip
            refine G.aload_n 3 F dM_count_46 rfl rfl ?_
            refine G.gM 5 F (by decide) flM_13 rfl dM_count_47 ?_
            refine G.iload 1 F dM_count_50 rfl ?_
            refine G.ldM 1 F (by decide) rfl hr_b4 dM_count_52 ?_
            refine G.iload_n 5 F dM_count_53 rfl rfl ?_
            refine G.icmp_gt 63 F dM_count_54 rfl (fun h4 => ?_) (fun h4 => ?_)
            · skip
              refine G.iload_n 2 F dM_count_63 rfl rfl ?_
              refine G.istore_n 2 F dM_count_64 rfl rfl (by decide) rfl ?_
              refine G.aload_n 3 F dM_count_65 rfl rfl ?_
              refine G.gM 6 F (by decide) flM_16 rfl dM_count_66 ?_
              refine G.iload 1 F dM_count_69 rfl ?_
              refine G.ldM 2 F (by decide) rfl hr_b4 dM_count_71 ?_
              refine G.istore 1 F dM_count_72 rfl (by decide) rfl ?_
              refine G.iinc 0 (nI (k + 1)) F dM_count_74 rfl (nI_succ k).symm (by decide) rfl ?_
              refine G.goto 13 F dM_count_77 rfl ?_
              exact ih (k + 1) (m 2 b4.toNatClampNeg) n3 (by omega) (hI 2 _ rfl) (hρ.trans ((if_neg h1).trans ((if_pos h2).trans ((if_neg h3).trans (if_pos h4)))))
            · skip
              refine G.iload_n 2 F dM_count_57 rfl rfl ?_
              refine G.iconst 1 F dM_count_58 (by decide) ?_
              refine G.iadd F dM_count_59 ?_
              refine G.goto 64 F dM_count_60 rfl ?_
              refine G.istore_n 2 F dM_count_64 rfl rfl (by decide) rfl ?_
              refine G.aload_n 3 F dM_count_65 rfl rfl ?_
              refine G.gM 6 F (by decide) flM_16 rfl dM_count_66 ?_
              refine G.iload 1 F dM_count_69 rfl ?_
              refine G.ldM 2 F (by decide) rfl hr_b4 dM_count_71 ?_
              refine G.istore 1 F dM_count_72 rfl (by decide) rfl ?_
              refine G.iinc 0 (nI (k + 1)) F dM_count_74 rfl (nI_succ k).symm (by decide) rfl ?_
              refine G.goto 13 F dM_count_77 rfl ?_
              exact ih (k + 1) (m 2 b4.toNatClampNeg) (n3 + 1) (by omega) (hI 2 _ rfl) (hρ.trans ((if_neg h1).trans ((if_pos h2).trans ((if_neg h3).trans (if_neg h4)))))
  refine G.iconst 0 F dM_count_0 (by decide) ?_
  refine G.istore_nN F dM_count_1 rfl (by decide) rfl ?_
  refine G.aload_n 1 F dM_count_2 rfl rfl ?_
  refine G.gM 6 F (by decide) flM_16 rfl dM_count_3 ?_
  refine G.iconst 0 F dM_count_6 (by decide) ?_
  refine G.ldMn 2 F (by decide) rfl (k := 0) rfl (by decide) dM_count_7 ?_
  refine G.istoreN F dM_count_8 (by decide) rfl ?_
  refine G.iconst 0 F dM_count_10 (by decide) ?_
  refine G.istoreN F dM_count_11 (by decide) rfl ?_
  exact hloop13 20 0 (m 2 0) 0 (by decide) (hI 2 _ rfl) rfl

def f_m_faults (m : CS) : Int32 × CS := (m 20 3, (up2 m 20 0 0))
theorem i_m_faults  (m : CS) (hI : InvM m) : InvM (f_m_faults  m).2 := by
  unfold f_m_faults
  exact (InvM.upo hI rfl)
set_option maxRecDepth 100000 in
set_option maxHeartbeats 4000000 in
theorem k_m_faults (l : Launch) (D : va_G) (K : Nat → ClassId) (base : Nat) (Y : Nat → Nat)  (m : CS) (hI : InvM m) : CtI l D K base yM_faults cM_faults 1 .int (rmD 0) [.ref (Y 0)] (mW Y K m) (f_m_faults m).1 (mW Y K (f_m_faults m).2) := by
  refine CtI.enter (by decide) (Nat.le_of_ble_eq_true rfl) ?_
  intro κ A Q F hE
  show G κ l (rmD 0) A Q D 1 0 0 (mW Y K m) 0 [(0, .ref (Y 0))] []
  refine G.aload_n 0 F dM_faults_0 rfl rfl ?_
  refine G.iconst 0 F dM_faults_1 (by decide) ?_
  refine G.pM 0 F (by decide) flM_75 dM_faults_2 ?_
  refine G.aload_n 0 F dM_faults_5 rfl rfl ?_
  refine G.gM 3 F (by decide) flM_92 rfl dM_faults_6 ?_
  refine G.tope (y := m 20 3) (up2_i _ _ _ _ (by decide)) ?_
  have hr9 : f_m_faults m = (m 20 3, (up2 m 20 0 0)) := rfl
  exact G.st (congrArg (fun z : Int32 × CS => mW Y K z.2) hr9) (hE _ _ (m 20 3) dM_faults_9 rfl (congrArg Prod.fst hr9).symm)

def f_m_epoch (m : CS) : Int32 × CS := (m 20 2, (up2 m 20 0 0))
theorem i_m_epoch  (m : CS) (hI : InvM m) : InvM (f_m_epoch  m).2 := by
  unfold f_m_epoch
  exact (InvM.upo hI rfl)
set_option maxRecDepth 100000 in
set_option maxHeartbeats 4000000 in
theorem k_m_epoch (l : Launch) (D : va_G) (K : Nat → ClassId) (base : Nat) (Y : Nat → Nat)  (m : CS) (hI : InvM m) : CtI l D K base yM_epoch cM_epoch 1 .int (rmD 0) [.ref (Y 0)] (mW Y K m) (f_m_epoch m).1 (mW Y K (f_m_epoch m).2) := by
  refine CtI.enter (by decide) (Nat.le_of_ble_eq_true rfl) ?_
  intro κ A Q F hE
  show G κ l (rmD 0) A Q D 1 0 0 (mW Y K m) 0 [(0, .ref (Y 0))] []
  refine G.aload_n 0 F dM_epoch_0 rfl rfl ?_
  refine G.iconst 0 F dM_epoch_1 (by decide) ?_
  refine G.pM 0 F (by decide) flM_75 dM_epoch_2 ?_
  refine G.aload_n 0 F dM_epoch_5 rfl rfl ?_
  refine G.gM 2 F (by decide) flM_85 rfl dM_epoch_6 ?_
  refine G.tope (y := m 20 2) (up2_i _ _ _ _ (by decide)) ?_
  have hr9 : f_m_epoch m = (m 20 2, (up2 m 20 0 0)) := rfl
  exact G.st (congrArg (fun z : Int32 × CS => mW Y K z.2) hr9) (hE _ _ (m 20 2) dM_epoch_9 rfl (congrArg Prod.fst hr9).symm)

def fl_m_sweep_4 (t : Nat) : Nat → Nat → Int32 → CS → Int32 × CS
  | 0, _, n2, m9 => (n2, m9)
  | n + 1, k, n2, m9 => (if m9 0 k = 2 then (if m9 5 k = nI t then (if f_m_isNamed (nI k) m9 = 0 then (fl_m_sweep_4 t n (k + 1) (n2 + 1) (up2 m9 0 k 0)) else (fl_m_sweep_4 t n (k + 1) n2 m9)) else (fl_m_sweep_4 t n (k + 1) n2 m9)) else (fl_m_sweep_4 t n (k + 1) n2 m9))
def f_m_sweep (t : Nat) (m : CS) : Int32 × CS := (fl_m_sweep_4 t 20 1 0 m)
theorem i_fl_m_sweep_4 (t : Nat) (ht : t < 4) : ∀ (n k : Nat) (n2 : Int32) (m9 : CS), k + n = 21 → InvM m9 → InvM (fl_m_sweep_4 t n k n2 m9).2 := by
  intro n
  induction n with
  | zero =>
    intro k n2 m9 hkn hI9
    exact hI9
  | succ n ih =>
    intro k n2 m9 hkn hI9
    have hk : k < 21 := by omega
    unfold fl_m_sweep_4
    exact (ite_m2 (fun h1 => (ite_m2 (fun h2 => (ite_m2 (fun h3 => (ih (k + 1) (n2 + 1) _ (by omega) (InvM.upo hI9 rfl))) (fun h3 => (ih (k + 1) n2 _ (by omega) hI9)))) (fun h2 => (ih (k + 1) n2 _ (by omega) hI9)))) (fun h1 => (ih (k + 1) n2 _ (by omega) hI9)))
theorem i_m_sweep (t : Nat) (ht : t < 4) (m : CS) (hI : InvM m) : InvM (f_m_sweep t m).2 := by
  unfold f_m_sweep
  exact (i_fl_m_sweep_4 t ht 20 1 0 _ (by decide) hI)
set_option maxRecDepth 100000 in
set_option maxHeartbeats 4000000 in
theorem k_m_sweep (l : Launch) (D : va_G) (K : Nat → ClassId) (base : Nat) (Y : Nat → Nat) (t : Nat) (ht : t < 4) (m : CS) (hI : InvM m) : CtI l D K base yM_sweep cM_sweep 4 .int (rmD 1) [.ref (Y 0), .int (nI t)] (mW Y K m) (f_m_sweep t m).1 (mW Y K (f_m_sweep t m).2) := by
  refine CtI.enter (by decide) (Nat.le_of_ble_eq_true rfl) ?_
  intro κ A Q F hE
  show G κ l (rmD 1) A Q D 4 0 0 (mW Y K m) 0 [(0, .ref (Y 0)), (1, .int (nI t))] []
  have hloop4 : ∀ (n k : Nat) (n2 : Int32) (m9 : CS), k + n = 21 → InvM m9 → f_m_sweep t m = fl_m_sweep_4 t n k n2 m9 → G κ l (rmD 1) A Q D 4 0 0 (mW Y K m9) 4 [(3, .int (nI k)), (2, .int n2), (0, .ref (Y 0)), (1, .int (nI t))] [] := by
    intro n
    induction n with
    | zero =>
      intro k n2 m9 hkn hI9 hρ
      obtain rfl : k = 21 := by omega
      refine G.iload_n 0 F dM_sweep_4 rfl rfl ?_
      refine G.bipush 20 F dM_sweep_5 (by decide) ?_
      refine G.icmp_gt 54 F dM_sweep_7 rfl (fun _ => ?_) (fun h9 => absurd (by decide) h9)
      refine G.iload_n 1 F dM_sweep_54 rfl rfl ?_
      have hr9 : f_m_sweep t m = (n2, m9) := hρ
      exact G.st (congrArg (fun z : Int32 × CS => mW Y K z.2) hr9) (hE _ _ n2 dM_sweep_55 rfl (congrArg Prod.fst hr9).symm)
    | succ n ih =>
      intro k n2 m9 hkn hI9 hρ
      have hk : k < 21 := by omega
      refine G.iload_n 0 F dM_sweep_4 rfl rfl ?_
      refine G.bipush 20 F dM_sweep_5 (by decide) ?_
      refine G.icmp_gt 54 F dM_sweep_7 rfl (fun h9 => absurd h9 (nI_nlt (a := 20) (Nat.le_of_lt_succ (Nat.lt_of_lt_of_le hk (by decide))) (by decide))) (fun _ => ?_)
      refine G.aload_n 2 F dM_sweep_10 rfl rfl ?_
      refine G.gM 4 F (by decide) flM_7 rfl dM_sweep_11 ?_
      refine G.iload_n 0 F dM_sweep_14 rfl rfl ?_
      refine G.ldMn 0 F (by decide) rfl (k := k) rfl hk dM_sweep_15 ?_
      refine G.iconst 2 F dM_sweep_16 (by decide) ?_
      refine G.icmp_ne 48 F dM_sweep_17 rfl (fun h1 => ?_) (fun h1 => ?_)
      · skip
        refine G.iinc 0 (nI (k + 1)) F dM_sweep_48 rfl (nI_succ k).symm (by decide) rfl ?_
        refine G.goto 4 F dM_sweep_51 rfl ?_
        exact ih (k + 1) n2 _ (by omega) hI9 (hρ.trans (if_neg h1))
      · skip
        refine G.aload_n 2 F dM_sweep_20 rfl rfl ?_
        refine G.gM 9 F (by decide) flM_26 rfl dM_sweep_21 ?_
        refine G.iload_n 0 F dM_sweep_24 rfl rfl ?_
        refine G.ldMn 5 F (by decide) rfl (k := k) rfl hk dM_sweep_25 ?_
        refine G.iload_n 3 F dM_sweep_26 rfl rfl ?_
        refine G.icmp_ne 48 F dM_sweep_27 rfl (fun h2 => ?_) (fun h2 => ?_)
        · skip
          refine G.iinc 0 (nI (k + 1)) F dM_sweep_48 rfl (nI_succ k).symm (by decide) rfl ?_
          refine G.goto 4 F dM_sweep_51 rfl ?_
          exact ih (k + 1) n2 _ (by omega) hI9 (hρ.trans ((if_pos h1).trans (if_neg h2)))
        · skip
          refine G.aload_n 2 F dM_sweep_30 rfl rfl ?_
          refine G.iload_n 0 F dM_sweep_31 rfl rfl ?_
          refine G.calli F (k_m_isNamed l D K base Y (nI k) m9 hI9) ckM_82 mW_m rfl rfl ⟨rfl, rfl⟩ ⟨by decide, by decide⟩ ⟨Nat.zero_le _, Nat.zero_le _⟩ rfl rfl (Nat.le_of_ble_eq_true rfl) dM_sweep_32 ?_
          refine G.if_ne 48 F dM_sweep_35 rfl (fun h3 => ?_) (fun h3 => ?_)
          · skip
            refine G.iinc 0 (nI (k + 1)) F dM_sweep_48 rfl (nI_succ k).symm (by decide) rfl ?_
            refine G.goto 4 F dM_sweep_51 rfl ?_
            exact ih (k + 1) n2 _ (by omega) hI9 (hρ.trans ((if_pos h1).trans ((if_pos h2).trans (if_neg h3))))
          · skip
            refine G.aload_n 2 F dM_sweep_38 rfl rfl ?_
            refine G.gM 4 F (by decide) flM_7 rfl dM_sweep_39 ?_
            refine G.iload_n 0 F dM_sweep_42 rfl rfl ?_
            refine G.iconst 0 F dM_sweep_43 (by decide) ?_
            refine G.stMn 0 F (by decide) rfl (k := k) rfl hk dM_sweep_44 ?_
            refine G.iinc 1 (n2 + 1) F dM_sweep_45 rfl rfl (by decide) rfl ?_
            refine G.iinc 0 (nI (k + 1)) F dM_sweep_48 rfl (nI_succ k).symm (by decide) rfl ?_
            refine G.goto 4 F dM_sweep_51 rfl ?_
            exact ih (k + 1) (n2 + 1) _ (by omega) (InvM.upo hI9 rfl) (hρ.trans ((if_pos h1).trans ((if_pos h2).trans (if_pos h3))))
  refine G.iconst 0 F dM_sweep_0 (by decide) ?_
  refine G.istore_nN F dM_sweep_1 rfl (by decide) rfl ?_
  refine G.iconst 1 F dM_sweep_2 (by decide) ?_
  refine G.istore_nN F dM_sweep_3 rfl (by decide) rfl ?_
  exact hloop4 20 1 0 _ (by decide) hI rfl

def f_m_lookBack (t : Nat) (m : CS) : CS := (f_m_look (m 9 t) (m 10 t) m)
theorem i_m_lookBack (t : Nat) (ht : t < 4) (m : CS) (hI : InvM m) : InvM (f_m_lookBack t m) := by
  unfold f_m_lookBack
  exact (i_m_look (m 9 t) (hI 9 _ rfl) (m 10 t) m hI)
set_option maxRecDepth 100000 in
set_option maxHeartbeats 4000000 in
theorem k_m_lookBack (l : Launch) (D : va_G) (K : Nat → ClassId) (base : Nat) (Y : Nat → Nat) (t : Nat) (ht : t < 4) (m : CS) (hI : InvM m) : CtV l D K base yM_lookBack cM_lookBack 2 (rmD 1) [.ref (Y 0), .int (nI t)] (mW Y K m) (mW Y K (f_m_lookBack t m)) := by
  refine CtV.enter (by decide) (Nat.le_of_ble_eq_true rfl) ?_
  intro κ A Q F hE
  show G κ l (rmD 1) A Q D 2 0 0 (mW Y K m) 0 [(0, .ref (Y 0)), (1, .int (nI t))] []
  refine G.aload_n 0 F dM_lookBack_0 rfl rfl ?_
  refine G.aload_n 0 F dM_lookBack_1 rfl rfl ?_
  refine G.gM 13 F (by decide) flM_38 rfl dM_lookBack_2 ?_
  refine G.iload_n 1 F dM_lookBack_5 rfl rfl ?_
  refine G.ldMn 9 F (by decide) rfl (k := t) rfl ht dM_lookBack_6 ?_
  refine G.aload_n 0 F dM_lookBack_7 rfl rfl ?_
  refine G.gM 14 F (by decide) flM_41 rfl dM_lookBack_8 ?_
  refine G.iload_n 1 F dM_lookBack_11 rfl rfl ?_
  refine G.ldMn 10 F (by decide) rfl (k := t) rfl ht dM_lookBack_12 ?_
  refine G.callv F (k_m_look l D K base Y (m 9 t) (hI 9 _ rfl) (m 10 t) m hI) ckM_95 mW_m rfl rfl ⟨rfl, rfl⟩ ⟨by decide, by decide⟩ ⟨Nat.zero_le _, Nat.zero_le _⟩ rfl rfl (Nat.le_of_ble_eq_true rfl) dM_lookBack_13 ?_
  exact G.st (congrArg (mW Y K) rfl) (hE _ _ dM_lookBack_16)

def f_m_head (t : Nat) (m : CS) : Int32 × CS := ((f_m_come t (m 2 0) (up2 (up2 m 9 t 0) 10 t 0)).1, (f_m_come t (m 2 0) (up2 (up2 m 9 t 0) 10 t 0)).2)
theorem i_m_head (t : Nat) (ht : t < 4) (m : CS) (hI : InvM m) : InvM (f_m_head t m).2 := by
  unfold f_m_head
  exact (i_m_come t ht (m 2 0) (hI 2 _ rfl) (up2 (up2 m 9 t 0) 10 t 0) (InvM.upo (InvM.upi hI vp0) rfl))
set_option maxRecDepth 100000 in
set_option maxHeartbeats 4000000 in
theorem k_m_head (l : Launch) (D : va_G) (K : Nat → ClassId) (base : Nat) (Y : Nat → Nat) (t : Nat) (ht : t < 4) (m : CS) (hI : InvM m) : CtI l D K base yM_head cM_head 2 .int (rmD 1) [.ref (Y 0), .int (nI t)] (mW Y K m) (f_m_head t m).1 (mW Y K (f_m_head t m).2) := by
  refine CtI.enter (by decide) (Nat.le_of_ble_eq_true rfl) ?_
  intro κ A Q F hE
  show G κ l (rmD 1) A Q D 2 0 0 (mW Y K m) 0 [(0, .ref (Y 0)), (1, .int (nI t))] []
  refine G.aload_n 0 F dM_head_0 rfl rfl ?_
  refine G.gM 13 F (by decide) flM_38 rfl dM_head_1 ?_
  refine G.iload_n 1 F dM_head_4 rfl rfl ?_
  refine G.iconst 0 F dM_head_5 (by decide) ?_
  refine G.stMn 9 F (by decide) rfl (k := t) rfl ht dM_head_6 ?_
  refine G.aload_n 0 F dM_head_7 rfl rfl ?_
  refine G.gM 14 F (by decide) flM_41 rfl dM_head_8 ?_
  refine G.iload_n 1 F dM_head_11 rfl rfl ?_
  refine G.iconst 0 F dM_head_12 (by decide) ?_
  refine G.stMn 10 F (by decide) rfl (k := t) rfl ht dM_head_13 ?_
  refine G.aload_n 0 F dM_head_14 rfl rfl ?_
  refine G.iload_n 1 F dM_head_15 rfl rfl ?_
  refine G.aload_n 0 F dM_head_16 rfl rfl ?_
  refine G.gM 6 F (by decide) flM_16 rfl dM_head_17 ?_
  refine G.iconst 0 F dM_head_20 (by decide) ?_
  refine G.ldMn 2 F (by decide) rfl (k := 0) rfl (by decide) dM_head_21 ?_
  refine G.tope (y := m 2 0) ((up2_f _ _ _ _ (by decide)).trans (up2_f _ _ _ _ (by decide))) ?_
  refine G.calli F (k_m_come l D K base Y t ht (m 2 0) (hI 2 _ rfl) (up2 (up2 m 9 t 0) 10 t 0) (InvM.upo (InvM.upi hI vp0) rfl)) ckM_99 mW_m rfl rfl ⟨rfl, rfl⟩ ⟨by decide, by decide⟩ ⟨Nat.zero_le _, Nat.zero_le _⟩ rfl rfl (Nat.le_of_ble_eq_true rfl) dM_head_22 ?_
  have hr9 : f_m_head t m = ((f_m_come t (m 2 0) (up2 (up2 m 9 t 0) 10 t 0)).1, (f_m_come t (m 2 0) (up2 (up2 m 9 t 0) 10 t 0)).2) := rfl
  exact G.st (congrArg (fun z : Int32 × CS => mW Y K z.2) hr9) (hE _ _ ((f_m_come t (m 2 0) (up2 (up2 m 9 t 0) 10 t 0)).1) dM_head_25 rfl (congrArg Prod.fst hr9).symm)

def f_m_read (t : Nat) (m : CS) : Int32 × CS := (if (f_m_look (m 11 t) (m 12 t) m) 3 ((m 11 t).toNatClampNeg) = 0 then (if (f_m_look (m 11 t) (m 12 t) m) 1 ((m 11 t).toNatClampNeg) < (f_m_look (m 11 t) (m 12 t) m) 8 t then ((f_m_come t ((f_m_look (m 11 t) (m 12 t) m) 2 ((m 11 t).toNatClampNeg)) (up2 (up2 (up2 (f_m_look (m 11 t) (m 12 t) m) 13 t ((f_m_look (m 11 t) (m 12 t) m) 2 ((m 11 t).toNatClampNeg))) 9 t (m 11 t)) 10 t ((f_m_look (m 11 t) (m 12 t) m) 12 t))).1, (f_m_come t ((f_m_look (m 11 t) (m 12 t) m) 2 ((m 11 t).toNatClampNeg)) (up2 (up2 (up2 (f_m_look (m 11 t) (m 12 t) m) 13 t ((f_m_look (m 11 t) (m 12 t) m) 2 ((m 11 t).toNatClampNeg))) 9 t (m 11 t)) 10 t ((f_m_look (m 11 t) (m 12 t) m) 12 t))).2) else (if (f_m_look (m 11 t) (m 12 t) m) 1 ((m 11 t).toNatClampNeg) = (f_m_look (m 11 t) (m 12 t) m) 8 t then (7, (up2 (up2 (f_m_look (m 11 t) (m 12 t) m) 13 t ((f_m_look (m 11 t) (m 12 t) m) 2 ((m 11 t).toNatClampNeg))) 14 t 1)) else (7, (up2 (up2 (f_m_look (m 11 t) (m 12 t) m) 13 t ((f_m_look (m 11 t) (m 12 t) m) 2 ((m 11 t).toNatClampNeg))) 14 t 0)))) else (6, (up2 (f_m_look (m 11 t) (m 12 t) m) 13 t ((f_m_look (m 11 t) (m 12 t) m) 2 ((m 11 t).toNatClampNeg)))))
theorem i_m_read (t : Nat) (ht : t < 4) (m : CS) (hI : InvM m) : InvM (f_m_read t m).2 := by
  unfold f_m_read
  exact (ite_m2 (fun h1 => (ite_m2 (fun h2 => (i_m_come t ht ((f_m_look (m 11 t) (m 12 t) m) 2 ((m 11 t).toNatClampNeg)) ((i_m_look (m 11 t) (hI 11 _ rfl) (m 12 t) m hI) 2 _ rfl) (up2 (up2 (up2 (f_m_look (m 11 t) (m 12 t) m) 13 t ((f_m_look (m 11 t) (m 12 t) m) 2 ((m 11 t).toNatClampNeg))) 9 t (m 11 t)) 10 t ((f_m_look (m 11 t) (m 12 t) m) 12 t)) (InvM.upo (InvM.upi (InvM.upi (i_m_look (m 11 t) (hI 11 _ rfl) (m 12 t) m hI) ((i_m_look (m 11 t) (hI 11 _ rfl) (m 12 t) m hI) 2 _ rfl)) (hI 11 _ rfl)) rfl))) (fun h2 => (ite_m2 (fun h3 => (InvM.upo (InvM.upi (i_m_look (m 11 t) (hI 11 _ rfl) (m 12 t) m hI) ((i_m_look (m 11 t) (hI 11 _ rfl) (m 12 t) m hI) 2 _ rfl)) rfl)) (fun h3 => (InvM.upo (InvM.upi (i_m_look (m 11 t) (hI 11 _ rfl) (m 12 t) m hI) ((i_m_look (m 11 t) (hI 11 _ rfl) (m 12 t) m hI) 2 _ rfl)) rfl)))))) (fun h1 => (InvM.upi (i_m_look (m 11 t) (hI 11 _ rfl) (m 12 t) m hI) ((i_m_look (m 11 t) (hI 11 _ rfl) (m 12 t) m hI) 2 _ rfl))))
set_option maxRecDepth 100000 in
set_option maxHeartbeats 4000000 in
theorem k_m_read (l : Launch) (D : va_G) (K : Nat → ClassId) (base : Nat) (Y : Nat → Nat) (t : Nat) (ht : t < 4) (m : CS) (hI : InvM m) : CtI l D K base yM_read cM_read 3 .int (rmD 1) [.ref (Y 0), .int (nI t)] (mW Y K m) (f_m_read t m).1 (mW Y K (f_m_read t m).2) := by
  refine CtI.enter (by decide) (Nat.le_of_ble_eq_true rfl) ?_
  intro κ A Q F hE
  show G κ l (rmD 1) A Q D 3 0 0 (mW Y K m) 0 [(0, .ref (Y 0)), (1, .int (nI t))] []
  refine G.aload_n 0 F dM_read_0 rfl rfl ?_
  refine G.gM 15 F (by decide) flM_44 rfl dM_read_1 ?_
  refine G.iload_n 1 F dM_read_4 rfl rfl ?_
  refine G.ldMn 11 F (by decide) rfl (k := t) rfl ht dM_read_5 ?_
  refine G.istore_nN F dM_read_6 rfl (by decide) rfl ?_
  refine G.aload_n 1 F dM_read_7 rfl rfl ?_
  refine G.iload_n 0 F dM_read_8 rfl rfl ?_
  refine G.aload_n 1 F dM_read_9 rfl rfl ?_
  refine G.gM 16 F (by decide) flM_47 rfl dM_read_10 ?_
  refine G.iload_n 2 F dM_read_13 rfl rfl ?_
  refine G.ldMn 12 F (by decide) rfl (k := t) rfl ht dM_read_14 ?_
  refine G.callv F (k_m_look l D K base Y (m 11 t) (hI 11 _ rfl) (m 12 t) m hI) ckM_95 mW_m rfl rfl ⟨rfl, rfl⟩ ⟨by decide, by decide⟩ ⟨Nat.zero_le _, Nat.zero_le _⟩ rfl rfl (Nat.le_of_ble_eq_true rfl) dM_read_15 ?_
  refine G.aload_n 1 F dM_read_18 rfl rfl ?_
  refine G.gM 17 F (by decide) flM_50 rfl dM_read_19 ?_
  refine G.iload_n 2 F dM_read_22 rfl rfl ?_
  refine G.aload_n 1 F dM_read_23 rfl rfl ?_
  refine G.gM 6 F (by decide) flM_16 rfl dM_read_24 ?_
  refine G.iload_n 0 F dM_read_27 rfl rfl ?_
  refine G.ldM 2 F (by decide) rfl (hI 11 _ rfl) dM_read_28 ?_
  refine G.stMn 13 F (by decide) rfl (k := t) rfl ht dM_read_29 ?_
  refine G.aload_n 1 F dM_read_30 rfl rfl ?_
  refine G.gM 7 F (by decide) flM_19 rfl dM_read_31 ?_
  refine G.iload_n 0 F dM_read_34 rfl rfl ?_
  refine G.ldMz 3 F (by decide) rfl (hI 11 _ rfl) dM_read_35 ?_
  refine G.tope (y := (f_m_look (m 11 t) (m 12 t) m) 3 ((m 11 t).toNatClampNeg)) (up2_f _ _ _ _ (by decide)) ?_
  refine G.if_eq 42 F dM_read_36 rfl (fun h1 => ?_) (fun h1 => ?_)
  · skip
    refine G.aload_n 1 F dM_read_42 rfl rfl ?_
    refine G.gM 5 F (by decide) flM_13 rfl dM_read_43 ?_
    refine G.iload_n 0 F dM_read_46 rfl rfl ?_
    refine G.ldM 1 F (by decide) rfl (hI 11 _ rfl) dM_read_47 ?_
    refine G.tope (y := (f_m_look (m 11 t) (m 12 t) m) 1 ((m 11 t).toNatClampNeg)) (up2_f _ _ _ _ (by decide)) ?_
    refine G.aload_n 1 F dM_read_48 rfl rfl ?_
    refine G.gM 12 F (by decide) flM_35 rfl dM_read_49 ?_
    refine G.iload_n 2 F dM_read_52 rfl rfl ?_
    refine G.ldMn 8 F (by decide) rfl (k := t) rfl ht dM_read_53 ?_
    refine G.tope (y := (f_m_look (m 11 t) (m 12 t) m) 8 t) (up2_f _ _ _ _ (by decide)) ?_
    refine G.icmp_lt 86 F dM_read_54 rfl (fun h2 => ?_) (fun h2 => ?_)
    · skip
      refine G.aload_n 1 F dM_read_86 rfl rfl ?_
      refine G.gM 13 F (by decide) flM_38 rfl dM_read_87 ?_
      refine G.iload_n 2 F dM_read_90 rfl rfl ?_
      refine G.iload_n 0 F dM_read_91 rfl rfl ?_
      refine G.stMn 9 F (by decide) rfl (k := t) rfl ht dM_read_92 ?_
      refine G.aload_n 1 F dM_read_93 rfl rfl ?_
      refine G.gM 14 F (by decide) flM_41 rfl dM_read_94 ?_
      refine G.iload_n 2 F dM_read_97 rfl rfl ?_
      refine G.aload_n 1 F dM_read_98 rfl rfl ?_
      refine G.gM 16 F (by decide) flM_47 rfl dM_read_99 ?_
      refine G.iload_n 2 F dM_read_102 rfl rfl ?_
      refine G.ldMn 12 F (by decide) rfl (k := t) rfl ht dM_read_103 ?_
      refine G.tope (y := (f_m_look (m 11 t) (m 12 t) m) 12 t) ((up2_f _ _ _ _ (by decide)).trans (up2_f _ _ _ _ (by decide))) ?_
      refine G.stMn 10 F (by decide) rfl (k := t) rfl ht dM_read_104 ?_
      refine G.aload_n 1 F dM_read_105 rfl rfl ?_
      refine G.iload_n 2 F dM_read_106 rfl rfl ?_
      refine G.aload_n 1 F dM_read_107 rfl rfl ?_
      refine G.gM 17 F (by decide) flM_50 rfl dM_read_108 ?_
      refine G.iload_n 2 F dM_read_111 rfl rfl ?_
      refine G.ldMn 13 F (by decide) rfl (k := t) rfl ht dM_read_112 ?_
      refine G.tope (y := (f_m_look (m 11 t) (m 12 t) m) 2 ((m 11 t).toNatClampNeg)) ((up2_f _ _ _ _ (by decide)).trans ((up2_f _ _ _ _ (by decide)).trans (up2_eq _ _ _ _))) ?_
      refine G.calli F (k_m_come l D K base Y t ht ((f_m_look (m 11 t) (m 12 t) m) 2 ((m 11 t).toNatClampNeg)) ((i_m_look (m 11 t) (hI 11 _ rfl) (m 12 t) m hI) 2 _ rfl) (up2 (up2 (up2 (f_m_look (m 11 t) (m 12 t) m) 13 t ((f_m_look (m 11 t) (m 12 t) m) 2 ((m 11 t).toNatClampNeg))) 9 t (m 11 t)) 10 t ((f_m_look (m 11 t) (m 12 t) m) 12 t)) (InvM.upo (InvM.upi (InvM.upi (i_m_look (m 11 t) (hI 11 _ rfl) (m 12 t) m hI) ((i_m_look (m 11 t) (hI 11 _ rfl) (m 12 t) m hI) 2 _ rfl)) (hI 11 _ rfl)) rfl)) ckM_99 mW_m rfl rfl ⟨rfl, rfl⟩ ⟨by decide, by decide⟩ ⟨Nat.zero_le _, Nat.zero_le _⟩ rfl rfl (Nat.le_of_ble_eq_true rfl) dM_read_113 ?_
      have hr9 : f_m_read t m = ((f_m_come t ((f_m_look (m 11 t) (m 12 t) m) 2 ((m 11 t).toNatClampNeg)) (up2 (up2 (up2 (f_m_look (m 11 t) (m 12 t) m) 13 t ((f_m_look (m 11 t) (m 12 t) m) 2 ((m 11 t).toNatClampNeg))) 9 t (m 11 t)) 10 t ((f_m_look (m 11 t) (m 12 t) m) 12 t))).1, (f_m_come t ((f_m_look (m 11 t) (m 12 t) m) 2 ((m 11 t).toNatClampNeg)) (up2 (up2 (up2 (f_m_look (m 11 t) (m 12 t) m) 13 t ((f_m_look (m 11 t) (m 12 t) m) 2 ((m 11 t).toNatClampNeg))) 9 t (m 11 t)) 10 t ((f_m_look (m 11 t) (m 12 t) m) 12 t))).2) := (if_pos h1).trans (if_pos h2)
      exact G.st (congrArg (fun z : Int32 × CS => mW Y K z.2) hr9) (hE _ _ ((f_m_come t ((f_m_look (m 11 t) (m 12 t) m) 2 ((m 11 t).toNatClampNeg)) (up2 (up2 (up2 (f_m_look (m 11 t) (m 12 t) m) 13 t ((f_m_look (m 11 t) (m 12 t) m) 2 ((m 11 t).toNatClampNeg))) 9 t (m 11 t)) 10 t ((f_m_look (m 11 t) (m 12 t) m) 12 t))).1) dM_read_116 rfl (congrArg Prod.fst hr9).symm)
    · skip
      refine G.aload_n 1 F dM_read_57 rfl rfl ?_
      refine G.gM 18 F (by decide) flM_53 rfl dM_read_58 ?_
      refine G.iload_n 2 F dM_read_61 rfl rfl ?_
      refine G.aload_n 1 F dM_read_62 rfl rfl ?_
      refine G.gM 5 F (by decide) flM_13 rfl dM_read_63 ?_
      refine G.iload_n 0 F dM_read_66 rfl rfl ?_
      refine G.ldM 1 F (by decide) rfl (hI 11 _ rfl) dM_read_67 ?_
      refine G.tope (y := (f_m_look (m 11 t) (m 12 t) m) 1 ((m 11 t).toNatClampNeg)) (up2_f _ _ _ _ (by decide)) ?_
      refine G.aload_n 1 F dM_read_68 rfl rfl ?_
      refine G.gM 12 F (by decide) flM_35 rfl dM_read_69 ?_
      refine G.iload_n 2 F dM_read_72 rfl rfl ?_
      refine G.ldMn 8 F (by decide) rfl (k := t) rfl ht dM_read_73 ?_
      refine G.tope (y := (f_m_look (m 11 t) (m 12 t) m) 8 t) (up2_f _ _ _ _ (by decide)) ?_
      refine G.icmp_ne 81 F dM_read_74 rfl (fun h3 => ?_) (fun h3 => ?_)
      · skip
        refine G.iconst 0 F dM_read_81 (by decide) ?_
        refine G.stMzn 14 F (by decide) rfl rfl (k := t) rfl ht dM_read_82 ?_
        refine G.bipush 7 F dM_read_83 (by decide) ?_
        have hr9 : f_m_read t m = (7, (up2 (up2 (f_m_look (m 11 t) (m 12 t) m) 13 t ((f_m_look (m 11 t) (m 12 t) m) 2 ((m 11 t).toNatClampNeg))) 14 t 0)) := (if_pos h1).trans ((if_neg h2).trans (if_neg h3))
        exact G.st (congrArg (fun z : Int32 × CS => mW Y K z.2) hr9) (hE _ _ 7 dM_read_85 rfl (congrArg Prod.fst hr9).symm)
      · skip
        refine G.iconst 1 F dM_read_77 (by decide) ?_
        refine G.goto 82 F dM_read_78 rfl ?_
        refine G.stMzn 14 F (by decide) rfl rfl (k := t) rfl ht dM_read_82 ?_
        refine G.bipush 7 F dM_read_83 (by decide) ?_
        have hr9 : f_m_read t m = (7, (up2 (up2 (f_m_look (m 11 t) (m 12 t) m) 13 t ((f_m_look (m 11 t) (m 12 t) m) 2 ((m 11 t).toNatClampNeg))) 14 t 1)) := (if_pos h1).trans ((if_neg h2).trans (if_pos h3))
        exact G.st (congrArg (fun z : Int32 × CS => mW Y K z.2) hr9) (hE _ _ 7 dM_read_85 rfl (congrArg Prod.fst hr9).symm)
  · skip
    refine G.bipush 6 F dM_read_39 (by decide) ?_
    have hr9 : f_m_read t m = (6, (up2 (f_m_look (m 11 t) (m 12 t) m) 13 t ((f_m_look (m 11 t) (m 12 t) m) 2 ((m 11 t).toNatClampNeg)))) := (if_neg h1)
    exact G.st (congrArg (fun z : Int32 × CS => mW Y K z.2) hr9) (hE _ _ 6 dM_read_41 rfl (congrArg Prod.fst hr9).symm)

def f_m_remove (t : Nat) (m : CS) : Int32 × CS := (if m 14 t = 0 then (9, (up2 m 16 t 0)) else (if (f_m_look (m 11 t) (m 12 t) m) 2 ((m 11 t).toNatClampNeg) = (f_m_look (m 11 t) (m 12 t) m) 13 t then (if (f_m_look (m 11 t) (m 12 t) m) 3 ((m 11 t).toNatClampNeg) = 0 then (10, (up2 (f_m_look (m 11 t) (m 12 t) m) 3 ((m 11 t).toNatClampNeg) 1)) else (2, (f_m_look (m 11 t) (m 12 t) m))) else (2, (f_m_look (m 11 t) (m 12 t) m))))
theorem i_m_remove (t : Nat) (ht : t < 4) (m : CS) (hI : InvM m) : InvM (f_m_remove t m).2 := by
  unfold f_m_remove
  exact (ite_m2 (fun h1 => (InvM.upo hI rfl)) (fun h1 => (ite_m2 (fun h2 => (ite_m2 (fun h3 => (InvM.upo (i_m_look (m 11 t) (hI 11 _ rfl) (m 12 t) m hI) rfl)) (fun h3 => (i_m_look (m 11 t) (hI 11 _ rfl) (m 12 t) m hI)))) (fun h2 => (i_m_look (m 11 t) (hI 11 _ rfl) (m 12 t) m hI)))))
set_option maxRecDepth 100000 in
set_option maxHeartbeats 4000000 in
theorem k_m_remove (l : Launch) (D : va_G) (K : Nat → ClassId) (base : Nat) (Y : Nat → Nat) (t : Nat) (ht : t < 4) (m : CS) (hI : InvM m) : CtI l D K base yM_remove cM_remove 3 .int (rmD 1) [.ref (Y 0), .int (nI t)] (mW Y K m) (f_m_remove t m).1 (mW Y K (f_m_remove t m).2) := by
  refine CtI.enter (by decide) (Nat.le_of_ble_eq_true rfl) ?_
  intro κ A Q F hE
  show G κ l (rmD 1) A Q D 3 0 0 (mW Y K m) 0 [(0, .ref (Y 0)), (1, .int (nI t))] []
  refine G.aload_n 0 F dM_remove_0 rfl rfl ?_
  refine G.gM 18 F (by decide) flM_53 rfl dM_remove_1 ?_
  refine G.iload_n 1 F dM_remove_4 rfl rfl ?_
  refine G.ldMzn 14 F (by decide) rfl (k := t) rfl ht dM_remove_5 ?_
  refine G.if_ne 19 F dM_remove_6 rfl (fun h1 => ?_) (fun h1 => ?_)
  · skip
    refine G.aload_n 0 F dM_remove_19 rfl rfl ?_
    refine G.gM 15 F (by decide) flM_44 rfl dM_remove_20 ?_
    refine G.iload_n 1 F dM_remove_23 rfl rfl ?_
    refine G.ldMn 11 F (by decide) rfl (k := t) rfl ht dM_remove_24 ?_
    refine G.istore_nN F dM_remove_25 rfl (by decide) rfl ?_
    refine G.aload_n 1 F dM_remove_26 rfl rfl ?_
    refine G.iload_n 0 F dM_remove_27 rfl rfl ?_
    refine G.aload_n 1 F dM_remove_28 rfl rfl ?_
    refine G.gM 16 F (by decide) flM_47 rfl dM_remove_29 ?_
    refine G.iload_n 2 F dM_remove_32 rfl rfl ?_
    refine G.ldMn 12 F (by decide) rfl (k := t) rfl ht dM_remove_33 ?_
    refine G.callv F (k_m_look l D K base Y (m 11 t) (hI 11 _ rfl) (m 12 t) m hI) ckM_95 mW_m rfl rfl ⟨rfl, rfl⟩ ⟨by decide, by decide⟩ ⟨Nat.zero_le _, Nat.zero_le _⟩ rfl rfl (Nat.le_of_ble_eq_true rfl) dM_remove_34 ?_
    refine G.aload_n 1 F dM_remove_37 rfl rfl ?_
    refine G.gM 6 F (by decide) flM_16 rfl dM_remove_38 ?_
    refine G.iload_n 0 F dM_remove_41 rfl rfl ?_
    refine G.ldM 2 F (by decide) rfl (hI 11 _ rfl) dM_remove_42 ?_
    refine G.aload_n 1 F dM_remove_43 rfl rfl ?_
    refine G.gM 17 F (by decide) flM_50 rfl dM_remove_44 ?_
    refine G.iload_n 2 F dM_remove_47 rfl rfl ?_
    refine G.ldMn 13 F (by decide) rfl (k := t) rfl ht dM_remove_48 ?_
    refine G.icmp_ne 61 F dM_remove_49 rfl (fun h2 => ?_) (fun h2 => ?_)
    · skip
      refine G.iconst 2 F dM_remove_61 (by decide) ?_
      have hr9 : f_m_remove t m = (2, (f_m_look (m 11 t) (m 12 t) m)) := (if_neg h1).trans (if_neg h2)
      exact G.st (congrArg (fun z : Int32 × CS => mW Y K z.2) hr9) (hE _ _ 2 dM_remove_62 rfl (congrArg Prod.fst hr9).symm)
    · skip
      refine G.aload_n 1 F dM_remove_52 rfl rfl ?_
      refine G.gM 7 F (by decide) flM_19 rfl dM_remove_53 ?_
      refine G.iload_n 0 F dM_remove_56 rfl rfl ?_
      refine G.ldMz 3 F (by decide) rfl (hI 11 _ rfl) dM_remove_57 ?_
      refine G.if_eq 63 F dM_remove_58 rfl (fun h3 => ?_) (fun h3 => ?_)
      · skip
        refine G.aload_n 1 F dM_remove_63 rfl rfl ?_
        refine G.gM 7 F (by decide) flM_19 rfl dM_remove_64 ?_
        refine G.iload_n 0 F dM_remove_67 rfl rfl ?_
        refine G.iconst 1 F dM_remove_68 (by decide) ?_
        refine G.stMz 3 F (by decide) rfl rfl (hI 11 _ rfl) dM_remove_69 ?_
        refine G.bipush 10 F dM_remove_70 (by decide) ?_
        have hr9 : f_m_remove t m = (10, (up2 (f_m_look (m 11 t) (m 12 t) m) 3 ((m 11 t).toNatClampNeg) 1)) := (if_neg h1).trans ((if_pos h2).trans (if_pos h3))
        exact G.st (congrArg (fun z : Int32 × CS => mW Y K z.2) hr9) (hE _ _ 10 dM_remove_72 rfl (congrArg Prod.fst hr9).symm)
      · skip
        refine G.iconst 2 F dM_remove_61 (by decide) ?_
        have hr9 : f_m_remove t m = (2, (f_m_look (m 11 t) (m 12 t) m)) := (if_neg h1).trans ((if_pos h2).trans (if_neg h3))
        exact G.st (congrArg (fun z : Int32 × CS => mW Y K z.2) hr9) (hE _ _ 2 dM_remove_62 rfl (congrArg Prod.fst hr9).symm)
  · skip
    refine G.aload_n 0 F dM_remove_9 rfl rfl ?_
    refine G.gM 20 F (by decide) flM_59 rfl dM_remove_10 ?_
    refine G.iload_n 1 F dM_remove_13 rfl rfl ?_
    refine G.iconst 0 F dM_remove_14 (by decide) ?_
    refine G.stMn 16 F (by decide) rfl (k := t) rfl ht dM_remove_15 ?_
    refine G.bipush 9 F dM_remove_16 (by decide) ?_
    have hr9 : f_m_remove t m = (9, (up2 m 16 t 0)) := (if_pos h1)
    exact G.st (congrArg (fun z : Int32 × CS => mW Y K z.2) hr9) (hE _ _ 9 dM_remove_18 rfl (congrArg Prod.fst hr9).symm)

def fl_m_insert_49 (t : Nat) : Nat → Nat → CS → Int32 × CS
  | 0, _, m9 => (if m9 15 t = 0 then (9, (up2 m9 16 t 2)) else (8, (f_m_link (m9 15 t) (m9 11 t) (up2 m9 1 ((m9 15 t).toNatClampNeg) (m9 8 t)))))
  | n + 1, k, m9 => (if m9 15 t = 0 then (if m9 0 k = 0 then (fl_m_insert_49 t n (k + 1) (up2 (up2 (up2 m9 15 t (nI k)) 0 k 1) 4 k ((m9 4 k) + 1))) else (fl_m_insert_49 t n (k + 1) m9)) else (if m9 15 t = 0 then (9, (up2 m9 16 t 2)) else (8, (f_m_link (m9 15 t) (m9 11 t) (up2 m9 1 ((m9 15 t).toNatClampNeg) (m9 8 t))))))
def f_m_insert (t : Nat) (m : CS) : Int32 × CS := (if m 14 t = 0 then (fl_m_insert_49 t 20 1 m) else (if m 15 t ≤ 0 then (9, (up2 m 16 t 0)) else (9, (up2 (up2 (up2 m 0 ((m 15 t).toNatClampNeg) 0) 15 t 0) 16 t 0))))
theorem i_fl_m_insert_49 (t : Nat) (ht : t < 4) : ∀ (n k : Nat) (m9 : CS), k + n = 21 → InvM m9 → InvM (fl_m_insert_49 t n k m9).2 := by
  intro n
  induction n with
  | zero =>
    intro k m9 hkn hI9
    exact (ite_m2 (fun h2 => (InvM.upo hI9 rfl)) (fun h2 => (i_m_link (m9 15 t) (hI9 15 _ rfl) (m9 11 t) (hI9 11 _ rfl) (up2 m9 1 ((m9 15 t).toNatClampNeg) (m9 8 t)) (InvM.upo hI9 rfl))))
  | succ n ih =>
    intro k m9 hkn hI9
    have hk : k < 21 := by omega
    unfold fl_m_insert_49
    exact (ite_m2 (fun h3 => (ite_m2 (fun h5 => (ih (k + 1) _ (by omega) (InvM.upo (InvM.upo (InvM.upi hI9 (vp_in_nI (Nat.lt_of_lt_of_le hk (by decide)) (by decide))) rfl) rfl))) (fun h5 => (ih (k + 1) _ (by omega) hI9)))) (fun h3 => (ite_m2 (fun h4 => (InvM.upo hI9 rfl)) (fun h4 => (i_m_link (m9 15 t) (hI9 15 _ rfl) (m9 11 t) (hI9 11 _ rfl) (up2 m9 1 ((m9 15 t).toNatClampNeg) (m9 8 t)) (InvM.upo hI9 rfl))))))
theorem i_m_insert (t : Nat) (ht : t < 4) (m : CS) (hI : InvM m) : InvM (f_m_insert t m).2 := by
  unfold f_m_insert
  exact (ite_m2 (fun h1 => (i_fl_m_insert_49 t ht 20 1 _ (by decide) hI)) (fun h1 => (ite_m2 (fun h6 => (InvM.upo hI rfl)) (fun h6 => (InvM.upo (InvM.upi (InvM.upo hI rfl) vp0) rfl)))))
set_option maxRecDepth 100000 in
set_option maxHeartbeats 4000000 in
theorem k_m_insert (l : Launch) (D : va_G) (K : Nat → ClassId) (base : Nat) (Y : Nat → Nat) (t : Nat) (ht : t < 4) (m : CS) (hI : InvM m) : CtI l D K base yM_insert cM_insert 3 .int (rmD 1) [.ref (Y 0), .int (nI t)] (mW Y K m) (f_m_insert t m).1 (mW Y K (f_m_insert t m).2) := by
  refine CtI.enter (by decide) (Nat.le_of_ble_eq_true rfl) ?_
  intro κ A Q F hE
  show G κ l (rmD 1) A Q D 3 0 0 (mW Y K m) 0 [(0, .ref (Y 0)), (1, .int (nI t))] []
  have hloop49 : ∀ (n k : Nat) (m9 : CS), k + n = 21 → InvM m9 → f_m_insert t m = fl_m_insert_49 t n k m9 → G κ l (rmD 1) A Q D 3 0 0 (mW Y K m9) 49 [(2, .int (nI k)), (0, .ref (Y 0)), (1, .int (nI t))] [] := by
    intro n
    induction n with
    | zero =>
      intro k m9 hkn hI9 hρ
      obtain rfl : k = 21 := by omega
      refine G.iload_n 0 F dM_insert_49 rfl rfl ?_
      refine G.bipush 20 F dM_insert_50 (by decide) ?_
      refine G.icmp_gt 103 F dM_insert_52 rfl (fun _ => ?_) (fun h9 => absurd (by decide) h9)
      refine G.aload_n 1 F dM_insert_103 rfl rfl ?_
      refine G.gM 19 F (by decide) flM_56 rfl dM_insert_104 ?_
      refine G.iload_n 2 F dM_insert_107 rfl rfl ?_
      refine G.ldMn 15 F (by decide) rfl (k := t) rfl ht dM_insert_108 ?_
      refine G.if_ne 122 F dM_insert_109 rfl (fun h2 => ?_) (fun h2 => ?_)
      · skip
        refine G.aload_n 1 F dM_insert_122 rfl rfl ?_
        refine G.gM 5 F (by decide) flM_13 rfl dM_insert_123 ?_
        refine G.aload_n 1 F dM_insert_126 rfl rfl ?_
        refine G.gM 19 F (by decide) flM_56 rfl dM_insert_127 ?_
        refine G.iload_n 2 F dM_insert_130 rfl rfl ?_
        refine G.ldMn 15 F (by decide) rfl (k := t) rfl ht dM_insert_131 ?_
        refine G.aload_n 1 F dM_insert_132 rfl rfl ?_
        refine G.gM 12 F (by decide) flM_35 rfl dM_insert_133 ?_
        refine G.iload_n 2 F dM_insert_136 rfl rfl ?_
        refine G.ldMn 8 F (by decide) rfl (k := t) rfl ht dM_insert_137 ?_
        refine G.stM 1 F (by decide) rfl (hI9 15 _ rfl) dM_insert_138 ?_
        refine G.aload_n 1 F dM_insert_139 rfl rfl ?_
        refine G.aload_n 1 F dM_insert_140 rfl rfl ?_
        refine G.gM 19 F (by decide) flM_56 rfl dM_insert_141 ?_
        refine G.iload_n 2 F dM_insert_144 rfl rfl ?_
        refine G.ldMn 15 F (by decide) rfl (k := t) rfl ht dM_insert_145 ?_
        refine G.tope (y := m9 15 t) (up2_f _ _ _ _ (by decide)) ?_
        refine G.aload_n 1 F dM_insert_146 rfl rfl ?_
        refine G.gM 15 F (by decide) flM_44 rfl dM_insert_147 ?_
        refine G.iload_n 2 F dM_insert_150 rfl rfl ?_
        refine G.ldMn 11 F (by decide) rfl (k := t) rfl ht dM_insert_151 ?_
        refine G.tope (y := m9 11 t) (up2_f _ _ _ _ (by decide)) ?_
        refine G.iconst 0 F dM_insert_152 (by decide) ?_
        refine G.callv F (k_m_link l D K base Y (m9 15 t) (hI9 15 _ rfl) (m9 11 t) (hI9 11 _ rfl) (up2 m9 1 ((m9 15 t).toNatClampNeg) (m9 8 t)) (InvM.upo hI9 rfl)) ckM_110 mW_m rfl rfl ⟨rfl, rfl⟩ ⟨by decide, by decide⟩ ⟨Nat.zero_le _, Nat.zero_le _⟩ rfl rfl (Nat.le_of_ble_eq_true rfl) dM_insert_153 ?_
        refine G.bipush 8 F dM_insert_156 (by decide) ?_
        have hr9 : f_m_insert t m = (8, (f_m_link (m9 15 t) (m9 11 t) (up2 m9 1 ((m9 15 t).toNatClampNeg) (m9 8 t)))) := hρ.trans (if_neg h2)
        exact G.st (congrArg (fun z : Int32 × CS => mW Y K z.2) hr9) (hE _ _ 8 dM_insert_158 rfl (congrArg Prod.fst hr9).symm)
      · skip
        refine G.aload_n 1 F dM_insert_112 rfl rfl ?_
        refine G.gM 20 F (by decide) flM_59 rfl dM_insert_113 ?_
        refine G.iload_n 2 F dM_insert_116 rfl rfl ?_
        refine G.iconst 2 F dM_insert_117 (by decide) ?_
        refine G.stMn 16 F (by decide) rfl (k := t) rfl ht dM_insert_118 ?_
        refine G.bipush 9 F dM_insert_119 (by decide) ?_
        have hr9 : f_m_insert t m = (9, (up2 m9 16 t 2)) := hρ.trans (if_pos h2)
        exact G.st (congrArg (fun z : Int32 × CS => mW Y K z.2) hr9) (hE _ _ 9 dM_insert_121 rfl (congrArg Prod.fst hr9).symm)
    | succ n ih =>
      intro k m9 hkn hI9 hρ
      have hk : k < 21 := by omega
      refine G.iload_n 0 F dM_insert_49 rfl rfl ?_
      refine G.bipush 20 F dM_insert_50 (by decide) ?_
      refine G.icmp_gt 103 F dM_insert_52 rfl (fun h9 => absurd h9 (nI_nlt (a := 20) (Nat.le_of_lt_succ (Nat.lt_of_lt_of_le hk (by decide))) (by decide))) (fun _ => ?_)
      refine G.aload_n 1 F dM_insert_55 rfl rfl ?_
      refine G.gM 19 F (by decide) flM_56 rfl dM_insert_56 ?_
      refine G.iload_n 2 F dM_insert_59 rfl rfl ?_
      refine G.ldMn 15 F (by decide) rfl (k := t) rfl ht dM_insert_60 ?_
      refine G.if_ne 103 F dM_insert_61 rfl (fun h3 => ?_) (fun h3 => ?_)
      · skip
        refine G.aload_n 1 F dM_insert_103 rfl rfl ?_
        refine G.gM 19 F (by decide) flM_56 rfl dM_insert_104 ?_
        refine G.iload_n 2 F dM_insert_107 rfl rfl ?_
        refine G.ldMn 15 F (by decide) rfl (k := t) rfl ht dM_insert_108 ?_
        refine G.if_ne 122 F dM_insert_109 rfl (fun h4 => ?_) (fun h4 => ?_)
        · skip
          refine G.aload_n 1 F dM_insert_122 rfl rfl ?_
          refine G.gM 5 F (by decide) flM_13 rfl dM_insert_123 ?_
          refine G.aload_n 1 F dM_insert_126 rfl rfl ?_
          refine G.gM 19 F (by decide) flM_56 rfl dM_insert_127 ?_
          refine G.iload_n 2 F dM_insert_130 rfl rfl ?_
          refine G.ldMn 15 F (by decide) rfl (k := t) rfl ht dM_insert_131 ?_
          refine G.aload_n 1 F dM_insert_132 rfl rfl ?_
          refine G.gM 12 F (by decide) flM_35 rfl dM_insert_133 ?_
          refine G.iload_n 2 F dM_insert_136 rfl rfl ?_
          refine G.ldMn 8 F (by decide) rfl (k := t) rfl ht dM_insert_137 ?_
          refine G.stM 1 F (by decide) rfl (hI9 15 _ rfl) dM_insert_138 ?_
          refine G.aload_n 1 F dM_insert_139 rfl rfl ?_
          refine G.aload_n 1 F dM_insert_140 rfl rfl ?_
          refine G.gM 19 F (by decide) flM_56 rfl dM_insert_141 ?_
          refine G.iload_n 2 F dM_insert_144 rfl rfl ?_
          refine G.ldMn 15 F (by decide) rfl (k := t) rfl ht dM_insert_145 ?_
          refine G.tope (y := m9 15 t) (up2_f _ _ _ _ (by decide)) ?_
          refine G.aload_n 1 F dM_insert_146 rfl rfl ?_
          refine G.gM 15 F (by decide) flM_44 rfl dM_insert_147 ?_
          refine G.iload_n 2 F dM_insert_150 rfl rfl ?_
          refine G.ldMn 11 F (by decide) rfl (k := t) rfl ht dM_insert_151 ?_
          refine G.tope (y := m9 11 t) (up2_f _ _ _ _ (by decide)) ?_
          refine G.iconst 0 F dM_insert_152 (by decide) ?_
          refine G.callv F (k_m_link l D K base Y (m9 15 t) (hI9 15 _ rfl) (m9 11 t) (hI9 11 _ rfl) (up2 m9 1 ((m9 15 t).toNatClampNeg) (m9 8 t)) (InvM.upo hI9 rfl)) ckM_110 mW_m rfl rfl ⟨rfl, rfl⟩ ⟨by decide, by decide⟩ ⟨Nat.zero_le _, Nat.zero_le _⟩ rfl rfl (Nat.le_of_ble_eq_true rfl) dM_insert_153 ?_
          refine G.bipush 8 F dM_insert_156 (by decide) ?_
          have hr9 : f_m_insert t m = (8, (f_m_link (m9 15 t) (m9 11 t) (up2 m9 1 ((m9 15 t).toNatClampNeg) (m9 8 t)))) := hρ.trans ((if_neg h3).trans (if_neg h4))
          exact G.st (congrArg (fun z : Int32 × CS => mW Y K z.2) hr9) (hE _ _ 8 dM_insert_158 rfl (congrArg Prod.fst hr9).symm)
        · skip
          refine G.aload_n 1 F dM_insert_112 rfl rfl ?_
          refine G.gM 20 F (by decide) flM_59 rfl dM_insert_113 ?_
          refine G.iload_n 2 F dM_insert_116 rfl rfl ?_
          refine G.iconst 2 F dM_insert_117 (by decide) ?_
          refine G.stMn 16 F (by decide) rfl (k := t) rfl ht dM_insert_118 ?_
          refine G.bipush 9 F dM_insert_119 (by decide) ?_
          have hr9 : f_m_insert t m = (9, (up2 m9 16 t 2)) := hρ.trans ((if_neg h3).trans (if_pos h4))
          exact G.st (congrArg (fun z : Int32 × CS => mW Y K z.2) hr9) (hE _ _ 9 dM_insert_121 rfl (congrArg Prod.fst hr9).symm)
      · skip
        refine G.aload_n 1 F dM_insert_64 rfl rfl ?_
        refine G.gM 4 F (by decide) flM_7 rfl dM_insert_65 ?_
        refine G.iload_n 0 F dM_insert_68 rfl rfl ?_
        refine G.ldMn 0 F (by decide) rfl (k := k) rfl hk dM_insert_69 ?_
        refine G.if_ne 97 F dM_insert_70 rfl (fun h5 => ?_) (fun h5 => ?_)
        · skip
          refine G.iinc 0 (nI (k + 1)) F dM_insert_97 rfl (nI_succ k).symm (by decide) rfl ?_
          refine G.goto 49 F dM_insert_100 rfl ?_
          exact ih (k + 1) _ (by omega) hI9 (hρ.trans ((if_pos h3).trans (if_neg h5)))
        · skip
          refine G.aload_n 1 F dM_insert_73 rfl rfl ?_
          refine G.gM 19 F (by decide) flM_56 rfl dM_insert_74 ?_
          refine G.iload_n 2 F dM_insert_77 rfl rfl ?_
          refine G.iload_n 0 F dM_insert_78 rfl rfl ?_
          refine G.stMn 15 F (by decide) rfl (k := t) rfl ht dM_insert_79 ?_
          refine G.aload_n 1 F dM_insert_80 rfl rfl ?_
          refine G.gM 4 F (by decide) flM_7 rfl dM_insert_81 ?_
          refine G.iload_n 0 F dM_insert_84 rfl rfl ?_
          refine G.iconst 1 F dM_insert_85 (by decide) ?_
          refine G.stMn 0 F (by decide) rfl (k := k) rfl hk dM_insert_86 ?_
          refine G.aload_n 1 F dM_insert_87 rfl rfl ?_
          refine G.gM 8 F (by decide) flM_23 rfl dM_insert_88 ?_
          refine G.iload_n 0 F dM_insert_91 rfl rfl ?_
          refine G.dup2 F dM_insert_92 rfl rfl ?_
          refine G.ldMn 4 F (by decide) rfl (k := k) rfl hk dM_insert_93 ?_
          refine G.tope (y := m9 4 k) ((up2_f _ _ _ _ (by decide)).trans (up2_f _ _ _ _ (by decide))) ?_
          refine G.iconst 1 F dM_insert_94 (by decide) ?_
          refine G.iadd F dM_insert_95 ?_
          refine G.stMn 4 F (by decide) rfl (k := k) rfl hk dM_insert_96 ?_
          refine G.iinc 0 (nI (k + 1)) F dM_insert_97 rfl (nI_succ k).symm (by decide) rfl ?_
          refine G.goto 49 F dM_insert_100 rfl ?_
          exact ih (k + 1) _ (by omega) (InvM.upo (InvM.upo (InvM.upi hI9 (vp_in_nI (Nat.lt_of_lt_of_le hk (by decide)) (by decide))) rfl) rfl) (hρ.trans ((if_pos h3).trans (if_pos h5)))
  refine G.aload_n 0 F dM_insert_0 rfl rfl ?_
  refine G.gM 18 F (by decide) flM_53 rfl dM_insert_1 ?_
  refine G.iload_n 1 F dM_insert_4 rfl rfl ?_
  refine G.ldMzn 14 F (by decide) rfl (k := t) rfl ht dM_insert_5 ?_
  refine G.if_eq 47 F dM_insert_6 rfl (fun h1 => ?_) (fun h1 => ?_)
  · skip
    refine G.iconst 1 F dM_insert_47 (by decide) ?_
    refine G.istore_nN F dM_insert_48 rfl (by decide) rfl ?_
    exact hloop49 20 1 _ (by decide) hI (if_pos h1)
  · skip
    refine G.aload_n 0 F dM_insert_9 rfl rfl ?_
    refine G.gM 19 F (by decide) flM_56 rfl dM_insert_10 ?_
    refine G.iload_n 1 F dM_insert_13 rfl rfl ?_
    refine G.ldMn 15 F (by decide) rfl (k := t) rfl ht dM_insert_14 ?_
    refine G.if_le 37 F dM_insert_15 rfl (fun h6 => ?_) (fun h6 => ?_)
    · skip
      refine G.aload_n 0 F dM_insert_37 rfl rfl ?_
      refine G.gM 20 F (by decide) flM_59 rfl dM_insert_38 ?_
      refine G.iload_n 1 F dM_insert_41 rfl rfl ?_
      refine G.iconst 0 F dM_insert_42 (by decide) ?_
      refine G.stMn 16 F (by decide) rfl (k := t) rfl ht dM_insert_43 ?_
      refine G.bipush 9 F dM_insert_44 (by decide) ?_
      have hr9 : f_m_insert t m = (9, (up2 m 16 t 0)) := (if_neg h1).trans (if_pos h6)
      exact G.st (congrArg (fun z : Int32 × CS => mW Y K z.2) hr9) (hE _ _ 9 dM_insert_46 rfl (congrArg Prod.fst hr9).symm)
    · skip
      refine G.aload_n 0 F dM_insert_18 rfl rfl ?_
      refine G.gM 4 F (by decide) flM_7 rfl dM_insert_19 ?_
      refine G.aload_n 0 F dM_insert_22 rfl rfl ?_
      refine G.gM 19 F (by decide) flM_56 rfl dM_insert_23 ?_
      refine G.iload_n 1 F dM_insert_26 rfl rfl ?_
      refine G.ldMn 15 F (by decide) rfl (k := t) rfl ht dM_insert_27 ?_
      refine G.iconst 0 F dM_insert_28 (by decide) ?_
      refine G.stM 0 F (by decide) rfl (hI 15 _ rfl) dM_insert_29 ?_
      refine G.aload_n 0 F dM_insert_30 rfl rfl ?_
      refine G.gM 19 F (by decide) flM_56 rfl dM_insert_31 ?_
      refine G.iload_n 1 F dM_insert_34 rfl rfl ?_
      refine G.iconst 0 F dM_insert_35 (by decide) ?_
      refine G.stMn 15 F (by decide) rfl (k := t) rfl ht dM_insert_36 ?_
      refine G.aload_n 0 F dM_insert_37 rfl rfl ?_
      refine G.gM 20 F (by decide) flM_59 rfl dM_insert_38 ?_
      refine G.iload_n 1 F dM_insert_41 rfl rfl ?_
      refine G.iconst 0 F dM_insert_42 (by decide) ?_
      refine G.stMn 16 F (by decide) rfl (k := t) rfl ht dM_insert_43 ?_
      refine G.bipush 9 F dM_insert_44 (by decide) ?_
      have hr9 : f_m_insert t m = (9, (up2 (up2 (up2 m 0 ((m 15 t).toNatClampNeg) 0) 15 t 0) 16 t 0)) := (if_neg h1).trans (if_neg h6)
      exact G.st (congrArg (fun z : Int32 × CS => mW Y K z.2) hr9) (hE _ _ 9 dM_insert_46 rfl (congrArg Prod.fst hr9).symm)

def f_m_beging (t : Nat) (o : Int32) (y : Int32) (m : CS) : CS := (if o < 0 then (up2 m 20 0 2) else (if 2 < o then (up2 m 20 0 2) else (if y < 0 then (up2 m 20 0 2) else (if y ≤ 31 then (if m 6 t = 0 then (up2 (up2 (up2 (up2 (up2 (up2 (up2 (up2 (up2 m 20 0 0) 7 t o) 8 t y) 9 t 0) 11 t 0) 13 t 0) 14 t 0) 15 t 0) 6 t 1) else (up2 m 20 0 3)) else (up2 m 20 0 2)))))
theorem i_m_beging (t : Nat) (ht : t < 4) (o : Int32) (y : Int32) (m : CS) (hI : InvM m) : InvM (f_m_beging t o y m) := by
  unfold f_m_beging
  exact (ite_m (fun h1 => (InvM.upo hI rfl)) (fun h1 => (ite_m (fun h2 => (InvM.upo hI rfl)) (fun h2 => (ite_m (fun h3 => (InvM.upo hI rfl)) (fun h3 => (ite_m (fun h4 => (ite_m (fun h5 => (InvM.upo (InvM.upi (InvM.upo (InvM.upi (InvM.upi (InvM.upi (InvM.upo (InvM.upo (InvM.upo hI rfl) rfl) rfl) vp0) vp0) vp0) rfl) vp0) rfl)) (fun h5 => (InvM.upo hI rfl)))) (fun h4 => (InvM.upo hI rfl)))))))))
set_option maxRecDepth 100000 in
set_option maxHeartbeats 4000000 in
theorem k_m_beging (l : Launch) (D : va_G) (K : Nat → ClassId) (base : Nat) (Y : Nat → Nat) (t : Nat) (ht : t < 4) (o : Int32) (y : Int32) (m : CS) (hI : InvM m) : CtV l D K base yM_begin cM_begin 4 (rmD 1) [.ref (Y 0), .int (nI t), .int o, .int y] (mW Y K m) (mW Y K (f_m_beging t o y m)) := by
  refine CtV.enter (by decide) (Nat.le_of_ble_eq_true rfl) ?_
  intro κ A Q F hE
  show G κ l (rmD 1) A Q D 4 0 0 (mW Y K m) 0 [(0, .ref (Y 0)), (1, .int (nI t)), (2, .int o), (3, .int y)] []
  refine G.aload_n 0 F dM_begin_0 rfl rfl ?_
  refine G.iload_n 1 F dM_begin_1 rfl rfl ?_
  refine G.callsi F (k_m_isThread l D K base Y (nI t) m hI) ckM_78 ⟨rfl, rfl⟩ ⟨by decide, by decide⟩ ⟨Nat.zero_le _, Nat.zero_le _⟩ rfl rfl (Nat.le_of_ble_eq_true rfl) dM_begin_2 ?_
  refine G.if_ne 12 F dM_begin_5 rfl (fun _ => ?_) (fun h9 => absurd h9 (isT ht m))
  refine G.iload_n 2 F dM_begin_12 rfl rfl ?_
  refine G.if_lt 31 F dM_begin_13 rfl (fun h1 => ?_) (fun h1 => ?_)
  · skip
    refine G.iconst 2 F dM_begin_31 (by decide) ?_
    refine G.goto 49 F dM_begin_32 rfl ?_
    refine G.pM 0 F (by decide) flM_75 dM_begin_49 ?_
    refine G.aload_n 0 F dM_begin_52 rfl rfl ?_
    refine G.gM 0 F (by decide) flM_75 rfl dM_begin_53 ?_
    refine G.tope (y := 2) (up2_eq _ _ _ _) ?_
    refine G.if_le 60 F dM_begin_56 rfl (fun h9 => absurd h9 (by decide)) (fun _ => ?_)
    exact G.st (congrArg (mW Y K) (if_pos h1)) (hE _ _ dM_begin_59)
  · skip
    refine G.iload_n 2 F dM_begin_16 rfl rfl ?_
    refine G.iconst 2 F dM_begin_17 (by decide) ?_
    refine G.icmp_gt 31 F dM_begin_18 rfl (fun h2 => ?_) (fun h2 => ?_)
    · skip
      refine G.iconst 2 F dM_begin_31 (by decide) ?_
      refine G.goto 49 F dM_begin_32 rfl ?_
      refine G.pM 0 F (by decide) flM_75 dM_begin_49 ?_
      refine G.aload_n 0 F dM_begin_52 rfl rfl ?_
      refine G.gM 0 F (by decide) flM_75 rfl dM_begin_53 ?_
      refine G.tope (y := 2) (up2_eq _ _ _ _) ?_
      refine G.if_le 60 F dM_begin_56 rfl (fun h9 => absurd h9 (by decide)) (fun _ => ?_)
      exact G.st (congrArg (mW Y K) ((if_neg h1).trans (if_pos h2))) (hE _ _ dM_begin_59)
    · skip
      refine G.iload_n 3 F dM_begin_21 rfl rfl ?_
      refine G.if_lt 31 F dM_begin_22 rfl (fun h3 => ?_) (fun h3 => ?_)
      · skip
        refine G.iconst 2 F dM_begin_31 (by decide) ?_
        refine G.goto 49 F dM_begin_32 rfl ?_
        refine G.pM 0 F (by decide) flM_75 dM_begin_49 ?_
        refine G.aload_n 0 F dM_begin_52 rfl rfl ?_
        refine G.gM 0 F (by decide) flM_75 rfl dM_begin_53 ?_
        refine G.tope (y := 2) (up2_eq _ _ _ _) ?_
        refine G.if_le 60 F dM_begin_56 rfl (fun h9 => absurd h9 (by decide)) (fun _ => ?_)
        exact G.st (congrArg (mW Y K) ((if_neg h1).trans ((if_neg h2).trans (if_pos h3)))) (hE _ _ dM_begin_59)
      · skip
        refine G.iload_n 3 F dM_begin_25 rfl rfl ?_
        refine G.bipush 31 F dM_begin_26 (by decide) ?_
        refine G.icmp_le 35 F dM_begin_28 rfl (fun h4 => ?_) (fun h4 => ?_)
        · skip
          refine G.aload_n 0 F dM_begin_35 rfl rfl ?_
          refine G.gM 10 F (by decide) flM_29 rfl dM_begin_36 ?_
          refine G.iload_n 1 F dM_begin_39 rfl rfl ?_
          refine G.ldMn 6 F (by decide) rfl (k := t) rfl ht dM_begin_40 ?_
          refine G.if_eq 48 F dM_begin_41 rfl (fun h5 => ?_) (fun h5 => ?_)
          · skip
            refine G.iconst 0 F dM_begin_48 (by decide) ?_
            refine G.pM 0 F (by decide) flM_75 dM_begin_49 ?_
            refine G.aload_n 0 F dM_begin_52 rfl rfl ?_
            refine G.gM 0 F (by decide) flM_75 rfl dM_begin_53 ?_
            refine G.tope (y := 0) (up2_eq _ _ _ _) ?_
            refine G.if_le 60 F dM_begin_56 rfl (fun _ => ?_) (fun h9 => absurd (by decide) h9)
            refine G.aload_n 0 F dM_begin_60 rfl rfl ?_
            refine G.gM 11 F (by decide) flM_32 rfl dM_begin_61 ?_
            refine G.iload_n 1 F dM_begin_64 rfl rfl ?_
            refine G.iload_n 2 F dM_begin_65 rfl rfl ?_
            refine G.stMn 7 F (by decide) rfl (k := t) rfl ht dM_begin_66 ?_
            refine G.aload_n 0 F dM_begin_67 rfl rfl ?_
            refine G.gM 12 F (by decide) flM_35 rfl dM_begin_68 ?_
            refine G.iload_n 1 F dM_begin_71 rfl rfl ?_
            refine G.iload_n 3 F dM_begin_72 rfl rfl ?_
            refine G.stMn 8 F (by decide) rfl (k := t) rfl ht dM_begin_73 ?_
            refine G.aload_n 0 F dM_begin_74 rfl rfl ?_
            refine G.gM 13 F (by decide) flM_38 rfl dM_begin_75 ?_
            refine G.iload_n 1 F dM_begin_78 rfl rfl ?_
            refine G.iconst 0 F dM_begin_79 (by decide) ?_
            refine G.stMn 9 F (by decide) rfl (k := t) rfl ht dM_begin_80 ?_
            refine G.aload_n 0 F dM_begin_81 rfl rfl ?_
            refine G.gM 15 F (by decide) flM_44 rfl dM_begin_82 ?_
            refine G.iload_n 1 F dM_begin_85 rfl rfl ?_
            refine G.iconst 0 F dM_begin_86 (by decide) ?_
            refine G.stMn 11 F (by decide) rfl (k := t) rfl ht dM_begin_87 ?_
            refine G.aload_n 0 F dM_begin_88 rfl rfl ?_
            refine G.gM 17 F (by decide) flM_50 rfl dM_begin_89 ?_
            refine G.iload_n 1 F dM_begin_92 rfl rfl ?_
            refine G.iconst 0 F dM_begin_93 (by decide) ?_
            refine G.stMn 13 F (by decide) rfl (k := t) rfl ht dM_begin_94 ?_
            refine G.aload_n 0 F dM_begin_95 rfl rfl ?_
            refine G.gM 18 F (by decide) flM_53 rfl dM_begin_96 ?_
            refine G.iload_n 1 F dM_begin_99 rfl rfl ?_
            refine G.iconst 0 F dM_begin_100 (by decide) ?_
            refine G.stMzn 14 F (by decide) rfl rfl (k := t) rfl ht dM_begin_101 ?_
            refine G.aload_n 0 F dM_begin_102 rfl rfl ?_
            refine G.gM 19 F (by decide) flM_56 rfl dM_begin_103 ?_
            refine G.iload_n 1 F dM_begin_106 rfl rfl ?_
            refine G.iconst 0 F dM_begin_107 (by decide) ?_
            refine G.stMn 15 F (by decide) rfl (k := t) rfl ht dM_begin_108 ?_
            refine G.aload_n 0 F dM_begin_109 rfl rfl ?_
            refine G.gM 10 F (by decide) flM_29 rfl dM_begin_110 ?_
            refine G.iload_n 1 F dM_begin_113 rfl rfl ?_
            refine G.iconst 1 F dM_begin_114 (by decide) ?_
            refine G.stMn 6 F (by decide) rfl (k := t) rfl ht dM_begin_115 ?_
            exact G.st (congrArg (mW Y K) ((if_neg h1).trans ((if_neg h2).trans ((if_neg h3).trans ((if_pos h4).trans (if_pos h5)))))) (hE _ _ dM_begin_116)
          · skip
            refine G.iconst 3 F dM_begin_44 (by decide) ?_
            refine G.goto 49 F dM_begin_45 rfl ?_
            refine G.pM 0 F (by decide) flM_75 dM_begin_49 ?_
            refine G.aload_n 0 F dM_begin_52 rfl rfl ?_
            refine G.gM 0 F (by decide) flM_75 rfl dM_begin_53 ?_
            refine G.tope (y := 3) (up2_eq _ _ _ _) ?_
            refine G.if_le 60 F dM_begin_56 rfl (fun h9 => absurd h9 (by decide)) (fun _ => ?_)
            exact G.st (congrArg (mW Y K) ((if_neg h1).trans ((if_neg h2).trans ((if_neg h3).trans ((if_pos h4).trans (if_neg h5)))))) (hE _ _ dM_begin_59)
        · skip
          refine G.iconst 2 F dM_begin_31 (by decide) ?_
          refine G.goto 49 F dM_begin_32 rfl ?_
          refine G.pM 0 F (by decide) flM_75 dM_begin_49 ?_
          refine G.aload_n 0 F dM_begin_52 rfl rfl ?_
          refine G.gM 0 F (by decide) flM_75 rfl dM_begin_53 ?_
          refine G.tope (y := 2) (up2_eq _ _ _ _) ?_
          refine G.if_le 60 F dM_begin_56 rfl (fun h9 => absurd h9 (by decide)) (fun _ => ?_)
          exact G.st (congrArg (mW Y K) ((if_neg h1).trans ((if_neg h2).trans ((if_neg h3).trans (if_neg h4))))) (hE _ _ dM_begin_59)

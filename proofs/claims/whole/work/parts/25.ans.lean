-- ===== what both answer =====
section ANS
variable {t j : Nat} {c m : CS} {v b w : Int32}
theorem look_t : f_m_look b v m 20 0 = m 20 0 := by
  unfold f_m_look
  split
  · exact up2_i _ _ _ _ (by decide)
  · split
    · exact up2_i _ _ _ _ (by decide)
    · split
      · exact up2_i _ _ _ _ (by decide)
      · exact up2_i _ _ _ _ (by decide)
theorem lookB_t : f_m_lookBack t m 20 0 = m 20 0 := by
  unfold f_m_lookBack
  exact look_t
theorem come_t : (f_m_come t b m).2 20 0 = m 20 0 := by
  unfold f_m_come
  split
  · split
    · simp [up2_f]
    · simp [up2_f]
  · simp [up2_f]
theorem link_t : f_m_link b v m 20 0 = m 20 0 := by
  unfold f_m_link
  simp [up2_f]
theorem ins_t {n k : Nat} : (fl_m_insert_49 t n k m).2 20 0 = m 20 0 := by
  induction n generalizing k m with
  | zero =>
    unfold fl_m_insert_49
    repeat' split
    all_goals simp [up2_f, link_t]
  | succ n ih =>
    unfold fl_m_insert_49
    repeat' split
    all_goals simp [ih, up2_f, link_t]
theorem ins2_t : (f_m_insert t m).2 20 0 = m 20 0 := by
  unfold f_m_insert
  repeat' split
  all_goals simp [ins_t, up2_f]
theorem rem_t : (f_m_remove t m).2 20 0 = m 20 0 := by
  unfold f_m_remove
  repeat' split
  all_goals simp [look_t, up2_f]
theorem act_t : (f_m_act t m).2 20 0 = m 20 0 := by
  unfold f_m_act
  repeat' split
  all_goals simp [ins2_t, rem_t, up2_f]
theorem head_t : (f_m_head t m).2 20 0 = m 20 0 := by
  unfold f_m_head
  simp [come_t, up2_f]
theorem name_t : (f_m_name t m).2 20 0 = m 20 0 := by
  unfold f_m_name
  repeat' split
  all_goals simp [up2_f]
theorem check_t : (f_m_check t m).2 20 0 = m 20 0 := by
  unfold f_m_check
  repeat' split
  all_goals simp [lookB_t, up2_f]
theorem read_t : (f_m_read t m).2 20 0 = m 20 0 := by
  unfold f_m_read
  repeat' split
  all_goals simp [look_t, come_t, up2_f]
theorem cut_t : (f_m_cut t m).2 20 0 = m 20 0 := by
  unfold f_m_cut
  repeat' split
  all_goals simp [lookB_t, come_t, mcut_f]
theorem hang_t : (f_m_hang t m).2 20 0 = m 20 0 := by
  unfold f_m_hang
  repeat' split
  all_goals simp [lookB_t, link_t, up2_f]
theorem end_t : (f_m_end t m).2 20 0 = m 20 0 := by
  unfold f_m_end
  simp [up2_f]
theorem unhang_t : (f_m_unhang t m).2 20 0 = m 20 0 := by
  unfold f_m_unhang
  repeat' split
  all_goals simp [lookB_t, mcut_f, up2_f]
theorem adv_t : f_m_advanceThread t m 20 0 = m 20 0 := by
  unfold f_m_advanceThread
  repeat' split
  all_goals simp [head_t, name_t, check_t, read_t, cut_t, act_t, hang_t, end_t, unhang_t, up2_f]
theorem fin_t {n k : Nat} : (fl_m_finishg_40 t n k m).2 20 0 = m 20 0 := by
  induction n generalizing k m with
  | zero =>
    unfold fl_m_finishg_40
    split
    · rfl
    · rfl
  | succ n ih =>
    unfold fl_m_finishg_40
    split
    · rfl
    · rw [ih]; exact adv_t
theorem advl_t {n k : Nat} {z : Int32} : (fl_m_advance_92 n k z m).2 20 0 = m 20 0 := by
  induction n generalizing k m with
  | zero => rfl
  | succ n ih =>
    unfold fl_m_advance_92
    split
    · split
      · rw [ih]; simp [up2_f]
      · rw [ih]; simp [up2_f]
    · rw [ih]; simp [up2_f]
theorem advl1_t {n k : Nat} {z : Int32} : (fl_m_advance_31 n k z m).2 20 0 = m 20 0 := by
  induction n generalizing k z m with
  | zero =>
    unfold fl_m_advance_31
    split
    · rfl
    · rw [advl_t]; exact up2_i _ _ _ _ (by decide)
  | succ n ih =>
    unfold fl_m_advance_31
    split
    · exact ih
    · split
      · exact ih
      · split
        · exact ih
        · exact ih
theorem c7_m6 (h : Rel j c m) (ht : t < 4) : c 7 t = m 6 t := (h.2.2.2 t ht).1
theorem t0 : up2 m 20 0 v 20 0 = v := up2_eq ..
theorem z6 : up2 m 20 0 v 6 t = m 6 t := up2_f _ _ _ _ (by decide)
theorem a_begin_g (h : Rel j c m) (ht : t < 4) (ho : ¬ w < 0) (ho2 : w ≤ 2) (hy : ¬ v < 0) (hy2 : v < 32) (hb : c 7 t = 0) : (f_m_beging t w v m) 20 0 = 0 ∧ Rel j (f_begin t w v c) (f_m_beging t w v m) := by
  have o3 : w = 0 ∨ w = 1 ∨ w = 2 := by
    have a1 : ¬ w.toInt < 0 := fun q => ho (Int32.lt_iff_toInt_lt.mpr q)
    have a2 : w.toInt ≤ 2 := Int32.le_iff_toInt_le.mp ho2
    have a3 : w.toInt = 0 ∨ w.toInt = 1 ∨ w.toInt = 2 := by omega
    rcases a3 with q | q | q
    · exact Or.inl (Int32.toInt_inj.mp q)
    · exact Or.inr (Or.inl (Int32.toInt_inj.mp q))
    · exact Or.inr (Or.inr (Int32.toInt_inj.mp q))
  have y31 : v ≤ 31 := by
    have a1 : v.toInt < 32 := Int32.lt_iff_toInt_lt.mp hy2
    exact Int32.le_iff_toInt_le.mpr (show v.toInt ≤ 31 by omega)
  have e1 : f_m_beging t w v m = (up2 (up2 (up2 (up2 (up2 (up2 (up2 (up2 (up2 m 20 0 0) 7 t w) 8 t v) 9 t 0) 11 t 0) 13 t 0) 14 t 0) 15 t 0) 6 t 1) := by
    unfold f_m_beging
    rw [if_neg ho, if_neg (Int32.not_lt.mpr ho2), if_neg hy, if_pos y31, if_pos ((c7_m6 h ht).symm.trans hb)]
  rw [e1]
  exact ⟨by simp [up2_f, up2_eq], r_begin h o3 ⟨Int32.not_lt.mp hy, y31⟩⟩
theorem a_begin_o (ho : w < 0 ∨ ¬ w ≤ 2) : f_m_beging t w v m = up2 m 20 0 2 := by
  unfold f_m_beging
  by_cases h1 : w < 0
  · rw [if_pos h1]
  · rw [if_neg h1, if_pos (Int32.not_le.mp (ho.resolve_left h1))]
theorem a_begin_y (ho : ¬ w < 0) (ho2 : w ≤ 2) (hy : v < 0 ∨ ¬ v < 32) : f_m_beging t w v m = up2 m 20 0 2 := by
  unfold f_m_beging
  rw [if_neg ho, if_neg (Int32.not_lt.mpr ho2)]
  by_cases h1 : v < 0
  · rw [if_pos h1]
  · have q := hy.resolve_left h1
    have : ¬ v ≤ 31 := fun z => q (by
      have a1 : v.toInt ≤ 31 := Int32.le_iff_toInt_le.mp z
      exact Int32.lt_iff_toInt_lt.mpr (show v.toInt < 32 by omega))
    rw [if_neg h1, if_neg this]
theorem a_begin_i (h : Rel j c m) (ht : t < 4) (ho : ¬ w < 0) (ho2 : w ≤ 2) (hy : ¬ v < 0) (hy2 : v < 32) (hb : ¬ c 7 t = 0) : f_m_beging t w v m = up2 m 20 0 3 := by
  have y31 : v ≤ 31 := by
    have a1 : v.toInt < 32 := Int32.lt_iff_toInt_lt.mp hy2
    exact Int32.le_iff_toInt_le.mpr (show v.toInt ≤ 31 by omega)
  unfold f_m_beging
  rw [if_neg ho, if_neg (Int32.not_lt.mpr ho2), if_neg hy, if_pos y31, if_neg (fun q => hb ((c7_m6 h ht).trans q))]
theorem a_step_g (h : Rel j c m) (hj : j ≤ 600) (ht : t < 4) (hM : InvM m) (hb : ¬ c 7 t = 0) : (f_m_stepg t m).2 20 0 = 0 ∧ (f_step t c).1 = (f_m_stepg t m).1 ∧ Rel j (f_step t c).2 (f_m_stepg t m).2 := by
  have h6 : ¬ m 6 t = 0 := fun q => hb ((c7_m6 h ht).trans q)
  have e1 : f_m_stepg t m = ((f_m_advanceThread t (up2 m 20 0 0)) 6 t, f_m_advanceThread t (up2 m 20 0 0)) := by unfold f_m_stepg; rw [if_neg h6]
  have hr := s_perform (r_thr (v := 0) h) hj ht (hM.upo rfl) (by rw [z6]; exact h6)
  rw [e1]
  exact ⟨adv_t.trans t0, c7_m6 hr ht, hr⟩
theorem a_step_i (h : Rel j c m) (ht : t < 4) (hb : c 7 t = 0) : f_m_stepg t m = (0, up2 m 20 0 2) := by
  unfold f_m_stepg
  rw [if_pos ((c7_m6 h ht).symm.trans hb)]
theorem a_finish_g (h : Rel j c m) (hj : j ≤ 600) (ht : t < 4) (hM : InvM m) (hb : ¬ c 7 t = 0) : (f_m_finishg t m).2 20 0 = 0 ∧ (f_finish t c).1 = (f_m_finishg t m).1 ∧ Rel j (f_finish t c).2 (f_m_finishg t m).2 := by
  have h6 : ¬ m 6 t = 0 := fun q => hb ((c7_m6 h ht).trans q)
  have e1 : f_m_finishg t m = fl_m_finishg_40 t 300 0 (up2 m 20 0 0) := by unfold f_m_finishg; rw [if_neg h6]
  have hr := s_finish (n := 300) (k := 0) (r_thr (v := 0) h) hj ht (hM.upo rfl)
  rw [e1]
  exact ⟨fin_t.trans t0, hr.2, hr.1⟩
theorem a_finish_i (h : Rel j c m) (ht : t < 4) (hb : c 7 t = 0) : f_m_finishg t m = (0, up2 m 20 0 2) := by
  unfold f_m_finishg
  rw [if_pos ((c7_m6 h ht).symm.trans hb)]
theorem a_result_g (h : Rel j c m) (ht : t < 4) (hb : ¬ c 18 t = -1) : f_m_resultg t m = (f_result t c, up2 m 20 0 0) := by
  have hT := h.2.2.1 t ht
  rw [hT.2.2.2.2.2.2.2.1] at hb
  unfold f_m_resultg f_result
  rw [if_pos (hT.2.2.2.2.2.2.2.2.2.2.2.2.2.2.1.resolve_left hb), hT.2.2.2.2.2.2.2.1]
theorem a_result_n (h : Rel j c m) (ht : t < 4) (hb : c 18 t = -1) : f_m_resultg t m = (0, up2 m 20 0 2) := by
  have hT := h.2.2.1 t ht
  rw [hT.2.2.2.2.2.2.2.1] at hb
  unfold f_m_resultg
  rw [if_neg (by rw [hb]; decide)]
theorem a_at_g (h : Rel j c m) (ht : t < 4) : f_m_atg t m = (f_at t c, up2 m 20 0 0) := by
  unfold f_m_atg f_at
  rw [c7_m6 h ht]
theorem a_known0 (h : Rel j c m) (ht : t < 4) : f_m_knowng t 0 m = (f_known0 t c, up2 m 20 0 0) := by
  have hT := h.2.2.1 t ht
  unfold f_m_knowng f_known0
  rw [if_neg (by decide), if_neg (by decide), if_pos rfl, hT.2.2.1]
theorem a_known1 (h : Rel j c m) (ht : t < 4) : f_m_knowng t 1 m = (f_known1 t c, up2 m 20 0 0) := by
  have hT := h.2.2.1 t ht
  unfold f_m_knowng f_known1
  rw [if_neg (by decide), if_neg (by decide), if_neg (by decide), if_pos rfl, hT.2.2.2.1]
theorem a_known2 (h : Rel j c m) (ht : t < 4) : f_m_knowng t 2 m = (f_known2 t c, up2 m 20 0 0) := by
  have hT := h.2.2.1 t ht
  unfold f_m_knowng f_known2
  rw [if_neg (by decide), if_neg (by decide), if_neg (by decide), if_neg (by decide), if_pos rfl, hT.2.2.2.2.1]
theorem a_known3 (h : Rel j c m) (ht : t < 4) : f_m_knowng t 3 m = (f_known3 t c, up2 m 20 0 0) := by
  have hT := h.2.2.1 t ht
  unfold f_m_knowng f_known3
  rw [if_neg (by decide), if_neg (by decide), if_neg (by decide), if_neg (by decide), if_neg (by decide), hT.2.2.2.2.2.2.1]
theorem a_known_w (hw : w.toInt < 0 ∨ 3 < w.toInt) : f_m_knowng t w m = (0, up2 m 20 0 1) := by
  unfold f_m_knowng
  by_cases h1 : w < 0
  · rw [if_pos h1]
  · have h2 : 3 < w.toInt := hw.resolve_left (fun q => h1 (Int32.lt_iff_toInt_lt.mpr q))
    rw [if_neg h1, if_pos (show (3 : Int32) < w from Int32.lt_iff_toInt_lt.mpr h2)]
theorem slot_says {s : Int32} {M : CS} : (if s = 0 then ((-1 : Int32), M) else (s, M)) = (slotC s, M) := by
  unfold slotC
  split <;> rfl
theorem a_says0 (h : Rel j c m) (ht : t < 4) : f_m_says0 t m = (f_says0 t c, up2 m 20 0 0) := by
  have hT := h.2.2.1 t ht
  unfold f_m_says0 f_says0
  rw [hT.2.2.2.2.2.2.2.2.2.1]
  exact slot_says
theorem a_says1 (h : Rel j c m) (ht : t < 4) : f_m_says1 t m = (f_says1 t c, up2 m 20 0 0) := by
  have hT := h.2.2.1 t ht
  unfold f_m_says1 f_says1
  rw [hT.2.2.2.2.2.2.2.2.2.2.1]
  exact slot_says
theorem a_says2 (h : Rel j c m) (ht : t < 4) : f_m_says2 t m = (f_says2 t c, up2 m 20 0 0) := by
  have hT := h.2.2.1 t ht
  unfold f_m_says2 f_says2
  rw [hT.2.2.2.2.2.2.2.2.1]
theorem a_adv_g (h : Rel j c m) (hb : c 22 0 = 0) : (f_m_advance m).2 20 0 = 0 ∧ (f_advance c).1 = (f_m_advance m).1 ∧ bz (f_advance c).1 ∧ Rel (j + 1) (f_advance c).2 (f_m_advance m).2 := by
  have hX := h.2.1
  have e1 : f_m_advance m = fl_m_advance_31 4 0 1 (up2 m 20 0 0) := by unfold f_m_advance; rw [if_pos (hX.1.symm.trans hb)]
  have hr := r_advance (r_thr (v := 0) h)
  rw [e1]
  exact ⟨advl1_t.trans t0, hr.2.1, hr.2.2, hr.1⟩
theorem a_adv_x (h : Rel j c m) (hb : ¬ c 22 0 = 0) : f_m_advance m = (0, up2 m 20 0 1) := by
  have hX := h.2.1
  unfold f_m_advance
  rw [if_neg (fun q => hb (hX.1.trans q)), adv0]
theorem sw_t {n k : Nat} {r : Int32} : (fl_m_sweep_4 t n k r m).2 20 0 = m 20 0 := sweep_m (by decide)
theorem a_scan_g (h : Rel j c m) (ht : t < 4) (hb : c 22 0 = 1) : (f_m_scang t m).2 20 0 = 0 ∧ (f_scan t c).1 = (f_m_scang t m).1 ∧ Rel j (f_scan t c).2 (f_m_scang t m).2 := by
  have hX := h.2.1
  have e1 : f_m_scang t m = f_m_sweep t (up2 m 20 0 0) := by unfold f_m_scang; rw [if_pos (hX.1.symm.trans hb)]
  have hr := r_scan (r_thr (v := 0) h) ht
  rw [e1]
  exact ⟨(show (fl_m_sweep_4 t 20 1 0 (up2 m 20 0 0)).2 20 0 = 0 from sw_t.trans t0), hr.2, hr.1⟩
theorem a_scan_s (h : Rel j c m) (hb : ¬ c 22 0 = 1) : f_m_scang t m = (0, up2 m 20 0 2) := by
  have hX := h.2.1
  unfold f_m_scang
  rw [if_neg (fun q => hb (hX.1.trans q))]
theorem a_block_g {k : Nat} (h : Rel j c m) (hk : k < 21) (hw : ¬ w < 0) (hw2 : w ≤ 5) : f_m_blockg k w m = (f_block k w c, up2 m 20 0 0) := by
  have := r_block h hk hw (Int32.not_lt.mpr hw2)
  exact Prod.ext this.1.symm this.2
theorem a_block_w {k : Nat} (hw : w < 0 ∨ ¬ w ≤ 5) : f_m_blockg k w m = (0, up2 m 20 0 1) := by
  unfold f_m_blockg
  by_cases h1 : w < 0
  · rw [if_pos h1]
  · rw [if_neg h1, if_pos (Int32.not_le.mp (hw.resolve_left h1))]
theorem a_size (h : Rel j c m) : f_m_size m = (f_size c, up2 m 20 0 0) := by
  unfold f_m_size
  rw [← r_size (r_thr (v := 0) h)]
theorem a_has (h : Rel j c m) : f_m_has v m = (f_has v c, up2 m 20 0 0) := by
  unfold f_m_has
  rw [r_has (v := v) (r_thr (v := 0) h)]
  split <;> rfl
theorem a_faults (h : Rel j c m) : f_m_faults m = (f_faults c, up2 m 20 0 0) := by
  unfold f_m_faults f_faults
  rw [h.2.1.2.2.1]
theorem a_epoch (h : Rel j c m) : f_m_epoch m = (f_epoch c, up2 m 20 0 0) := by
  unfold f_m_epoch f_epoch
  rw [h.2.1.2.1]
theorem thr_cases (p : Int32) : (∃ t, t < 4 ∧ p = nI t) ∨ (p < 0 ∨ ¬ p < 4) := by
  by_cases h1 : p < 0
  · exact Or.inr (Or.inl h1)
  · by_cases h2 : p < 4
    · left
      have a1 : ¬ p.toInt < 0 := fun q => h1 (Int32.lt_iff_toInt_lt.mpr q)
      have a2 : p.toInt < 4 := Int32.lt_iff_toInt_lt.mp h2
      have a3 : p.toInt = 0 ∨ p.toInt = 1 ∨ p.toInt = 2 ∨ p.toInt = 3 := by omega
      rcases a3 with q | q | q | q
      · exact ⟨0, by decide, Int32.toInt_inj.mp q⟩
      · exact ⟨1, by decide, Int32.toInt_inj.mp q⟩
      · exact ⟨2, by decide, Int32.toInt_inj.mp q⟩
      · exact ⟨3, by decide, Int32.toInt_inj.mp q⟩
    · exact Or.inr (Or.inr h2)
theorem noThr {p : Int32} (h : p < 0 ∨ ¬ p < 4) : f_m_isThread p m = 0 := by
  unfold f_m_isThread
  by_cases h1 : p < 0
  · rw [if_pos h1]
  · have h2 := h.resolve_left h1
    rw [if_neg h1, if_pos (Int32.lt_iff_toInt_lt.mpr (by
      have a1 : ¬ p.toInt < 4 := fun q => h2 (Int32.lt_iff_toInt_lt.mpr q)
      show (3 : Int) < p.toInt
      omega))]
theorem blk_nat {p : Int32} (h1 : ¬ p < 0) (h2 : p ≤ 20) : ∃ k, k < 21 ∧ p = nI k := by
  have a1 : ¬ p.toInt < 0 := fun q => h1 (Int32.lt_iff_toInt_lt.mpr q)
  have a2 : p.toInt ≤ 20 := Int32.le_iff_toInt_le.mp h2
  refine ⟨p.toInt.toNat, by omega, Int32.toInt_inj.mp ?_⟩
  have : (nI p.toInt.toNat).toInt = (p.toInt.toNat : Int) := nI_toInt (by omega)
  rw [this]
  omega
theorem w03 {w : Int32} : (w = 0 ∨ w = 1 ∨ w = 2 ∨ w = 3) ∨ (w.toInt < 0 ∨ 3 < w.toInt) := by
  by_cases h : w.toInt < 0 ∨ 3 < w.toInt
  · exact Or.inr h
  · left
    have a3 : w.toInt = 0 ∨ w.toInt = 1 ∨ w.toInt = 2 ∨ w.toInt = 3 := by omega
    rcases a3 with q | q | q | q
    · exact Or.inl (Int32.toInt_inj.mp q)
    · exact Or.inr (Or.inl (Int32.toInt_inj.mp q))
    · exact Or.inr (Or.inr (Or.inl (Int32.toInt_inj.mp q)))
    · exact Or.inr (Or.inr (Or.inr (Int32.toInt_inj.mp q)))
theorem w02 {w : Int32} : (w = 0 ∨ w = 1 ∨ w = 2) ∨ (w.toInt < 0 ∨ 2 < w.toInt) := by
  by_cases h : w.toInt < 0 ∨ 2 < w.toInt
  · exact Or.inr h
  · left
    have a3 : w.toInt = 0 ∨ w.toInt = 1 ∨ w.toInt = 2 := by omega
    rcases a3 with q | q | q
    · exact Or.inl (Int32.toInt_inj.mp q)
    · exact Or.inr (Or.inl (Int32.toInt_inj.mp q))
    · exact Or.inr (Or.inr (Int32.toInt_inj.mp q))
end ANS

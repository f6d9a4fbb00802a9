-- ===== whole calls, side by side =====
section ST5
variable {t u e : Nat} {c m : CS} {v b : Int32}
theorem Rel.of4 (h : RelW 4 e c m) : Rel e c m := ⟨h.1, h.2.1, h.2.2.1, fun i hi => h.2.2.2 i hi (by omega)⟩
theorem r_thr (h : Rel e c m) : Rel e c (up2 m 20 0 v) := Rel.of4 (w_thr (h.w 4))
theorem r_begin {o y : Int32} (h : Rel e c m) (ho : o = 0 ∨ o = 1 ∨ o = 2) (hy : 0 ≤ y ∧ y ≤ 31) : Rel e (f_begin t o y c) (up2 (up2 (up2 (up2 (up2 (up2 (up2 (up2 (up2 m 20 0 0) 7 t o) 8 t y) 9 t 0) 11 t 0) 13 t 0) 14 t 0) 15 t 0) 6 t 1) := by
  have e1 : f_begin t o y c = up2 (up2 (up2 (up2 (up2 (up2 (up2 (up2 (up2 (up2 c 8 t o) 9 t y) 10 t 0) 11 t 0) 12 t 0) 13 t 0) 14 t 0) 15 t 0) 16 t 0) 7 t 1 := by
    unfold f_begin f_forget
    funext f i
    simp only [up2]
    by_cases h8 : f = 8
    · subst h8; simp
    · by_cases h9 : f = 9
      · subst h9; simp
      · simp [h8, h9]
  rw [e1]
  exact RelW.of (w_c7 (w_m6 (w_new (w_found (w_next (w_c13 (w_here (w_c11 (w_back (w_wan (w_op (w_thr (h.w t)) ho) hy)))))) bz0)))) (by simp [RelS, stepOk, up2])
theorem adv0 {n k : Nat} : fl_m_advance_31 n k 0 m = (0, m) := by
  induction n generalizing k with
  | zero => unfold fl_m_advance_31; rw [if_pos rfl]
  | succ n ih => unfold fl_m_advance_31; rw [if_pos rfl]; exact ih
theorem s_ann {n k : Nat} (h : ∀ i, i < 4 → RelT c m i) (hX : RelX e c m) (hk : k + n = 4) : fl_m_advance_31 n k 1 m = (if fl_allAnnounceCurrentEpoch_2 n k c = 0 then (0, m) else fl_m_advance_92 20 1 1 (up2 m 20 2 (m 20 2 + 1))) := by
  induction n generalizing k with
  | zero =>
    unfold fl_m_advance_31 fl_allAnnounceCurrentEpoch_2
    rw [if_neg (show ¬ (1 : Int32) = 0 by decide)]
  | succ n ih =>
    have hT := h k (by omega)
    unfold fl_m_advance_31 fl_allAnnounceCurrentEpoch_2
    rw [if_neg (show ¬ (1 : Int32) = 0 by decide), hT.2.2.2.2.2.2.2.2.1, hX.2.1]
    rcases hT.2.2.2.2.2.2.2.2.2.2.2.2.2.2.2 with q | q
    · rw [if_pos (show m 18 k < 0 by rw [q]; decide), if_pos q]
      exact ih (by omega)
    · have n1 : ¬ m 18 k < 0 := Int32.not_lt.mpr q.1
      have n2 : ¬ m 18 k = -1 := fun z => n1 (by rw [z]; decide)
      rw [if_neg n1, if_neg n2]
      by_cases hq : m 18 k = m 20 2
      · rw [if_pos hq, if_pos hq]
        exact ih (by omega)
      · rw [if_neg hq, if_neg hq, adv0, if_pos rfl]
theorem s_old {n k : Nat} {z : Int32} (h : RelW u e c m) : RelW u e (fl_freeOldEpochs_2 n k c) (fl_m_advance_92 n k z m).2 ∧ (fl_m_advance_92 n k z m).1 = 1 := by
  induction n generalizing k c m with
  | zero => exact ⟨h, rfl⟩
  | succ n ih =>
    have hB := h.1 k
    unfold fl_freeOldEpochs_2 fl_m_advance_92
    rw [hB.1, hB.2.2.2.2.2.1, h.2.1.2.1, up2_same]
    by_cases h2 : m 0 k = 2
    · rw [if_pos h2, if_pos h2, if_pos h2]
      by_cases h5 : m 20 2 - 2 < m 5 k
      · rw [if_pos h5, if_pos h5]
        exact ih h
      · rw [if_neg h5, if_neg h5]
        exact ih (w_free h)
    · rw [if_neg h2, if_neg h2]
      exact ih h
theorem w_epoch (h : RelW u e c m) : RelW u (e + 1) (up2 c 22 1 (c 22 1 + 1)) (up2 m 20 2 (m 20 2 + 1)) := by
  obtain ⟨hB, hX, hT, hS⟩ := h
  refine ⟨fun i => ?_, ?_, fun i h4 => ?_, fun i h4 hi => ?_⟩
  · simpa [RelB, up2] using hB i
  · obtain ⟨x1, x2, x3, x4, x5, k, hk, hk2⟩ := hX
    refine ⟨?_, ?_, ?_, ?_, ?_, k + 1, by omega, ?_⟩
    · simpa [up2] using x1
    · simp [up2, x2]
    · simpa [up2] using x3
    · simpa [up2] using x4
    · simpa [up2] using x5
    · rw [up2_eq, hk2, nI_succ]
  · simpa [RelT, up2] using hT i h4
  · simpa [RelS, up2, hi] using hS i h4 hi
theorem Rel.mono {e' : Nat} (h : Rel e c m) (he : e ≤ e') : Rel e' c m := by
  obtain ⟨hB, ⟨x1, x2, x3, x4, x5, k, hk, hk2⟩, hT, hS⟩ := h
  exact ⟨hB, ⟨x1, x2, x3, x4, x5, k, by omega, hk2⟩, hT, hS⟩
theorem r_advance (h : Rel e c m) : Rel (e + 1) (f_advance c).2 (fl_m_advance_31 4 0 1 m).2 ∧ (f_advance c).1 = (fl_m_advance_31 4 0 1 m).1 ∧ bz (f_advance c).1 := by
  rw [s_ann h.2.2.1 h.2.1 (by decide)]
  unfold f_advance f_allAnnounceCurrentEpoch
  by_cases h0 : fl_allAnnounceCurrentEpoch_2 4 0 c = 0
  · rw [if_pos h0, if_pos h0]
    exact ⟨h.mono (by omega), rfl, bz0⟩
  · rw [if_neg h0, if_neg h0]
    have := s_old (n := 20) (k := 1) (z := 1) (w_epoch (h.w 4))
    exact ⟨Rel.of4 this.1, this.2.symm, bz1⟩
theorem r_scan (h : Rel e c m) (ht : t < 4) : Rel e (f_scan t c).2 (f_m_sweep t m).2 ∧ (f_scan t c).1 = (f_m_sweep t m).1 := by
  have := s_sweep (n := 20) (k := 1) (r := 0) (h.w 4) ht (by decide) (by decide)
  exact ⟨Rel.of4 this.1, this.2⟩
theorem q_size {n k : Nat} {r : Int32} (h : RelB c m) : fl_size_14 n k b r c = fl_m_count_13 0 31 n k b r m := by
  induction n generalizing k b r with
  | zero => rfl
  | succ n ih =>
    have hB := h b.toNatClampNeg
    unfold fl_size_14 fl_m_count_13
    have k1 : ¬ m 1 b.toNatClampNeg < 0 := Int32.not_lt.mpr hB.2.2.2.2.2.2.1
    have k2 : ¬ (31 : Int32) < m 1 b.toNatClampNeg := Int32.not_lt.mpr hB.2.2.2.2.2.2.2
    rw [if_neg k1, if_neg k2, hB.2.2.1, hB.2.2.2.1, ih, ih]
theorem r_size (h : Rel e c m) : f_size c = f_m_count 0 31 m := by
  unfold f_size f_m_count
  rw [(h.1 0).2.2.1]
  exact q_size h.1
theorem q_has {n k j : Nat} (h : RelB c m) (hj : j + n ≤ 1000) : (fl_m_count_13 v v n k b (nI j) m ≤ 0) ↔ (j = 0 ∧ fl_has_12 v n k b c = 0) := by
  induction n generalizing k b j with
  | zero =>
    unfold fl_m_count_13 fl_has_12
    rw [show (0 : Int32) = nI 0 from rfl, nI_leI (by omega) (by decide)]
    constructor
    · intro q; exact ⟨by omega, rfl⟩
    · intro q; omega
  | succ n ih =>
    have hB := h b.toNatClampNeg
    unfold fl_m_count_13 fl_has_12
    rw [hB.2.1, hB.2.2.1, hB.2.2.2.1]
    by_cases hb : b = 0
    · rw [if_pos hb, if_pos hb, show (0 : Int32) = nI 0 from rfl, nI_leI (by omega) (by decide)]
      constructor
      · intro q; exact ⟨by omega, rfl⟩
      · intro q; omega
    · rw [if_neg hb, if_neg hb]
      by_cases h3 : m 3 b.toNatClampNeg = 0
      · rw [if_pos h3, if_pos h3]
        by_cases h1 : m 1 b.toNatClampNeg = v
        · rw [if_pos h1, if_neg (show ¬ m 1 b.toNatClampNeg < v by rw [h1]; exact Int32.lt_irrefl), if_neg (show ¬ v < m 1 b.toNatClampNeg by rw [h1]; exact Int32.lt_irrefl), ← nI_succ, ih (by omega)]
          constructor
          · intro q; exact absurd q.1 (by omega)
          · intro q; exact absurd q.2 (by decide)
        · rw [if_neg h1]
          by_cases h5 : m 1 b.toNatClampNeg < v
          · rw [if_pos h5]; exact ih (by omega)
          · have h6 : v < m 1 b.toNatClampNeg := Int32.lt_of_le_of_ne (Int32.not_lt.mp h5) (fun z => h1 z.symm)
            rw [if_neg h5, if_pos h6]; exact ih (by omega)
      · rw [if_neg h3, if_neg h3]
        exact ih (by omega)
theorem has_bz {n k : Nat} : bz (fl_has_12 v n k b c) := by
  induction n generalizing k b with
  | zero => exact bz0
  | succ n ih =>
    unfold fl_has_12
    split
    · exact bz0
    · split
      · split
        · exact bz1
        · exact ih
      · exact ih
theorem r_has (h : Rel e c m) : f_has v c = (if f_m_count v v m ≤ 0 then 0 else 1) := by
  unfold f_has f_m_count
  rw [(h.1 0).2.2.1]
  have := q_has (v := v) (b := m 2 0) (n := 20) (k := 0) (j := 0) h.1 (by decide)
  rw [show nI 0 = 0 from rfl] at this
  rcases has_bz (v := v) (n := 20) (k := 0) (b := m 2 0) (c := c) with q | q
  · rw [if_pos (this.mpr ⟨rfl, q⟩), q]
  · rw [if_neg (fun z => by rw [(this.mp z).2] at q; exact absurd q (by decide)), q]
theorem r_block {k : Nat} (h : Rel e c m) (hk : k < 21) (h0 : ¬ v < 0) (h5 : ¬ 5 < v) : f_block k v c = (f_m_blockg k v m).1 ∧ (f_m_blockg k v m).2 = up2 m 20 0 0 := by
  have hB := h.1 k
  unfold f_block f_m_blockg f_tell
  rw [if_neg h0, if_neg h5, hB.1, hB.2.1, hB.2.2.1, hB.2.2.2.1, hB.2.2.2.2.1, hB.2.2.2.2.2.1]
  by_cases hk0 : nI k = 0
  · rw [if_pos hk0, if_pos hk0]
    by_cases h2 : v = 2
    · subst h2
      simp
    · simp [h2]
  · rw [if_neg hk0, if_neg hk0]
    by_cases h2 : v = 2
    · subst h2
      simp
    · simp only [h2, if_false]
      by_cases a0 : v = 0
      · subst a0; simp
      · simp only [a0, if_false]
        by_cases a1 : v = 1
        · subst a1; simp
        · simp only [a1, if_false]
          by_cases a3 : v = 3
          · subst a3; simp; split <;> simp_all
          · simp only [a3, if_false]
            by_cases a4 : v = 4
            · subst a4; simp
            · simp only [a4, if_false]
              split <;> simp_all
end ST5
theorem r_first (v : Int32) : Rel 0 (c0 (sch v)) (m0 (sch v)) := by
  have hs : sch v = 0 ∨ sch v = 1 ∨ sch v = 2 := by
    unfold sch
    by_cases h1 : v = 1
    · rw [if_pos h1]; exact Or.inr (Or.inl h1)
    · rw [if_neg h1]
      by_cases h2 : v = 2
      · rw [if_pos h2]; exact Or.inr (Or.inr h2)
      · rw [if_neg h2]; exact Or.inl rfl
  refine ⟨fun i => ?_, ?_, fun i h4 => ?_, fun i h4 => ?_⟩
  · simp [c0, m0, mI]
  · refine ⟨?_, ?_, ?_, ?_, ?_, 0, Nat.le_refl _, ?_⟩
    · simp [c0, m0, mI]
    · simp [c0, m0, mI]
    · simp [c0, m0, mI]
    · simp [c0, m0, mI]
    · simpa [m0, mI] using hs
    · simp [m0, mI]; rfl
  · simp [RelT, c0, m0, mI, slotC, bz, h4]
  · simp [RelS, c0, m0, mI, stepOk]
theorem i_first (s : Int32) : Inv (c0 s) := by
  intro f i hf
  have h1 : f = 2 ∨ f = 10 ∨ f = 12 ∨ f = 14 ∨ f = 16 := by simpa [ixC, or_assoc] using hf
  rcases h1 with rfl | rfl | rfl | rfl | rfl <;> exact vp0
theorem i_firstM (s : Int32) : InvM (m0 s) := by
  intro f i hf
  have h1 : f = 2 ∨ f = 9 ∨ f = 11 ∨ f = 13 ∨ f = 15 := by simpa [ixM, or_assoc] using hf
  rcases h1 with rfl | rfl | rfl | rfl | rfl <;> exact vp0

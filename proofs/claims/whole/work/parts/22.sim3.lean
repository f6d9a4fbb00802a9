-- ===== the steps, side by side, from naming on =====
theorem up2_comm (m : CS) {f g : Nat} (i j : Nat) (v w : Int32) (h : f ≠ g) : up2 (up2 m f i v) g j w = up2 (up2 m g j w) f i v := by
  funext a b
  unfold up2
  by_cases h1 : a = g ∧ b = j
  · have h2 : ¬ (a = f ∧ b = i) := fun q => h (q.1.symm.trans h1.1)
    rw [if_pos h1, if_neg h2, if_pos h1]
  · rw [if_neg h1]
    by_cases h2 : a = f ∧ b = i
    · rw [if_pos h2, if_pos h2]
    · rw [if_neg h2, if_neg h2, if_neg h1]
theorem in_neg1 {b : Int32} (h : vp_in b 21) : ¬ (-1 : Int32) = b := by
  obtain ⟨j, hj, rfl⟩ := vp_in_of h (by decide)
  intro q
  have := cm_ge0 hj (by decide)
  rw [← q] at this
  exact absurd this (by decide)
theorem slotC_eq {s b : Int32} (hb : vp_in b 21) (h0 : ¬ b = 0) : (slotC s = b) ↔ (s = b) := by
  unfold slotC
  by_cases hs : s = 0
  · rw [if_pos hs, hs]
    exact ⟨fun q => absurd q (in_neg1 hb), fun q => absurd q.symm h0⟩
  · rw [if_neg hs]
theorem slotC_ne {b : Int32} (h0 : ¬ b = 0) : b = slotC b := by
  unfold slotC
  rw [if_neg h0]
section ST3
variable {t u e : Nat} {c m : CS} {v b : Int32}
theorem s_name (h : Rel e c m) (ht : t < 4) (hM : InvM m) (h3 : m 6 t = 3) : Rel e (f_nameHere t c) (up2 (f_m_name t m).2 6 t (f_m_name t m).1) := by
  have hT := h.2.2.1 t ht
  have hS := h.2.2.2 t ht
  have hl := hS.2.2.1 (by rw [h3]; decide) (by rw [h3]; decide) (by rw [h3]; decide)
  have h0 : ¬ m 11 t = 0 := hS.2.2.2.2.1 (Or.inl h3)
  unfold f_nameHere f_m_name
  rw [hT.2.2.1, hT.2.2.2.1, hT.2.2.2.2.2.2.2.2.2.1]
  have hw := h.w t
  by_cases hb : m 9 t = 0
  · rw [if_pos hb, if_pos hb]
    exact RelW.of (w_c7 (w_m6 (w_s0 hw (slotC_ne h0)))) (by simp [RelS, stepOk, up2, hl])
  · rw [if_neg hb, if_neg hb]
    by_cases hq : m 19 (2 * t) = m 9 t
    · rw [if_pos ((slotC_eq (hM 9 t rfl) hb).mpr hq), if_pos hq]
      exact RelW.of (w_c7 (w_m6 (w_s1 hw (slotC_ne h0)))) (by simp [RelS, stepOk, up2, hl])
    · rw [if_neg (fun q => hq ((slotC_eq (hM 9 t rfl) hb).mp q)), if_neg hq]
      exact RelW.of (w_c7 (w_m6 (w_s0 hw (slotC_ne h0)))) (by simp [RelS, stepOk, up2, hl])
theorem s_check (h : Rel e c m) (ht : t < 4) (hM : InvM m) (h4 : m 6 t = 4) : Rel e (f_checkBack t c) (up2 (f_m_check t m).2 6 t (f_m_check t m).1) := by
  have hS := h.2.2.2 t ht
  have hl := hS.2.2.1 (by rw [h4]; decide) (by rw [h4]; decide) (by rw [h4]; decide)
  have hw := s_lookB (h.w t) ht hM hl.1
  have hT := hw.2.2.1 t ht
  have e1 : (f_lookAtBack t c) 11 t = (f_m_lookBack t m) 10 t := by rw [lookB_c (by decide)]; unfold f_m_lookBack; rw [look_m (by decide)]; exact hl.1
  have e2 : (f_lookAtBack t c) 13 t = (f_m_lookBack t m) 12 t := by rw [lookB_c (by decide)]; unfold f_m_lookBack; rw [look_m (by decide)]; exact hl.2
  unfold f_checkBack f_m_check
  rw [s_linked hw ht, hT.2.2.2.1]
  generalize f_lookAtBack t c = L at *
  generalize f_m_lookBack t m = M at *
  by_cases hk : f_m_linked t M = 0
  · rw [if_pos hk, if_pos hk]
    exact RelW.of (w_c7 (w_m6 hw)) (by simp [RelS, stepOk, up2])
  · rw [if_neg hk, if_neg hk]
    by_cases h0 : M 11 t = 0
    · rw [if_pos h0, if_pos h0, if_pos h0]
      exact RelW.of (w_c7 (w_m6 (w_found hw bz0))) (by simp [RelS, stepOk, up2, e1, e2])
    · rw [if_neg h0, if_neg h0, if_neg h0, if_neg h0]
      have hz : (if M 14 t = 0 then ((5 : Int32), up2 M 14 t 0) else (5, up2 M 14 t 1)) = (5, M) := by
        rcases hT.2.2.2.2.2.2.2.2.2.2.2.2.1 with q | q
        · rw [if_pos q, ← q, up2_same]
        · rw [if_neg (by rw [q]; decide), ← q, up2_same]
      rw [hz]
      exact RelW.of (w_c7 (w_m6 hw)) (by simp [RelS, stepOk, up2, e1, e2, h0])
theorem s_read (h : Rel e c m) (ht : t < 4) (hM : InvM m) (h5 : m 6 t = 5) : Rel e (f_readHere t c) (up2 (f_m_read t m).2 6 t (f_m_read t m).1) := by
  have hS := h.2.2.2 t ht
  have hl := hS.2.2.1 (by rw [h5]; decide) (by rw [h5]; decide) (by rw [h5]; decide)
  have h0 : ¬ m 11 t = 0 := hS.2.2.2.2.1 (Or.inr (Or.inl h5))
  have hw := s_lookH (h.w t) ht hM hl.2 h0
  have hT := hw.2.2.1 t ht
  have e1 : (f_lookAtHere t c) 11 t = (f_m_look (m 11 t) (m 12 t) m) 10 t := by rw [lookH_c (by decide), look_m (by decide)]; exact hl.1
  have e2 : (f_lookAtHere t c) 13 t = (f_m_look (m 11 t) (m 12 t) m) 12 t := by rw [lookH_c (by decide), look_m (by decide)]; exact hl.2
  have e3 : (f_m_look (m 11 t) (m 12 t) m) 11 t = m 11 t := look_m (by decide)
  unfold f_readHere f_m_read
  generalize f_lookAtHere t c = L at *
  generalize f_m_look (m 11 t) (m 12 t) m = M at *
  have hB := hw.1 (m 11 t).toNatClampNeg
  rw [hT.2.2.2.1, e3, hB.2.2.2.1, hB.2.1, hB.2.2.1, hT.2.1]
  by_cases hm : M 3 (m 11 t).toNatClampNeg = 0
  · rw [if_pos hm, if_pos hm]
    by_cases hq : M 1 (m 11 t).toNatClampNeg < M 8 t
    · rw [if_pos hq, if_pos hq]
      exact s_come (w_c11 (w_m10 (w_back (w_next hw)))) ht (by simp [up2, e2])
    · rw [if_neg hq, if_neg hq]
      by_cases he : M 1 (m 11 t).toNatClampNeg = M 8 t
      · rw [if_pos he, if_pos he]
        exact RelW.of (w_c7 (w_m6 (w_found (w_next hw) bz1))) (by simp [RelS, stepOk, up2, e1, e2, e3, h0])
      · rw [if_neg he, if_neg he]
        exact RelW.of (w_c7 (w_m6 (w_found (w_next hw) bz0))) (by simp [RelS, stepOk, up2, e1, e2])
  · rw [if_neg hm, if_neg hm]
    exact RelW.of (w_c7 (w_m6 (w_next hw))) (by simp [RelS, stepOk, up2, e1, e2, e3, h0])
-- who is named
theorem mNamed1 {n k : Nat} : fl_m_isNamed_4 b n k 1 m = 1 := by
  induction n generalizing k with
  | zero => rfl
  | succ n ih =>
    unfold fl_m_isNamed_4
    rw [if_neg (by decide)]
    exact ih
theorem mNamed0 {n k : Nat} : fl_m_isNamed_4 b (n + 1) k 0 m = if m 19 k = b then 1 else fl_m_isNamed_4 b n (k + 1) 0 m := by
  conv => lhs; unfold fl_m_isNamed_4
  rw [if_pos rfl, mNamed1]
theorem cNamed {n k : Nat} (h : ∀ i, i < 4 → RelT c m i) (hb : vp_in b 21) (h0 : ¬ b = 0) (hk : k + n = 4) : fl_isNamed_2 b n k c = fl_m_isNamed_4 b (2 * n) (2 * k) 0 m := by
  induction n generalizing k with
  | zero => rfl
  | succ n ih =>
    have hT := h k (by omega)
    rw [show 2 * (n + 1) = 2 * n + 1 + 1 by omega, mNamed0, mNamed0]
    unfold fl_isNamed_2
    rw [ih (by omega), show 2 * (k + 1) = 2 * k + 1 + 1 by omega, hT.2.2.2.2.2.2.2.2.2.1, hT.2.2.2.2.2.2.2.2.2.2.1]
    by_cases h1 : m 19 (2 * k) = b
    · rw [if_pos ((slotC_eq hb h0).mpr h1), if_pos h1]
    · rw [if_neg (fun q => h1 ((slotC_eq hb h0).mp q)), if_neg h1]
      by_cases h2 : m 19 (2 * k + 1) = b
      · rw [if_pos ((slotC_eq hb h0).mpr h2), if_pos h2]
      · rw [if_neg (fun q => h2 ((slotC_eq hb h0).mp q)), if_neg h2]
theorem s_named {k : Nat} (h : RelW u e c m) (hk : k < 21) (h1 : 1 ≤ k) : f_isNamed (nI k) c = f_m_isNamed (nI k) m :=
  cNamed h.2.2.1 (vp_in_nI hk (by decide)) (by rw [show (0 : Int32) = nI 0 from rfl, nI_eq (by omega) (by decide)]; omega) (by decide)
theorem s_retBy {k : Nat} (h : RelW u e c m) (ht : t < 4) : f_isRetiredBy t k c = (if m 0 k = 2 then (if m 5 k = nI t then 1 else 0) else 0) := by
  have hB := h.1 k
  unfold f_isRetiredBy
  rw [hB.1, hB.2.2.2.2.2.1, h.2.1.2.2.2.1 t ht]
  by_cases h2 : m 0 k = 2
  · rw [if_pos h2, if_pos h2, if_pos h2]
  · rw [if_neg h2, if_neg h2]
/-- the sweep: the same blocks, and as many -/
theorem s_sweep {n k : Nat} {r : Int32} (h : RelW u e c m) (ht : t < 4) (hk : k + n = 21) (h1 : 1 ≤ k) : RelW u e (fl_freeUnnamed_4 t n k r c).2 (fl_m_sweep_4 t n k r m).2 ∧ (fl_freeUnnamed_4 t n k r c).1 = (fl_m_sweep_4 t n k r m).1 := by
  induction n generalizing k r c m with
  | zero => exact ⟨h, rfl⟩
  | succ n ih =>
    unfold fl_freeUnnamed_4 fl_m_sweep_4
    rw [s_retBy h ht, s_named h (by omega) h1]
    by_cases h2 : m 0 k = 2
    · rw [if_pos h2, if_pos h2]
      by_cases h5 : m 5 k = nI t
      · rw [if_pos h5, if_neg (by decide), if_pos h5]
        by_cases h6 : f_m_isNamed (nI k) m = 0
        · rw [if_pos h6, if_pos h6]
          exact ih (w_free h) (by omega) (by omega)
        · rw [if_neg h6, if_neg h6]
          exact ih h (by omega) (by omega)
      · rw [if_neg h5, if_pos rfl, if_neg h5]
        exact ih h (by omega) (by omega)
    · rw [if_neg h2, if_pos rfl, if_neg h2]
      exact ih h (by omega) (by omega)
theorem sweep_c {n k f i : Nat} {r : Int32} (h0 : f ≠ 0) (h5 : f ≠ 5) : (fl_freeUnnamed_4 t n k r c).2 f i = c f i := by
  induction n generalizing k r c with
  | zero => rfl
  | succ n ih =>
    unfold fl_freeUnnamed_4
    split
    · exact ih
    · split
      · rw [ih]; unfold f_setFree; rw [up2_f _ _ _ _ h5, up2_f _ _ _ _ h0]
      · exact ih
theorem sweep_m {n k f i : Nat} {r : Int32} (h0 : f ≠ 0) : (fl_m_sweep_4 t n k r m).2 f i = m f i := by
  induction n generalizing k r m with
  | zero => rfl
  | succ n ih =>
    unfold fl_m_sweep_4
    split
    · split
      · split
        · rw [ih, up2_f _ _ _ _ h0]
        · exact ih
      · exact ih
    · exact ih
theorem s_count {n k : Nat} {r : Int32} (h : RelW u e c m) (ht : t < 4) : fl_m_retire_45 t b n k r m = (if m 20 1 = 1 then (if fl_countRetiredBy_4 t n k r c < 4 then m else (f_m_sweep t m).2) else m) := by
  induction n generalizing k r with
  | zero => rfl
  | succ n ih =>
    unfold fl_m_retire_45
    conv => rhs; unfold fl_countRetiredBy_4
    rw [s_retBy h ht]
    by_cases h2 : m 0 k = 2
    · rw [if_pos h2, if_pos h2]
      by_cases h5 : m 5 k = nI t
      · rw [if_pos h5, if_pos h5, if_neg (show ¬ (1 : Int32) = 0 by decide)]
        exact ih
      · rw [if_neg h5, if_neg h5, if_pos rfl]
        exact ih
    · rw [if_neg h2, if_neg h2, if_pos rfl]
      exact ih
theorem retire_m {n k f i : Nat} {r : Int32} (h0 : f ≠ 0) : (fl_m_retire_45 t b n k r m) f i = m f i := by
  induction n generalizing k r m with
  | zero =>
    unfold fl_m_retire_45
    split
    · split
      · rfl
      · exact sweep_m h0
    · rfl
  | succ n ih =>
    unfold fl_m_retire_45
    split
    · split
      · exact ih
      · exact ih
    · exact ih
theorem mret_f {f i : Nat} (h0 : f ≠ 0) (h5 : f ≠ 5) : (f_m_retire t b m) f i = m f i := by
  unfold f_m_retire
  split
  · split
    · rw [retire_m h0, up2_f _ _ _ _ h5, up2_f _ _ _ _ h0]
    · rw [retire_m h0, up2_f _ _ _ _ h5, up2_f _ _ _ _ h0]
  · split
    · rw [retire_m h0, up2_f _ _ _ _ h5, up2_f _ _ _ _ h0]
    · rw [retire_m h0, up2_f _ _ _ _ h5, up2_f _ _ _ _ h0]
theorem cret_f {f i : Nat} (h0 : f ≠ 0) (h5 : f ≠ 5) : (f_retireHere t c) f i = c f i := by
  have hr : ∀ k v, (f_retireWith k v c) f i = c f i := fun k v => by unfold f_retireWith; rw [up2_f _ _ _ _ h5, up2_f _ _ _ _ h0]
  unfold f_retireHere
  split
  · unfold f_setFree; rw [up2_f _ _ _ _ h5, up2_f _ _ _ _ h0]
  · split
    · exact hr ..
    · split
      · exact hr ..
      · unfold f_freeUnnamed; rw [sweep_c h0 h5]; exact hr ..
theorem s_retire (h : RelW u e c m) (ht : t < 4) : RelW u e (f_retireHere t c) (f_m_retire t (m 11 t) m) := by
  have hT := h.2.2.1 t ht
  have hX := h.2.1
  have x0 := hX.1
  have hf1 : ∀ (i : Nat) (v w : Int32), (up2 (up2 m 0 i v) 5 i w) 20 1 = m 20 1 := fun i v w => by rw [up2_f _ _ _ _ (by decide), up2_f _ _ _ _ (by decide)]
  unfold f_retireHere f_m_retire
  rw [x0, hT.2.2.2.1, hX.2.1, hX.2.2.2.1 t ht]
  generalize (m 11 t).toNatClampNeg = k
  rcases hX.2.2.2.2.1 with q | q | q
  · have q2 : ¬ m 20 1 = 2 := by rw [q]; decide
    rw [if_neg q2, if_pos q, if_neg q2, if_pos q]
    have hw := w_ret (k := k) (v := m 20 2) h
    rw [s_count hw ht, if_neg (by rw [hf1, q]; decide)]
    exact hw
  · have q2 : ¬ m 20 1 = 2 := by rw [q]; decide
    have q0 : ¬ m 20 1 = 0 := by rw [q]; decide
    rw [if_neg q2, if_neg q0, if_neg q2, if_neg q0]
    have hw := w_ret (k := k) (v := nI t) h
    rw [s_count hw ht, if_pos (show (up2 (up2 m 0 k 2) 5 k (nI t)) 20 1 = 1 by rw [hf1]; exact q)]
    unfold f_retireWith f_countRetiredBy
    by_cases h4 : fl_countRetiredBy_4 t 20 1 0 (up2 (up2 c 0 k 2) 5 k (nI t)) < 4
    · rw [if_pos h4, if_pos h4]
      exact hw
    · rw [if_neg h4, if_neg h4]
      exact (s_sweep hw ht (by decide) (by decide)).1
  · have q0 : ¬ m 20 1 = 0 := by rw [q]; decide
    rw [if_pos q, if_pos q, if_neg q0]
    have hw := w_free5 (k := k) (v := nI t) h
    rw [s_count hw ht, if_neg (by rw [hf1, q]; decide)]
    exact hw
end ST3

-- ===== the steps, side by side =====
theorem le0_iff {b : Int32} (h : vp_in b 21) : b ≤ 0 ↔ b = 0 := by
  obtain ⟨j, hj, rfl⟩ := vp_in_of h (by decide)
  rw [show (0 : Int32) = nI 0 from rfl, nI_leI (by omega) (by decide), nI_eq (by omega) (by decide)]
  omega
section ST
variable {t e : Nat} {c m : CS} {v b : Int32}
theorem countF_c {k f i : Nat} (hf : f ≠ 22) : f_countFault k v c f i = c f i := by
  unfold f_countFault
  split
  · exact up2_f _ _ _ _ hf
  · split
    · rfl
    · exact up2_f _ _ _ _ hf
theorem look_m {f i : Nat} (hf : f ≠ 20) : f_m_look b v m f i = m f i := by
  unfold f_m_look
  split
  · exact up2_f _ _ _ _ hf
  · split
    · exact up2_f _ _ _ _ hf
    · split
      · exact up2_f _ _ _ _ hf
      · exact up2_f _ _ _ _ hf
theorem lookB_c {f i : Nat} (hf : f ≠ 22) : f_lookAtBack t c f i = c f i := by
  unfold f_lookAtBack
  split
  · rfl
  · exact countF_c hf
theorem lookH_c {f i : Nat} (hf : f ≠ 22) : f_lookAtHere t c f i = c f i := countF_c hf
theorem s_look (h : RelW t e c m) (hb : vp_in b 21) : RelW t e (if b = 0 then c else f_countFault b.toNatClampNeg v c) (f_m_look b v m) := by
  have hB := h.1 b.toNatClampNeg
  have hX := h.2.1
  unfold f_m_look f_countFault
  by_cases h0 : b = 0
  · rw [if_pos h0, if_pos ((le0_iff hb).mpr h0), up2_same]
    exact h
  · rw [if_neg h0, if_neg (fun q => h0 ((le0_iff hb).mp q)), hB.1, hB.2.2.2.2.1, hX.2.2.1]
    split
    · exact w_fault h
    · split
      · rw [up2_same]; exact h
      · exact w_fault h
theorem s_lookB (h : RelW t e c m) (ht : t < 4) (hM : InvM m) (hl : c 11 t = m 10 t) : RelW t e (f_lookAtBack t c) (f_m_lookBack t m) := by
  have hT := h.2.2.1 t ht
  unfold f_lookAtBack f_m_lookBack
  rw [hT.2.2.1, hl]
  exact s_look h (hM 9 t rfl)
theorem s_lookH (h : RelW t e c m) (ht : t < 4) (hM : InvM m) (hl : c 13 t = m 12 t) (h0 : ¬ m 11 t = 0) : RelW t e (f_lookAtHere t c) (f_m_look (m 11 t) (m 12 t) m) := by
  have hT := h.2.2.1 t ht
  have := s_look (v := m 12 t) h (hM 11 t rfl)
  rw [if_neg h0] at this
  unfold f_lookAtHere
  rw [hT.2.2.2.1, hl]
  exact this
theorem s_leads {k : Nat} {b : Int32} (h : RelW t e c m) : f_leadsTo k b c = (if m 2 k = b then (if m 3 k = 0 then 1 else 0) else 0) := by
  have hB := h.1 k
  unfold f_leadsTo
  rw [hB.2.2.1, hB.2.2.2.1]
theorem s_linked (h : RelW t e c m) (ht : t < 4) : f_leadsTo ((c 10 t).toNatClampNeg) (c 12 t) c = f_m_linked t m := by
  have hT := h.2.2.1 t ht
  rw [s_leads h, hT.2.2.1, hT.2.2.2.1]
  rfl
theorem s_lead {k : Nat} {b : Int32} (h : RelW t e c m) : RelW t e (f_lead k b c) (up2 (up2 m 2 k b) 3 k 0) := w_mark (w_link h)
theorem s_come (h : RelW t e c m) (ht : t < 4) (hl : c 11 t = m 10 t) : Rel e (f_moveHereTo t b c) (up2 (f_m_come t b m).2 6 t (f_m_come t b m).1) := by
  have hB := h.1 b.toNatClampNeg
  have hX := h.2.1
  unfold f_moveHereTo f_m_come
  rw [hX.1, hB.2.2.2.2.1]
  by_cases h1 : m 20 1 = 1
  · rw [if_pos h1, if_pos h1]
    by_cases h2 : b = 0
    · rw [if_pos h2, if_pos h2]
      exact RelW.of (w_c7 (w_m6 (w_c13 (w_m12 (w_here h))))) (by simp [RelS, stepOk, up2, hl])
    · rw [if_neg h2, if_neg h2]
      exact RelW.of (w_c7 (w_m6 (w_c13 (w_m12 (w_here h))))) (by simp [RelS, stepOk, up2, hl, h2])
  · rw [if_neg h1, if_neg h1]
    exact RelW.of (w_c7 (w_m6 (w_c13 (w_m12 (w_here h))))) (by simp [RelS, stepOk, up2, hl])
theorem s_head (h : Rel e c m) (ht : t < 4) : Rel e (f_goToHead t c) (up2 (f_m_head t m).2 6 t (f_m_head t m).1) := by
  unfold f_goToHead f_m_head
  rw [(h.1 0).2.2.1]
  exact s_come (w_c11 (w_m10 (w_back (h.w t)))) ht (by simp [up2])
theorem s_start (h : Rel e c m) (he : e ≤ 600) (ht : t < 4) : Rel e (f_startWork t c) (if m 20 1 = 0 then (up2 (up2 m 18 t (m 20 2)) 6 t 2) else (up2 (up2 m 18 t (-1)) 6 t 2)) := by
  have hX := h.2.1
  have hT := h.2.2.1 t ht
  unfold f_startWork
  rw [hX.1, hX.2.1]
  obtain ⟨k, hk, hk2⟩ := hX.2.2.2.2.2
  by_cases h0 : m 20 1 = 0
  · rw [if_pos h0, if_pos h0]
    refine RelW.of (w_c7 (w_m6 (w_ann (h.w t) (Or.inr ⟨?_, h0⟩)))) (by simp [RelS, stepOk, up2])
    rw [hk2]
    exact nI_pos' (by omega)
  · rw [if_neg h0, if_neg h0]
    have e1 : m 18 t = -1 := by
      rcases hT.2.2.2.2.2.2.2.2.2.2.2.2.2.2.2 with q | q
      · exact q
      · exact absurd q.2 h0
    rw [← e1, up2_same]
    exact RelW.of (w_c7 (w_m6 (h.w t))) (by simp [RelS, stepOk, up2])
end ST

section ST4
variable {t u e : Nat} {c m : CS} {v b : Int32}
/-- taking out: both look, compare, link past and retire -/
theorem s_takeOut (h : RelW t e c m) (ht : t < 4) (hl : c 11 t = m 10 t) (hM : InvM m) : ((f_takeOutHere t c).1 = 0 ↔ f_m_linked t (f_m_lookBack t m) = 0) ∧ ((f_takeOutHere t c).1 = 0 → (f_takeOutHere t c).2 = f_lookAtBack t c) ∧ (¬ (f_takeOutHere t c).1 = 0 → RelW t e (f_takeOutHere t c).2 (f_m_retire t ((f_m_link ((f_m_lookBack t m) 9 t) ((f_m_lookBack t m) 13 t) (f_m_lookBack t m)) 11 t) (f_m_link ((f_m_lookBack t m) 9 t) ((f_m_lookBack t m) 13 t) (f_m_lookBack t m)))) := by
  have hw := s_lookB h ht hM hl
  have hT := hw.2.2.1 t ht
  unfold f_takeOutHere
  rw [s_linked hw ht, hT.2.2.1, hT.2.2.2.2.1]
  generalize f_lookAtBack t c = L at *
  generalize f_m_lookBack t m = M at *
  by_cases hk : f_m_linked t M = 0
  · rw [if_pos hk]
    exact ⟨⟨fun _ => hk, fun _ => rfl⟩, fun _ => rfl, fun q => absurd rfl q⟩
  · rw [if_neg hk]
    exact ⟨⟨fun q => absurd q (show ¬ (1 : Int32) = 0 by decide), fun q => absurd q hk⟩, fun q => absurd q (show ¬ (1 : Int32) = 0 by decide), fun _ => s_retire (s_lead hw) ht⟩
theorem takeOut_f {f i : Nat} (h0 : f ≠ 0) (h5 : f ≠ 5) (h2 : f ≠ 2) (h3 : f ≠ 3) (h22 : f ≠ 22) : (f_takeOutHere t c).2 f i = c f i := by
  unfold f_takeOutHere
  split
  · exact lookB_c h22
  · show (f_retireHere t _) f i = c f i
    rw [cret_f h0 h5]
    unfold f_lead
    rw [up2_f _ _ _ _ h3, up2_f _ _ _ _ h2]
    exact lookB_c h22
theorem mcut_f {b1 b2 b3 : Int32} {f i : Nat} (h0 : f ≠ 0) (h5 : f ≠ 5) (h2 : f ≠ 2) (h3 : f ≠ 3) : (f_m_retire t b1 (f_m_link b2 b3 m)) f i = m f i := by
  rw [mret_f h0 h5]
  unfold f_m_link
  rw [up2_f _ _ _ _ h3, up2_f _ _ _ _ h2]
theorem lookB_m {f i : Nat} (hf : f ≠ 20) : f_m_lookBack t m f i = m f i := by
  unfold f_m_lookBack
  exact look_m hf
theorem s_cut (h : Rel e c m) (ht : t < 4) (hM : InvM m) (h6 : m 6 t = 6) : Rel e (f_cutHere t c) (up2 (f_m_cut t m).2 6 t (f_m_cut t m).1) := by
  have hS := h.2.2.2 t ht
  have hl := hS.2.2.1 (by rw [h6]; decide) (by rw [h6]; decide) (by rw [h6]; decide)
  obtain ⟨a1, a2, a3⟩ := s_takeOut (h.w t) ht hl.1 hM
  have hw := s_lookB (h.w t) ht hM hl.1
  unfold f_cutHere f_m_cut
  by_cases hk : f_m_linked t (f_m_lookBack t m) = 0
  · rw [if_pos (a1.mpr hk), if_pos hk, a2 (a1.mpr hk)]
    exact RelW.of (w_c7 (w_m6 hw)) (by simp [RelS, stepOk, up2])
  · have hk' : ¬ (f_takeOutHere t c).1 = 0 := fun q => hk (a1.mp q)
    rw [if_neg hk', if_neg hk]
    have hr := a3 hk'
    have e1 : (f_takeOutHere t c).2 11 t = (f_m_retire t ((f_m_link ((f_m_lookBack t m) 9 t) ((f_m_lookBack t m) 13 t) (f_m_lookBack t m)) 11 t) (f_m_link ((f_m_lookBack t m) 9 t) ((f_m_lookBack t m) 13 t) (f_m_lookBack t m))) 10 t := by
      rw [takeOut_f (by decide) (by decide) (by decide) (by decide) (by decide), mcut_f (by decide) (by decide) (by decide) (by decide), lookB_m (by decide)]
      exact hl.1
    rw [(hr.2.2.1 t ht).2.2.2.2.1]
    exact s_come hr ht e1
theorem s_unhang (h : Rel e c m) (ht : t < 4) (hM : InvM m) (h10 : m 6 t = 10) : Rel e (f_unhangHere t c) (up2 (f_m_unhang t m).2 6 t (f_m_unhang t m).1) := by
  have hS := h.2.2.2 t ht
  have hl := hS.2.2.1 (by rw [h10]; decide) (by rw [h10]; decide) (by rw [h10]; decide)
  have hM' : InvM (up2 m 16 t 1) := hM.upo rfl
  have hL : up2 (f_m_lookBack t m) 16 t 1 = f_m_lookBack t (up2 m 16 t 1) := by
    unfold f_m_lookBack f_m_look
    rw [up2_f (f := 16) (a := 9) _ _ _ _ (by decide), up2_f (f := 16) (a := 10) _ _ _ _ (by decide), up2_f (f := 16) (a := 20) _ _ _ _ (by decide), up2_f (f := 16) (a := 0) _ _ _ _ (by decide), up2_f (f := 16) (a := 4) _ _ _ _ (by decide)]
    split
    · rw [up2_comm _ _ _ _ _ (by decide)]
    · split
      · rw [up2_comm _ _ _ _ _ (by decide)]
      · split
        · rw [up2_comm _ _ _ _ _ (by decide)]
        · rw [up2_comm _ _ _ _ _ (by decide)]
  have hl1 : c 11 t = (up2 m 16 t 1) 10 t := by rw [up2_f _ _ _ _ (by decide)]; exact hl.1
  obtain ⟨a1, a2, a3⟩ := s_takeOut (w_m16 (v := 1) (h.w t)) ht hl1 hM'
  have hw := s_lookB (w_m16 (v := 1) (h.w t)) ht hM' hl1
  have f11 : (f_takeOutHere t c).2 11 t = m 10 t := by rw [takeOut_f (by decide) (by decide) (by decide) (by decide) (by decide)]; exact hl.1
  have f13 : (f_takeOutHere t c).2 13 t = m 12 t := by rw [takeOut_f (by decide) (by decide) (by decide) (by decide) (by decide)]; exact hl.2
  have p9 : f_m_lookBack t m 9 t = f_m_lookBack t (up2 m 16 t 1) 9 t := by rw [lookB_m (by decide), lookB_m (by decide), up2_f _ _ _ _ (by decide)]
  have p13 : f_m_lookBack t m 13 t = f_m_lookBack t (up2 m 16 t 1) 13 t := by rw [lookB_m (by decide), lookB_m (by decide), up2_f _ _ _ _ (by decide)]
  unfold f_unhangHere f_m_unhang f_conclude
  rw [hL, p9, p13]
  by_cases hk : f_m_linked t (f_m_lookBack t (up2 m 16 t 1)) = 0
  · rw [if_pos hk]
    have hk1 := a1.mpr hk
    rw [a2 hk1] at f11 f13 ⊢
    have g10 : f_m_lookBack t (up2 m 16 t 1) 10 t = m 10 t := by rw [lookB_m (by decide), up2_f _ _ _ _ (by decide)]
    have g12 : f_m_lookBack t (up2 m 16 t 1) 12 t = m 12 t := by rw [lookB_m (by decide), up2_f _ _ _ _ (by decide)]
    have g16 : f_m_lookBack t (up2 m 16 t 1) 16 t = 1 := by rw [lookB_m (by decide), up2_eq]
    exact RelW.of (w_c7 (w_m6 (w_c17 hw))) (by simp [RelS, stepOk, up2_eq, up2_f, f11, f13, g10, g12, g16])
  · rw [if_neg hk]
    have hr := a3 (fun q => hk (a1.mp q))
    have gg : ∀ f i, f ≠ 0 → f ≠ 5 → f ≠ 2 → f ≠ 3 → f ≠ 20 → (f_m_retire t ((f_m_link ((f_m_lookBack t (up2 m 16 t 1)) 9 t) ((f_m_lookBack t (up2 m 16 t 1)) 13 t) (f_m_lookBack t (up2 m 16 t 1))) 11 t) (f_m_link ((f_m_lookBack t (up2 m 16 t 1)) 9 t) ((f_m_lookBack t (up2 m 16 t 1)) 13 t) (f_m_lookBack t (up2 m 16 t 1)))) f i = (up2 m 16 t 1) f i := fun f i q0 q5 q2 q3 q20 => by rw [mcut_f q0 q5 q2 q3, lookB_m q20]
    have g10 := gg 10 t (by decide) (by decide) (by decide) (by decide) (by decide)
    have g12 := gg 12 t (by decide) (by decide) (by decide) (by decide) (by decide)
    have g16 := gg 16 t (by decide) (by decide) (by decide) (by decide) (by decide)
    rw [up2_f _ _ _ _ (by decide)] at g10 g12
    rw [up2_eq] at g16
    clear gg
    generalize f_m_retire t ((f_m_link ((f_m_lookBack t (up2 m 16 t 1)) 9 t) ((f_m_lookBack t (up2 m 16 t 1)) 13 t) (f_m_lookBack t (up2 m 16 t 1))) 11 t) (f_m_link ((f_m_lookBack t (up2 m 16 t 1)) 9 t) ((f_m_lookBack t (up2 m 16 t 1)) 13 t) (f_m_lookBack t (up2 m 16 t 1))) = R at hr g10 g12 g16 ⊢
    generalize (f_takeOutHere t c).2 = C at hr f11 f13 ⊢
    exact RelW.of (w_c7 (w_m6 (w_c17 hr))) (by simp [RelS, stepOk, up2_eq, up2_f, f11, f13, g10, g12, g16])
theorem s_hang (h : Rel e c m) (ht : t < 4) (hM : InvM m) (h8 : m 6 t = 8) : Rel e (f_hangNewBlock t c) (up2 (f_m_hang t m).2 6 t (f_m_hang t m).1) := by
  have hS := h.2.2.2 t ht
  have hl := hS.2.2.1 (by rw [h8]; decide) (by rw [h8]; decide) (by rw [h8]; decide)
  have hw := s_lookB (h.w t) ht hM hl.1
  have hT := hw.2.2.1 t ht
  have e1 : (f_lookAtBack t c) 11 t = (f_m_lookBack t m) 10 t := by rw [lookB_c (by decide), lookB_m (by decide)]; exact hl.1
  have e2 : (f_lookAtBack t c) 13 t = (f_m_lookBack t m) 12 t := by rw [lookB_c (by decide), lookB_m (by decide)]; exact hl.2
  unfold f_hangNewBlock f_m_hang f_conclude
  rw [s_linked hw ht, hT.2.2.1, hT.2.2.2.2.2.2.1]
  generalize f_lookAtBack t c = L at *
  generalize f_m_lookBack t m = M at *
  by_cases hk : f_m_linked t M = 0
  · rw [if_pos hk, if_pos hk]
    exact RelW.of (w_c7 (w_m6 hw)) (by simp [RelS, stepOk, up2])
  · rw [if_neg hk, if_neg hk]
    refine RelW.of (w_c7 (w_m6 (w_c17 (w_m16 (s_lead hw))))) ?_
    unfold f_lead f_m_link
    simp [RelS, stepOk, up2_eq, up2_f, e1, e2]
theorem s_end (h : Rel e c m) (ht : t < 4) (h9 : m 6 t = 9) : Rel e (f_endWork t c) (up2 (f_m_end t m).2 6 t (f_m_end t m).1) := by
  have hS := h.2.2.2 t ht
  obtain ⟨e1, e2⟩ := hS.2.2.2.1 h9
  unfold f_endWork f_m_end
  rw [e1, up2_comm (f := 20) (g := 18) _ _ _ _ _ (by decide), up2_comm (f := 19) (g := 18) _ _ _ _ _ (by decide), up2_comm (f := 21) (g := 18) _ _ _ _ _ (by decide)]
  exact RelW.of (w_c7 (w_m6 (w_s1 (w_s0 (w_ann (w_ended (h.w t) (Or.inr e2)) (Or.inl rfl)) rfl) rfl))) (by simp [RelS, stepOk, up2])
theorem ins1 {n k : Nat} (h : ¬ m 15 t = 0) : fl_m_insert_49 t n k m = (8, f_m_link (m 15 t) (m 11 t) (up2 m 1 ((m 15 t).toNatClampNeg) (m 8 t))) := by
  cases n with
  | zero => unfold fl_m_insert_49; rw [if_neg h]
  | succ n => unfold fl_m_insert_49; rw [if_neg h, if_neg h]
/-- the search for a free block -/
theorem s_free {n k : Nat} (h : RelW u e c m) (h0 : m 15 t = 0) (hk : k + n = 21) (h1 : 1 ≤ k) : ((fl_takeFreeBlock_2 n k c).1 = 0 ∧ (fl_takeFreeBlock_2 n k c).2 = c ∧ fl_m_insert_49 t n k m = (9, up2 m 16 t 2)) ∨ ∃ j, j < 21 ∧ 1 ≤ j ∧ m 0 j = 0 ∧ fl_takeFreeBlock_2 n k c = (nI j, up2 (up2 c 0 j 1) 4 j (c 4 j + 1)) ∧ fl_m_insert_49 t n k m = (8, f_m_link (nI j) (m 11 t) (up2 (up2 (up2 (up2 m 15 t (nI j)) 0 j 1) 4 j (m 4 j + 1)) 1 j (m 8 t))) := by
  induction n generalizing k with
  | zero => exact Or.inl ⟨rfl, rfl, by unfold fl_m_insert_49; rw [if_pos h0]⟩
  | succ n ih =>
    unfold fl_takeFreeBlock_2 fl_m_insert_49
    rw [(h.1 k).1, if_pos h0]
    by_cases hf : m 0 k = 0
    · refine Or.inr ⟨k, by omega, h1, hf, ?_, ?_⟩
      · rw [if_pos hf]
      · have hz : ¬ nI k = 0 := by rw [show (0 : Int32) = nI 0 from rfl, nI_eq (by omega) (by decide)]; omega
        have e15 : (up2 (up2 (up2 m 15 t (nI k)) 0 k 1) 4 k (m 4 k + 1)) 15 t = nI k := by rw [up2_f _ _ _ _ (by decide), up2_f _ _ _ _ (by decide), up2_eq]
        rw [if_pos hf, ins1 (by rw [e15]; exact hz), e15, nI_clamp (by omega)]
        simp [up2_f]
    · rw [if_neg hf, if_neg hf]
      exact ih (by omega) (by omega)
theorem s_act (h : Rel e c m) (ht : t < 4) (hM : InvM m) (h7 : m 6 t = 7) : Rel e (f_doOperation t c) (up2 (f_m_act t m).2 6 t (f_m_act t m).1) := by
  have hS := h.2.2.2 t ht
  have hl := hS.2.2.1 (by rw [h7]; decide) (by rw [h7]; decide) (by rw [h7]; decide)
  have hh := hS.2.2.2.2.2 h7
  have hT := h.2.2.1 t ht
  have hw := h.w t
  have con : ∀ {C M : CS} {r : Int32}, RelW t e C M → C 11 t = M 10 t → C 13 t = M 12 t → 0 ≤ r → Rel e (f_conclude t r C) (up2 (up2 M 16 t r) 6 t 9) := by
    intro C M r hr g1 g2 hr0
    unfold f_conclude
    exact RelW.of (w_c7 (w_m6 (w_c17 (w_m16 hr)))) (by simp [RelS, stepOk, up2, g1, g2, hr0])
  unfold f_doOperation f_m_act
  rw [hT.1]
  rcases hT.2.2.2.2.2.2.2.2.2.2.2.1 with q | q | q
  · rw [if_neg (show ¬ m 7 t = 1 by rw [q]; decide), if_neg (show ¬ m 7 t = 2 by rw [q]; decide), if_pos q, hT.2.2.2.2.2.1]
    by_cases hf : m 14 t = 0
    · rw [if_pos hf, if_pos hf]
      exact con hw hl.1 hl.2 (by decide)
    · rw [if_neg hf, if_neg hf]
      exact con hw hl.1 hl.2 (by decide)
  · rw [if_pos q, if_neg (show ¬ m 7 t = 0 by rw [q]; decide), if_pos q]
    unfold f_prepareInsert f_m_insert
    rw [hT.2.2.2.2.2.1, hT.2.2.2.2.2.2.1]
    by_cases hf : m 14 t = 0
    · rw [if_pos hf, if_pos hf]
      by_cases hn : m 15 t = 0
      · rw [if_pos hn]
        rcases s_free hw hn (n := 20) (k := 1) (by decide) (by decide) with ⟨a1, a2, a3⟩ | ⟨j, hj, hj1, a1, a2, a3⟩
        · unfold f_takeFreeBlock
          rw [if_pos a1, a1, a2, a3]
          have e16 : up2 c 16 t 0 = c := by
            have := up2_same c 16 t
            rw [hT.2.2.2.2.2.2.1, hn] at this
            exact this
          rw [e16]
          exact con hw hl.1 hl.2 (by decide)
        · unfold f_takeFreeBlock
          rw [a2, a3]
          have hz : ¬ nI j = 0 := by rw [show (0 : Int32) = nI 0 from rfl, nI_eq (by omega) (by decide)]; omega
          show Rel e (if nI j = 0 then _ else _) _
          rw [if_neg hz]
          show Rel e (up2 (f_lead (nI j).toNatClampNeg (up2 (up2 c 0 j 1) 4 j (c 4 j + 1) 12 t) (up2 (up2 (up2 (up2 c 0 j 1) 4 j (c 4 j + 1)) 16 t (nI j)) 1 (nI j).toNatClampNeg (up2 (up2 c 0 j 1) 4 j (c 4 j + 1) 9 t))) 7 t 8) (up2 (f_m_link (nI j) (m 11 t) (up2 (up2 (up2 (up2 m 15 t (nI j)) 0 j 1) 4 j (m 4 j + 1)) 1 j (m 8 t))) 6 t 8)
          rw [nI_clamp (by omega), up2_comm (f := 4) (g := 16) _ _ _ _ _ (by decide), up2_comm (f := 0) (g := 16) _ _ _ _ _ (by decide)]
          have g12 : up2 (up2 c 0 j 1) 4 j (c 4 j + 1) 12 t = m 11 t := by rw [up2_f _ _ _ _ (by decide), up2_f _ _ _ _ (by decide)]; exact hT.2.2.2.1
          have g9 : up2 (up2 c 0 j 1) 4 j (c 4 j + 1) 9 t = m 8 t := by rw [up2_f _ _ _ _ (by decide), up2_f _ _ _ _ (by decide)]; exact hT.2.1
          rw [g12, g9, (hw.1 j).2.2.2.2.1]
          unfold f_m_link
          rw [nI_clamp (by omega)]
          refine RelW.of (w_c7 (w_m6 (s_lead (w_key (w_life (w_take (w_new hw) (by rw [up2_f _ _ _ _ (by decide)]; exact a1))) hT.2.2.2.2.2.2.2.2.2.2.2.2.2.1)))) ?_
          unfold f_lead
          simp [RelS, stepOk, up2_eq, up2_f, hl]
      · rw [if_neg hn, if_neg hn, ins1 hn, hT.2.2.2.1, hT.2.1]
        refine RelW.of (w_c7 (w_m6 (s_lead (w_key hw hT.2.2.2.2.2.2.2.2.2.2.2.2.2.1)))) ?_
        unfold f_lead f_m_link
        simp [RelS, stepOk, up2_eq, up2_f, hl]
    · rw [if_neg hf, if_neg hf]
      unfold f_giveNewBlockBack
      rw [hT.2.2.2.2.2.2.1]
      by_cases hn : m 15 t = 0
      · rw [if_pos hn, if_pos ((le0_iff (hM 15 t rfl)).mpr hn)]
        exact con hw hl.1 hl.2 (by decide)
      · rw [if_neg hn, if_neg (fun z => hn ((le0_iff (hM 15 t rfl)).mp z))]
        refine con (w_new (w_free hw)) ?_ ?_ (by decide)
        · unfold f_setFree; simp [up2_f, hl]
        · unfold f_setFree; simp [up2_f, hl]
  · rw [if_neg (show ¬ m 7 t = 1 by rw [q]; decide), if_pos q, if_neg (show ¬ m 7 t = 0 by rw [q]; decide), if_neg (show ¬ m 7 t = 1 by rw [q]; decide)]
    unfold f_markForRemoval f_m_remove
    rw [hT.2.2.2.2.2.1]
    by_cases hf : m 14 t = 0
    · rw [if_pos hf, if_pos hf]
      exact con hw hl.1 hl.2 (by decide)
    · rw [if_neg hf, if_neg hf]
      have h0 := hh hf
      have hL := s_lookH hw ht hM hl.2 h0
      have e1 : (f_lookAtHere t c) 11 t = (f_m_look (m 11 t) (m 12 t) m) 10 t := by rw [lookH_c (by decide), look_m (by decide)]; exact hl.1
      have e2 : (f_lookAtHere t c) 13 t = (f_m_look (m 11 t) (m 12 t) m) 12 t := by rw [lookH_c (by decide), look_m (by decide)]; exact hl.2
      have e3 : (f_m_look (m 11 t) (m 12 t) m) 11 t = m 11 t := look_m (by decide)
      have e4 : (f_lookAtHere t c) 12 t = m 11 t := by rw [lookH_c (by decide)]; exact hT.2.2.2.1
      generalize f_lookAtHere t c = L at *
      generalize f_m_look (m 11 t) (m 12 t) m = M at *
      have hTL := hL.2.2.1 t ht
      rw [s_leads hL, e4, hTL.2.2.2.2.1]
      by_cases k1 : M 2 (m 11 t).toNatClampNeg = M 13 t
      · rw [if_pos k1, if_pos k1]
        by_cases k2 : M 3 (m 11 t).toNatClampNeg = 0
        · rw [if_pos k2, if_pos k2, if_neg (show ¬ (1 : Int32) = 0 by decide)]
          exact RelW.of (w_c7 (w_m6 (w_mark hL))) (by simp [RelS, stepOk, up2_eq, up2_f, e1, e2, e3, h0])
        · rw [if_neg k2, if_neg k2, if_pos rfl]
          exact RelW.of (w_c7 (w_m6 hL)) (by simp [RelS, stepOk, up2])
      · rw [if_neg k1, if_neg k1, if_pos rfl]
        exact RelW.of (w_c7 (w_m6 hL)) (by simp [RelS, stepOk, up2])
/-- one step of both -/
theorem s_perform (h : Rel e c m) (he : e ≤ 600) (ht : t < 4) (hM : InvM m) (hb : ¬ m 6 t = 0) : Rel e (f_perform t c) (f_m_advanceThread t m) := by
  have hS := h.2.2.2 t ht
  unfold f_perform f_m_advanceThread
  rw [hS.1]
  rcases hS.2.1 with q | q | q | q | q | q | q | q | q | q | q
  · exact absurd q hb
  · rw [if_pos q, if_pos q]; exact s_start h he ht
  · rw [if_neg (by rw [q]; decide), if_pos q, if_neg (by rw [q]; decide), if_pos q]; exact s_head h ht
  · simp only [q]; exact s_name h ht hM q
  · simp only [q]; exact s_check h ht hM q
  · simp only [q]; exact s_read h ht hM q
  · simp only [q]; exact s_cut h ht hM q
  · simp only [q]; exact s_act h ht hM q
  · simp only [q]; exact s_hang h ht hM q
  · simp only [q]; exact s_end h ht q
  · simp only [q]; exact s_unhang h ht hM q
theorem s_finish {n k : Nat} (h : Rel e c m) (he : e ≤ 600) (ht : t < 4) (hM : InvM m) : Rel e (fl_finish_8 t n k c).2 (fl_m_finishg_40 t n k m).2 ∧ (fl_finish_8 t n k c).1 = (fl_m_finishg_40 t n k m).1 := by
  induction n generalizing k c m with
  | zero =>
    unfold fl_finish_8 fl_m_finishg_40
    split
    · exact ⟨h, rfl⟩
    · exact ⟨h, rfl⟩
  | succ n ih =>
    unfold fl_finish_8 fl_m_finishg_40
    rw [(h.2.2.2 t ht).1]
    by_cases h0 : m 6 t = 0
    · rw [if_pos h0, if_pos h0]; exact ⟨h, rfl⟩
    · rw [if_neg h0, if_neg h0]
      exact ih (s_perform h he ht hM h0) (i_m_advanceThread t ht m hM)
end ST4

-- ===== the class's numbers beside the reference's =====
def slotC (s : Int32) : Int32 := if s = 0 then -1 else s
def RelB (c m : CS) : Prop := ∀ i, c 0 i = m 0 i ∧ c 1 i = m 1 i ∧ c 2 i = m 2 i ∧ c 3 i = m 3 i ∧ c 4 i = m 4 i ∧ c 5 i = (if m 0 i = 2 then m 5 i else -1) ∧ (0 ≤ m 1 i ∧ m 1 i ≤ 31)
def RelX (e : Nat) (c m : CS) : Prop := c 22 0 = m 20 1 ∧ c 22 1 = m 20 2 ∧ c 22 2 = m 20 3 ∧ (∀ i, i < 4 → c 6 i = nI i) ∧ (m 20 1 = 0 ∨ m 20 1 = 1 ∨ m 20 1 = 2) ∧ ∃ k, k ≤ e ∧ m 20 2 = nI k
def RelT (c m : CS) (i : Nat) : Prop := c 8 i = m 7 i ∧ c 9 i = m 8 i ∧ c 10 i = m 9 i ∧ c 12 i = m 11 i ∧ c 14 i = m 13 i ∧ c 15 i = m 14 i ∧ c 16 i = m 15 i ∧ c 18 i = m 17 i ∧ c 21 i = m 18 i ∧ c 19 i = slotC (m 19 (2 * i)) ∧ c 20 i = slotC (m 19 (2 * i + 1)) ∧
  (m 7 i = 0 ∨ m 7 i = 1 ∨ m 7 i = 2) ∧ bz (m 14 i) ∧ (0 ≤ m 8 i ∧ m 8 i ≤ 31) ∧ (m 17 i = -1 ∨ 0 ≤ m 17 i) ∧ (m 18 i = -1 ∨ (0 ≤ m 18 i ∧ m 20 1 = 0))
def stepOk (v : Int32) : Prop := v = 0 ∨ v = 1 ∨ v = 2 ∨ v = 3 ∨ v = 4 ∨ v = 5 ∨ v = 6 ∨ v = 7 ∨ v = 8 ∨ v = 9 ∨ v = 10
def RelS (c m : CS) (i : Nat) : Prop := c 7 i = m 6 i ∧ stepOk (m 6 i) ∧ (¬ m 6 i = 0 → ¬ m 6 i = 1 → ¬ m 6 i = 2 → c 11 i = m 10 i ∧ c 13 i = m 12 i) ∧ (m 6 i = 9 → c 17 i = m 16 i ∧ 0 ≤ m 16 i) ∧ ((m 6 i = 3 ∨ m 6 i = 5 ∨ m 6 i = 6 ∨ m 6 i = 10) → ¬ m 11 i = 0) ∧ (m 6 i = 7 → ¬ m 14 i = 0 → ¬ m 11 i = 0)
def RelW (t e : Nat) (c m : CS) : Prop := RelB c m ∧ RelX e c m ∧ (∀ i, i < 4 → RelT c m i) ∧ ∀ i, i < 4 → i ≠ t → RelS c m i
def Rel (e : Nat) (c m : CS) : Prop := RelB c m ∧ RelX e c m ∧ (∀ i, i < 4 → RelT c m i) ∧ ∀ i, i < 4 → RelS c m i
theorem Rel.w {e : Nat} {c m : CS} (h : Rel e c m) (t : Nat) : RelW t e c m := ⟨h.1, h.2.1, h.2.2.1, fun i hi _ => h.2.2.2 i hi⟩
theorem RelW.of {t e : Nat} {c m : CS} (h : RelW t e c m) (hs : RelS c m t) : Rel e c m := ⟨h.1, h.2.1, h.2.2.1, fun i h4 => by
  by_cases hi : i = t
  · rw [hi]; exact hs
  · exact h.2.2.2 i h4 hi⟩
theorem up2_same (m : CS) (f i : Nat) : up2 m f i (m f i) = m := by
  funext a b
  unfold up2
  split
  · rename_i h; rw [h.1, h.2]
  · rfl
section SIM
variable {t e k : Nat} {c m : CS} {v w : Int32}
theorem w_c7 (h : RelW t e c m) : RelW t e (up2 c 7 t v) (m) := by
  obtain ⟨hB, hX, hT, hS⟩ := h
  refine ⟨fun i => ?_, ?_, fun i h4 => ?_, fun i h4 hi => ?_⟩
  · simpa [RelB, up2] using hB i
  · simpa [RelX, up2] using hX
  · simpa [RelT, up2] using hT i h4
  · simpa [RelS, up2, hi] using hS i h4 hi
theorem w_c11 (h : RelW t e c m) : RelW t e (up2 c 11 t v) (m) := by
  obtain ⟨hB, hX, hT, hS⟩ := h
  refine ⟨fun i => ?_, ?_, fun i h4 => ?_, fun i h4 hi => ?_⟩
  · simpa [RelB, up2] using hB i
  · simpa [RelX, up2] using hX
  · simpa [RelT, up2] using hT i h4
  · simpa [RelS, up2, hi] using hS i h4 hi
theorem w_c13 (h : RelW t e c m) : RelW t e (up2 c 13 t v) (m) := by
  obtain ⟨hB, hX, hT, hS⟩ := h
  refine ⟨fun i => ?_, ?_, fun i h4 => ?_, fun i h4 hi => ?_⟩
  · simpa [RelB, up2] using hB i
  · simpa [RelX, up2] using hX
  · simpa [RelT, up2] using hT i h4
  · simpa [RelS, up2, hi] using hS i h4 hi
theorem w_c17 (h : RelW t e c m) : RelW t e (up2 c 17 t v) (m) := by
  obtain ⟨hB, hX, hT, hS⟩ := h
  refine ⟨fun i => ?_, ?_, fun i h4 => ?_, fun i h4 hi => ?_⟩
  · simpa [RelB, up2] using hB i
  · simpa [RelX, up2] using hX
  · simpa [RelT, up2] using hT i h4
  · simpa [RelS, up2, hi] using hS i h4 hi
theorem w_m6 (h : RelW t e c m) : RelW t e (c) (up2 m 6 t v) := by
  obtain ⟨hB, hX, hT, hS⟩ := h
  refine ⟨fun i => ?_, ?_, fun i h4 => ?_, fun i h4 hi => ?_⟩
  · simpa [RelB, up2] using hB i
  · simpa [RelX, up2] using hX
  · simpa [RelT, up2] using hT i h4
  · simpa [RelS, up2, hi] using hS i h4 hi
theorem w_m10 (h : RelW t e c m) : RelW t e (c) (up2 m 10 t v) := by
  obtain ⟨hB, hX, hT, hS⟩ := h
  refine ⟨fun i => ?_, ?_, fun i h4 => ?_, fun i h4 hi => ?_⟩
  · simpa [RelB, up2] using hB i
  · simpa [RelX, up2] using hX
  · simpa [RelT, up2] using hT i h4
  · simpa [RelS, up2, hi] using hS i h4 hi
theorem w_m12 (h : RelW t e c m) : RelW t e (c) (up2 m 12 t v) := by
  obtain ⟨hB, hX, hT, hS⟩ := h
  refine ⟨fun i => ?_, ?_, fun i h4 => ?_, fun i h4 hi => ?_⟩
  · simpa [RelB, up2] using hB i
  · simpa [RelX, up2] using hX
  · simpa [RelT, up2] using hT i h4
  · simpa [RelS, up2, hi] using hS i h4 hi
theorem w_m16 (h : RelW t e c m) : RelW t e (c) (up2 m 16 t v) := by
  obtain ⟨hB, hX, hT, hS⟩ := h
  refine ⟨fun i => ?_, ?_, fun i h4 => ?_, fun i h4 hi => ?_⟩
  · simpa [RelB, up2] using hB i
  · simpa [RelX, up2] using hX
  · simpa [RelT, up2] using hT i h4
  · simpa [RelS, up2, hi] using hS i h4 hi
theorem w_thr (h : RelW t e c m) : RelW t e (c) (up2 m 20 0 v) := by
  obtain ⟨hB, hX, hT, hS⟩ := h
  refine ⟨fun i => ?_, ?_, fun i h4 => ?_, fun i h4 hi => ?_⟩
  · simpa [RelB, up2] using hB i
  · simpa [RelX, up2] using hX
  · simpa [RelT, up2] using hT i h4
  · simpa [RelS, up2, hi] using hS i h4 hi
theorem w_link (h : RelW t e c m) : RelW t e (up2 c 2 k v) (up2 m 2 k v) := by
  obtain ⟨hB, hX, hT, hS⟩ := h
  refine ⟨fun i => ?_, ?_, fun i h4 => ?_, fun i h4 hi => ?_⟩
  · have h1 := hB i
    by_cases hk : i = k
    · subst hk; simp_all [up2]
    · simpa [up2, hk] using h1
  · simpa [RelX, up2] using hX
  · simpa [RelT, up2] using hT i h4
  · simpa [RelS, up2, hi] using hS i h4 hi
theorem w_mark (h : RelW t e c m) : RelW t e (up2 c 3 k v) (up2 m 3 k v) := by
  obtain ⟨hB, hX, hT, hS⟩ := h
  refine ⟨fun i => ?_, ?_, fun i h4 => ?_, fun i h4 hi => ?_⟩
  · have h1 := hB i
    by_cases hk : i = k
    · subst hk; simp_all [up2]
    · simpa [up2, hk] using h1
  · simpa [RelX, up2] using hX
  · simpa [RelT, up2] using hT i h4
  · simpa [RelS, up2, hi] using hS i h4 hi
theorem w_life (h : RelW t e c m) : RelW t e (up2 c 4 k v) (up2 m 4 k v) := by
  obtain ⟨hB, hX, hT, hS⟩ := h
  refine ⟨fun i => ?_, ?_, fun i h4 => ?_, fun i h4 hi => ?_⟩
  · have h1 := hB i
    by_cases hk : i = k
    · subst hk; simp_all [up2]
    · simpa [up2, hk] using h1
  · simpa [RelX, up2] using hX
  · simpa [RelT, up2] using hT i h4
  · simpa [RelS, up2, hi] using hS i h4 hi
theorem w_key (h : RelW t e c m) (hv : 0 ≤ v ∧ v ≤ 31) : RelW t e (up2 c 1 k v) (up2 m 1 k v) := by
  obtain ⟨hB, hX, hT, hS⟩ := h
  refine ⟨fun i => ?_, ?_, fun i h4 => ?_, fun i h4 hi => ?_⟩
  · have h1 := hB i
    by_cases hk : i = k
    · subst hk; simp_all [up2]
    · simpa [up2, hk] using h1
  · simpa [RelX, up2] using hX
  · simpa [RelT, up2] using hT i h4
  · simpa [RelS, up2, hi] using hS i h4 hi
theorem w_free (h : RelW t e c m) : RelW t e (up2 (up2 c 0 k 0) 5 k (-1)) (up2 m 0 k 0) := by
  obtain ⟨hB, hX, hT, hS⟩ := h
  refine ⟨fun i => ?_, ?_, fun i h4 => ?_, fun i h4 hi => ?_⟩
  · have h1 := hB i
    by_cases hk : i = k
    · subst hk; simp_all [up2]
    · simpa [up2, hk] using h1
  · simpa [RelX, up2] using hX
  · simpa [RelT, up2] using hT i h4
  · simpa [RelS, up2, hi] using hS i h4 hi
theorem w_free5 (h : RelW t e c m) : RelW t e (up2 (up2 c 0 k 0) 5 k (-1)) (up2 (up2 m 0 k 0) 5 k v) := by
  obtain ⟨hB, hX, hT, hS⟩ := h
  refine ⟨fun i => ?_, ?_, fun i h4 => ?_, fun i h4 hi => ?_⟩
  · have h1 := hB i
    by_cases hk : i = k
    · subst hk; simp_all [up2]
    · simpa [up2, hk] using h1
  · simpa [RelX, up2] using hX
  · simpa [RelT, up2] using hT i h4
  · simpa [RelS, up2, hi] using hS i h4 hi
theorem w_ret (h : RelW t e c m) : RelW t e (up2 (up2 c 0 k 2) 5 k v) (up2 (up2 m 0 k 2) 5 k v) := by
  obtain ⟨hB, hX, hT, hS⟩ := h
  refine ⟨fun i => ?_, ?_, fun i h4 => ?_, fun i h4 hi => ?_⟩
  · have h1 := hB i
    by_cases hk : i = k
    · subst hk; simp_all [up2]
    · simpa [up2, hk] using h1
  · simpa [RelX, up2] using hX
  · simpa [RelT, up2] using hT i h4
  · simpa [RelS, up2, hi] using hS i h4 hi
theorem w_take (h : RelW t e c m) (hv : m 0 k = 0) : RelW t e (up2 c 0 k 1) (up2 m 0 k 1) := by
  obtain ⟨hB, hX, hT, hS⟩ := h
  refine ⟨fun i => ?_, ?_, fun i h4 => ?_, fun i h4 hi => ?_⟩
  · have h1 := hB i
    by_cases hk : i = k
    · subst hk; simp_all [up2]
    · simpa [up2, hk] using h1
  · simpa [RelX, up2] using hX
  · simpa [RelT, up2] using hT i h4
  · simpa [RelS, up2, hi] using hS i h4 hi
theorem w_op (h : RelW t e c m) (hv : v = 0 ∨ v = 1 ∨ v = 2) : RelW t e (up2 c 8 t v) (up2 m 7 t v) := by
  obtain ⟨hB, hX, hT, hS⟩ := h
  refine ⟨fun i => ?_, ?_, fun i h4 => ?_, fun i h4 hi => ?_⟩
  · simpa [RelB, up2] using hB i
  · simpa [RelX, up2] using hX
  · have h1 := hT i h4
    unfold RelT at h1 ⊢
    by_cases hk : i = t
    · subst hk; simp_all [up2]
    · simpa [up2, hk] using h1
  · simpa [RelS, up2, hi] using hS i h4 hi
theorem w_wan (h : RelW t e c m) (hv : 0 ≤ v ∧ v ≤ 31) : RelW t e (up2 c 9 t v) (up2 m 8 t v) := by
  obtain ⟨hB, hX, hT, hS⟩ := h
  refine ⟨fun i => ?_, ?_, fun i h4 => ?_, fun i h4 hi => ?_⟩
  · simpa [RelB, up2] using hB i
  · simpa [RelX, up2] using hX
  · have h1 := hT i h4
    unfold RelT at h1 ⊢
    by_cases hk : i = t
    · subst hk; simp_all [up2]
    · simpa [up2, hk] using h1
  · simpa [RelS, up2, hi] using hS i h4 hi
theorem w_back (h : RelW t e c m) : RelW t e (up2 c 10 t v) (up2 m 9 t v) := by
  obtain ⟨hB, hX, hT, hS⟩ := h
  refine ⟨fun i => ?_, ?_, fun i h4 => ?_, fun i h4 hi => ?_⟩
  · simpa [RelB, up2] using hB i
  · simpa [RelX, up2] using hX
  · have h1 := hT i h4
    unfold RelT at h1 ⊢
    by_cases hk : i = t
    · subst hk; simp_all [up2]
    · simpa [up2, hk] using h1
  · simpa [RelS, up2, hi] using hS i h4 hi
theorem w_here (h : RelW t e c m) : RelW t e (up2 c 12 t v) (up2 m 11 t v) := by
  obtain ⟨hB, hX, hT, hS⟩ := h
  refine ⟨fun i => ?_, ?_, fun i h4 => ?_, fun i h4 hi => ?_⟩
  · simpa [RelB, up2] using hB i
  · simpa [RelX, up2] using hX
  · have h1 := hT i h4
    unfold RelT at h1 ⊢
    by_cases hk : i = t
    · subst hk; simp_all [up2]
    · simpa [up2, hk] using h1
  · simpa [RelS, up2, hi] using hS i h4 hi
theorem w_next (h : RelW t e c m) : RelW t e (up2 c 14 t v) (up2 m 13 t v) := by
  obtain ⟨hB, hX, hT, hS⟩ := h
  refine ⟨fun i => ?_, ?_, fun i h4 => ?_, fun i h4 hi => ?_⟩
  · simpa [RelB, up2] using hB i
  · simpa [RelX, up2] using hX
  · have h1 := hT i h4
    unfold RelT at h1 ⊢
    by_cases hk : i = t
    · subst hk; simp_all [up2]
    · simpa [up2, hk] using h1
  · simpa [RelS, up2, hi] using hS i h4 hi
theorem w_found (h : RelW t e c m) (hv : bz v) : RelW t e (up2 c 15 t v) (up2 m 14 t v) := by
  obtain ⟨hB, hX, hT, hS⟩ := h
  refine ⟨fun i => ?_, ?_, fun i h4 => ?_, fun i h4 hi => ?_⟩
  · simpa [RelB, up2] using hB i
  · simpa [RelX, up2] using hX
  · have h1 := hT i h4
    unfold RelT at h1 ⊢
    by_cases hk : i = t
    · subst hk; simp_all [up2]
    · simpa [up2, hk] using h1
  · simpa [RelS, up2, hi] using hS i h4 hi
theorem w_new (h : RelW t e c m) : RelW t e (up2 c 16 t v) (up2 m 15 t v) := by
  obtain ⟨hB, hX, hT, hS⟩ := h
  refine ⟨fun i => ?_, ?_, fun i h4 => ?_, fun i h4 hi => ?_⟩
  · simpa [RelB, up2] using hB i
  · simpa [RelX, up2] using hX
  · have h1 := hT i h4
    unfold RelT at h1 ⊢
    by_cases hk : i = t
    · subst hk; simp_all [up2]
    · simpa [up2, hk] using h1
  · simpa [RelS, up2, hi] using hS i h4 hi
theorem w_ended (h : RelW t e c m) (hv : v = -1 ∨ 0 ≤ v) : RelW t e (up2 c 18 t v) (up2 m 17 t v) := by
  obtain ⟨hB, hX, hT, hS⟩ := h
  refine ⟨fun i => ?_, ?_, fun i h4 => ?_, fun i h4 hi => ?_⟩
  · simpa [RelB, up2] using hB i
  · simpa [RelX, up2] using hX
  · have h1 := hT i h4
    unfold RelT at h1 ⊢
    by_cases hk : i = t
    · subst hk; simp_all [up2]
    · simpa [up2, hk] using h1
  · simpa [RelS, up2, hi] using hS i h4 hi
theorem w_ann (h : RelW t e c m) (hv : v = -1 ∨ (0 ≤ v ∧ m 20 1 = 0)) : RelW t e (up2 c 21 t v) (up2 m 18 t v) := by
  obtain ⟨hB, hX, hT, hS⟩ := h
  refine ⟨fun i => ?_, ?_, fun i h4 => ?_, fun i h4 hi => ?_⟩
  · simpa [RelB, up2] using hB i
  · simpa [RelX, up2] using hX
  · have h1 := hT i h4
    unfold RelT at h1 ⊢
    by_cases hk : i = t
    · subst hk; simp_all [up2]
    · simpa [up2, hk] using h1
  · simpa [RelS, up2, hi] using hS i h4 hi
theorem w_s0 (h : RelW t e c m) (hv : v = slotC w) : RelW t e (up2 c 19 t v) (up2 m 19 (2 * t) w) := by
  obtain ⟨hB, hX, hT, hS⟩ := h
  refine ⟨fun i => ?_, ?_, fun i h4 => ?_, fun i h4 hi => ?_⟩
  · simpa [RelB, up2] using hB i
  · simpa [RelX, up2] using hX
  · have h1 := hT i h4
    unfold RelT at h1 ⊢
    by_cases hk : i = t
    · subst hk; simp_all [up2]
    · have e1 : ¬ 2 * i = 2 * t := by omega
      have e2 : ¬ 2 * i + 1 = 2 * t := by omega
      have e3 : ¬ 2 * i = 2 * t + 1 := by omega
      have e4 : ¬ 2 * i + 1 = 2 * t + 1 := by omega
      simpa [up2, hk, e1, e2, e3, e4] using h1
  · simpa [RelS, up2, hi] using hS i h4 hi
theorem w_s1 (h : RelW t e c m) (hv : v = slotC w) : RelW t e (up2 c 20 t v) (up2 m 19 (2 * t + 1) w) := by
  obtain ⟨hB, hX, hT, hS⟩ := h
  refine ⟨fun i => ?_, ?_, fun i h4 => ?_, fun i h4 hi => ?_⟩
  · simpa [RelB, up2] using hB i
  · simpa [RelX, up2] using hX
  · have h1 := hT i h4
    unfold RelT at h1 ⊢
    by_cases hk : i = t
    · subst hk; simp_all [up2]
    · have e1 : ¬ 2 * i = 2 * t := by omega
      have e2 : ¬ 2 * i + 1 = 2 * t := by omega
      have e3 : ¬ 2 * i = 2 * t + 1 := by omega
      have e4 : ¬ 2 * i + 1 = 2 * t + 1 := by omega
      simpa [up2, hk, e1, e2, e3, e4] using h1
  · simpa [RelS, up2, hi] using hS i h4 hi
theorem w_fault (h : RelW t e c m) : RelW t e (up2 c 22 2 v) (up2 m 20 3 v) := by
  obtain ⟨hB, hX, hT, hS⟩ := h
  refine ⟨fun i => ?_, ?_, fun i h4 => ?_, fun i h4 hi => ?_⟩
  · simpa [RelB, up2] using hB i
  · have h1 := hX
    unfold RelX at h1 ⊢
    simp_all [up2]
  · simpa [RelT, up2] using hT i h4
  · simpa [RelS, up2, hi] using hS i h4 hi
end SIM

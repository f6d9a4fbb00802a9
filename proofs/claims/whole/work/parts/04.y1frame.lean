-- ===== worlds side by side =====
theorem P_iff {D : va_G} {cl : List vw_C} {ws : va_W} {H : Heap} : va_P D cl ws H ↔ ∀ q ∈ ws, va_at D cl q H := by
  constructor
  · intro h q hq
    obtain ⟨k, hk⟩ := List.getElem?_of_mem hq
    exact h k q hk
  · intro h k q hk
    exact h q (List.mem_of_getElem? hk)
theorem D_iff {A : Nat → Prop} {ws : va_W} : va_D A ws ↔ (ws.map (·.1)).Nodup ∧ ∀ q ∈ ws, A q.1 := by
  constructor
  · intro h
    refine ⟨?_, fun q hq => ?_⟩
    · unfold List.Nodup
      rw [List.pairwise_iff_getElem]
      intro i j hi hj hij e
      rw [List.length_map] at hi hj
      rw [List.getElem_map, List.getElem_map] at e
      have := h.1 i j ws[i] ws[j] (List.getElem?_eq_getElem hi) (List.getElem?_eq_getElem hj) e
      omega
    · obtain ⟨k, hk⟩ := List.getElem?_of_mem hq
      exact h.2 k q hk
  · intro h
    refine ⟨fun i j p q hp hq e => ?_, fun k q hk => h.2 q (List.mem_of_getElem? hk)⟩
    have hi : i < (ws.map (·.1)).length := by rw [List.length_map]; exact (List.getElem?_eq_some_iff.mp hp).1
    refine (List.getElem?_inj hi h.1).mp ?_
    rw [List.getElem?_map, List.getElem?_map, hp, hq]
    simp [e]
theorem A_iff {ws : va_W} {sz q : Nat} : va_A ws sz q ↔ (∃ z ∈ ws, z.1 = q) ∨ sz ≤ q := by
  constructor
  · rintro (⟨k, e, h⟩ | h)
    · exact Or.inl ⟨(q, e), List.mem_of_getElem? h, rfl⟩
    · exact Or.inr h
  · rintro (⟨z, hz, rfl⟩ | h)
    · obtain ⟨k, hk⟩ := List.getElem?_of_mem hz
      exact Or.inl ⟨k, z.2, hk⟩
    · exact Or.inr h
section FRA
variable {D : va_G} {cl : List vw_C} {A : Nat → Prop} {α σ σ' ρ : va_W} {H H1 : Heap}
theorem P_mid (h : va_P D cl (α ++ (σ ++ ρ)) H) : va_P D cl σ H := P_iff.mpr fun q hq => P_iff.mp h q (List.mem_append_right _ (List.mem_append_left _ hq))
theorem D_mid (h : va_D A (α ++ (σ ++ ρ))) : va_D A σ := by
  rw [D_iff] at h ⊢
  refine ⟨?_, fun q hq => h.2 q (List.mem_append_right _ (List.mem_append_left _ hq))⟩
  have h1 := h.1
  rw [List.map_append, List.map_append, List.nodup_append] at h1
  have h2 := h1.2.1
  rw [List.nodup_append] at h2
  exact h2.1
/-- behind a call that had the middle part -/
theorem frame_join (hP : va_P D cl (α ++ (σ ++ ρ)) H) (hD : va_D A (α ++ (σ ++ ρ))) (hk : ∀ q : Nat, q < H.size → ¬ va_A σ H.size q → H1[q]? = H[q]?) (hF : ∀ q, va_A σ H.size q → A q) (hP1 : va_P D cl σ' H1) (hD1 : va_D (va_A σ H.size) σ') : va_P D cl (α ++ (σ' ++ ρ)) H1 ∧ va_D A (α ++ (σ' ++ ρ)) := by
  rw [P_iff] at hP
  have hPa := P_iff.mp hP1
  have hD' := D_iff.mp hD
  have hDa := D_iff.mp hD1
  have hn := hD'.1
  rw [List.map_append, List.map_append, List.nodup_append] at hn
  obtain ⟨n1, n23, n4⟩ := hn
  rw [List.nodup_append] at n23
  obtain ⟨n2, n3, n5⟩ := n23
  -- a cell beside the middle part isn't in what the callee may change
  have out : ∀ q : Nat × va_E, (q ∈ α ∨ q ∈ ρ) → q.1 < H.size ∧ ¬ va_A σ H.size q.1 := by
    intro q hq
    have hm : q ∈ α ++ (σ ++ ρ) := by
      rcases hq with h | h
      · exact List.mem_append_left _ h
      · exact List.mem_append_right _ (List.mem_append_right _ h)
    have hl := (hP q hm).lt
    refine ⟨hl, fun h => ?_⟩
    rcases A_iff.mp h with ⟨z, hz, e⟩ | h
    · rcases hq with hq | hq
      · exact n4 q.1 (List.mem_map.mpr ⟨q, hq, rfl⟩) z.1 (List.mem_append_left _ (List.mem_map.mpr ⟨z, hz, rfl⟩)) e.symm
      · exact n5 z.1 (List.mem_map.mpr ⟨z, hz, rfl⟩) q.1 (List.mem_map.mpr ⟨q, hq, rfl⟩) e
    · omega
  refine ⟨P_iff.mpr fun q hq => ?_, D_iff.mpr ⟨?_, fun q hq => ?_⟩⟩
  · rcases List.mem_append.mp hq with h | h
    · have := out q (Or.inl h)
      exact (hP q (List.mem_append_left _ h)).kept (hk q.1 this.1 this.2)
    · rcases List.mem_append.mp h with h | h
      · exact hPa q h
      · have := out q (Or.inr h)
        exact (hP q (List.mem_append_right _ (List.mem_append_right _ h))).kept (hk q.1 this.1 this.2)
  · rw [List.map_append, List.map_append, List.nodup_append]
    refine ⟨n1, ?_, fun a ha b hb e => ?_⟩
    · rw [List.nodup_append]
      refine ⟨hDa.1, n3, fun a ha b hb e => ?_⟩
      obtain ⟨z, hz, rfl⟩ := List.mem_map.mp ha
      obtain ⟨y, hy, rfl⟩ := List.mem_map.mp hb
      exact (out y (Or.inr hy)).2 (by rw [← e]; exact hDa.2 z hz)
    · obtain ⟨y, hy, rfl⟩ := List.mem_map.mp ha
      rcases List.mem_append.mp hb with hb | hb
      · obtain ⟨z, hz, rfl⟩ := List.mem_map.mp hb
        exact (out y (Or.inl hy)).2 (by rw [e]; exact hDa.2 z hz)
      · exact n4 _ (List.mem_map.mpr ⟨y, hy, rfl⟩) b (List.mem_append_right _ hb) e
  · rcases List.mem_append.mp hq with h | h
    · exact hD'.2 q (List.mem_append_left _ h)
    · rcases List.mem_append.mp h with h | h
      · exact hF _ (hDa.2 q h)
      · exact hD'.2 q (List.mem_append_right _ (List.mem_append_right _ h))
end FRA

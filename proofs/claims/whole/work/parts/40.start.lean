-- ===== the start =====
theorem nc_in : ∀ q ∈ NCl, Cond.not (.castable q.1 q.2) ∈ flatC (Jvm.Cond.and given_1 narrow_1) := by decide +kernel
theorem st_in : ∀ q ∈ STl, Cond.stringRef q.1 q.2.1 q.2.2 ∈ lw_tbl ∧ Cond.exactly (.string q.1 q.2.1) "java/lang/String" ∈ flatC (Jvm.Cond.and given_1 narrow_1) := by decide +kernel
theorem arr_at {args : Array Value} {s : State} {ty : FieldType} (h : (Cond.arrayClass ty).before args s = true) (hob : ∀ C, ty ≠ .object C) : ∃ cA, ArrOfT s cA ty ∧ va_RA s cA ty := by
  obtain ⟨c, k, comp, h1, h2, h3⟩ := Cond.arrayClass_spec h
  refine ⟨c, fun n z => ⟨fun q h => (by cases h), k, h2, comp, h3⟩, ?_⟩
  cases ty with
  | object C => exact absurd rfl (hob C)
  | _ => exact h1
theorem arr_over {args : Array Value} {s : State} {C : String} (h : (Cond.arrayOver (.object C)).before args s = true) : ∃ cA, ArrOfT s cA (.object C) ∧ va_RA s cA (.object C) := by
  obtain ⟨comp, c, k, h1, h2, h3, h4, h5⟩ := Cond.arrayOver_spec h
  exact ⟨c, fun n z => ⟨fun q h => (by cases h), k, h3, comp, h4⟩, k, comp, h3, h4, h1, h5⟩
theorem ao_B : Cond.arrayOver (.object RB) ∈ lw_tbl := by decide +kernel
theorem ao_K : Cond.arrayOver (.object RK) ∈ lw_tbl := by decide +kernel
theorem z_1 : Cond.laysStatic Bundle.tN "UNASSIGNED_STACK" Bundle.steD ∈ lw_tbl := by decide +kernel
theorem z_2 : Cond.laysStatic Bundle.tN "SUPPRESSED_SENTINEL" Bundle.listD ∈ lw_tbl := by decide +kernel
theorem z_3 : Cond.initialized Bundle.tN ∈ lw_tbl := by decide +kernel
theorem z_4 : Cond.isRef (.static Bundle.tN "UNASSIGNED_STACK" Bundle.steD) ∈ flatC (Jvm.Cond.and given_1 narrow_1) := by decide +kernel
theorem z_5 : Cond.isRef (.static Bundle.tN "SUPPRESSED_SENTINEL" Bundle.listD) ∈ flatC (Jvm.Cond.and given_1 narrow_1) := by decide +kernel
theorem ev_start {args : Array Value} {s : State} (hts : ∀ w ∈ lw_tbl, w.before args s = true) (hgv : (Jvm.Cond.and given_1 narrow_1).before args s = true) : ∃ (D : va_G) (K : Nat → ClassId), EV D K s.heap.size s := by
  have hw : ∀ w ∈ WSg, w.before args s = true := fun w h => hts w (List.mem_filter.mp h).1
  have hs := flat_of_before _ hgv
  obtain ⟨c0, i0, k0⟩ := u_known hw inTS (hw _ itS)
  obtain ⟨c1, i1, k1⟩ := u_known hw inTB (hw _ itB)
  obtain ⟨c2, i2, k2⟩ := u_known hw inTK (hw _ itK)
  obtain ⟨c3, i3, k3⟩ := u_known hw inTM (hw _ itM)
  obtain ⟨a0, b0, d0⟩ := arr_over (hts _ ao_B)
  obtain ⟨a1, b1, d1⟩ := arr_over (hts _ ao_K)
  obtain ⟨a2, b2, d2⟩ := arr_at (hw _ ar_int) (fun C h => by cases h)
  obtain ⟨a3, b3, d3⟩ := arr_at (hw _ ar_boolean) (fun C h => by cases h)
  obtain ⟨a4, b4, d4⟩ := arr_at (hw _ ar_long) (fun C h => by cases h)
  have hA : ∀ a : Nat, a < s.heap.size → ¬ s.heap.size ≤ a := fun a h => by omega
  refine ⟨(fun i => match i with | 0 => c0 | 1 => c1 | 2 => c2 | _ => c3, fun i => match i with | 0 => i0 | 1 => i1 | 2 => i2 | _ => i3), (fun i => match i with | 0 => a0 | 1 => a1 | 2 => a2 | 3 => a3 | _ => a4), ⟨?_, ?_⟩, fun w h => ?_, fun q hq => ?_, fun q hq => va_Nc.of (hs _ (nc_in q hq)), vx_Zqof (hts _ z_1) (hts _ z_3) (hs _ z_4) hA, vx_Zqof (hts _ z_2) (hts _ z_3) (hs _ z_5) hA, va_AO.of (hts _ ao_B), va_AO.of (hts _ ao_K)⟩
  · intro i q h
    rcases i with _ | _ | _ | _ | i
    · cases h; exact k0
    · cases h; exact k1
    · cases h; exact k2
    · cases h; exact k3
    · cases h
  · intro i q h
    rcases i with _ | _ | _ | _ | _ | i
    · cases h; exact ⟨b0, d0⟩
    · cases h; exact ⟨b1, d1⟩
    · cases h; exact ⟨b2, d2⟩
    · cases h; exact ⟨b3, d3⟩
    · cases h; exact ⟨b4, d4⟩
    · cases h
  · exact va_Nw.of (nest_tab (List.mem_filter.mp h).2) (hts w (List.mem_filter.mp h).1)
  · obtain ⟨h1, h2⟩ := st_in q hq
    obtain ⟨a, -, -, -, ha, -⟩ := Cond.exactly_spec (hs _ h2)
    exact ⟨a, vk_R.of (hts _ h1) ha⟩
theorem fsM : ∀ j, j < 24 → defaultValue (tyTM j) = vp_V [.int 0, .int 0, .int 0, .int 0, .null, .null, .null, .null, .null, .null, .null, .null, .null, .null, .null, .null, .null, .null, .null, .null, .null, .null, .null, .null] j := by
  intro j hj
  rcases (show j = 0 ∨ j = 1 ∨ j = 2 ∨ j = 3 ∨ j = 4 ∨ j = 5 ∨ j = 6 ∨ j = 7 ∨ j = 8 ∨ j = 9 ∨ j = 10 ∨ j = 11 ∨ j = 12 ∨ j = 13 ∨ j = 14 ∨ j = 15 ∨ j = 16 ∨ j = 17 ∨ j = 18 ∨ j = 19 ∨ j = 20 ∨ j = 21 ∨ j = 22 ∨ j = 23 by omega) with rfl | rfl | rfl | rfl | rfl | rfl | rfl | rfl | rfl | rfl | rfl | rfl | rfl | rfl | rfl | rfl | rfl | rfl | rfl | rfl | rfl | rfl | rfl | rfl <;> rfl
theorem fsS : ∀ j, j < 5 → defaultValue (tyTS j) = vp_V [.int 0, .null, .null, .int 0, .int 0] j := by
  intro j hj
  rcases (show j = 0 ∨ j = 1 ∨ j = 2 ∨ j = 3 ∨ j = 4 by omega) with rfl | rfl | rfl | rfl | rfl <;> rfl
set_option maxRecDepth 100000 in
set_option maxHeartbeats 4000000 in
theorem law_all {κ : KM} {l : Launch} {A : Nat → Prop} {Q : State → Prop} {D : va_G} {K : Nat → ClassId} {base b N : Nat} {xs : Nat → Int32} (F : Fx κ A D K base code RL 7) (hl : l.stackTraces = false) (hX : va_X b N xs κ.2.2.1 κ.2.2.1.heap) (hbb : b < base) (hN : N ≤ 2049) (ret : ∀ (cl sl : Nat) (σ : va_W) (L : List (Nat × Value)), cl ≤ 663151 → sl ≤ 7106618 → G κ l room_1 A Q D 7 cl sl σ 785 L []) : G κ l room_1 A Q D 7 0 0 [] 0 [(0, .ref b)] [] := by
  refine G.newc (ci := 0) (fs := [.int 0, .null, .null, .int 0, .int 0]) tyTS F inTS tyTS_ok clL_8 itS in_S rfl fsS ⟨by decide, by decide⟩ dL_law_0 (fun x => ?_)
  refine G.dup F dL_law_3 rfl ?_
  refine G.aload_n 0 F dL_law_4 rfl rfl ?_
  refine G.iconst 0 F dL_law_5 (by decide) ?_
  refine G.callCell F hX hbb (k_cell l D K base b N xs hN) ckL_53 ⟨rfl, rfl⟩ ⟨by decide, by decide⟩ ⟨by decide, by decide⟩ rfl rfl (Nat.le_of_ble_eq_true rfl) dL_law_6 ?_
  refine G.callin [] [] F (k_Sinit l D K base x (f_cell N xs)) rfl ciL_59 ⟨by decide, by decide⟩ ⟨by decide, by decide⟩ rfl rfl (Nat.le_of_ble_eq_true rfl) dL_law_9 (fun X hXx => ?_)
  refine G.st (σ' := cW X K (c0 (sch (f_cell N xs)))) (by simp) ?_
  subst hXx
  refine G.astore_nN F dL_law_12 rfl (by decide) rfl ?_
  refine G.newc (ci := 3) (fs := [.int 0, .int 0, .int 0, .int 0, .null, .null, .null, .null, .null, .null, .null, .null, .null, .null, .null, .null, .null, .null, .null, .null, .null, .null, .null, .null]) tyTM F inTM tyTM_ok clL_62 itM in_M rfl fsM ⟨by decide, by decide⟩ dL_law_13 (fun y => ?_)
  refine G.dup F dL_law_16 rfl ?_
  refine G.aload_n 1 F dL_law_17 rfl rfl ?_
  refine G.iconst 0 F dL_law_18 (by decide) ?_
  refine G.callCell F hX hbb (k_cell l D K base b N xs hN) ckL_53 ⟨rfl, rfl⟩ ⟨by decide, by decide⟩ ⟨by decide, by decide⟩ rfl rfl (Nat.le_of_ble_eq_true rfl) dL_law_19 ?_
  refine G.callin (cW X K (c0 (sch (f_cell N xs)))) [] F (k_Minit l D K base y (f_cell N xs)) rfl ciL_64 ⟨by decide, by decide⟩ ⟨by decide, by decide⟩ rfl rfl (Nat.le_of_ble_eq_true rfl) dL_law_22 (fun Y hYy => ?_)
  subst hYy
  refine G.astore_nN F dL_law_25 rfl (by decide) rfl ?_
  refine G.iconst 1 F dL_law_26 (by decide) ?_
  refine G.newa (atype := .long) (t0 := 4) (ty := .long) (a0 := (1, .inr (.inl (fun _ => 0)))) (N' := 1) F ar_long rfl rfl (fun C h => by cases h) (fun cA => rfl) (by decide) (by decide) (by decide) ⟨by decide, by decide⟩ dL_law_27 (fun o => ?_)
  refine G.swap (α := cW X K (c0 (sch (f_cell N xs)))) (β := mW Y K (m0 (sch (f_cell N xs)))) (ρ := oW o K (fun _ => 0)) (by simp [oW]) ?_
  refine G.astore_nN F dL_law_29 rfl (by decide) rfl ?_
  refine G.iconst 1 F dL_law_30 (by decide) ?_
  refine G.istoreN F dL_law_31 (by decide) rfl ?_
  exact law_loop F hl hX hbb hN ret 513 0 _ _ _ (by decide) (r_first _) (i_first _) (i_firstM _)

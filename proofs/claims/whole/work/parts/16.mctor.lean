def mI (k : Nat) (s : Int32) : CS := fun f i => if (f = 17 ∨ f = 18) ∧ i < k then -1 else if f = 20 ∧ i = 1 then s else 0
abbrev m0 (s : Int32) : CS := mI 4 s
theorem mI_step (k : Nat) (s : Int32) : up2 (up2 (mI k s) 17 k (-1)) 18 k (-1) = mI (k + 1) s := by
  funext f i
  simp only [up2, mI]
  by_cases h8 : f = 18
  · subst h8
    by_cases hi : i = k
    · subst hi; simp
    · have e1 : (i < k + 1) ↔ (i < k) := by omega
      simp [hi, e1]
  · by_cases h7 : f = 17
    · subst h7
      by_cases hi : i = k
      · subst hi; simp
      · have e1 : (i < k + 1) ↔ (i < k) := by omega
        simp [hi, e1]
    · simp [h7, h8]
def rmM : Room := { frames := 1, cells := 20, slots := 186, locals := 30 }
set_option maxRecDepth 100000 in
set_option maxHeartbeats 4000000 in
theorem k_Minit (l : Launch) (D : va_G) (K : Nat → ClassId) (base x : Nat) (v : Int32) : CtN l D K base yM_init cM_init 3 rmM [.ref x, .int v] [(x, .inr (3, [.int 0, .int 0, .int 0, .int 0, .null, .null, .null, .null, .null, .null, .null, .null, .null, .null, .null, .null, .null, .null, .null, .null, .null, .null, .null, .null]))] (fun Y => Y 0 = x) (fun Y => mW Y K (m0 (sch v))) := by
  refine CtN.enter (by decide) (Nat.le_of_ble_eq_true rfl) ?_
  intro κ A Q F hin hE
  show G κ l rmM A Q D 3 0 0 [(x, .inr (3, [.int 0, .int 0, .int 0, .int 0, .null, .null, .null, .null, .null, .null, .null, .null, .null, .null, .null, .null, .null, .null, .null, .null, .null, .null, .null, .null]))] 0 [(0, .ref x), (1, .int v)] []
  have loop : ∀ (n k : Nat) (Y : Nat → Nat), k + n = 4 → Y 0 = x → G κ l rmM A Q D 3 20 186 (mW Y K (mI k (sch v))) 172 [(2, .int (nI k)), (0, .ref x), (1, .int v)] [] := by
    intro n
    induction n with
    | zero =>
      intro k Y hk hY
      obtain rfl : k = 4 := by omega
      refine G.iload_n 0 F dM_init_172 rfl rfl ?_
      refine G.iconst 4 F dM_init_173 (by decide) ?_
      refine G.icmp_ge 197 F dM_init_174 rfl (fun _ => ?_) (fun h9 => absurd (by decide) h9)
      exact hE _ _ Y hY dM_init_197
    | succ n ih =>
      intro k Y hkn hY
      have hk : k < 4 := by omega
      refine G.iload_n 0 F dM_init_172 rfl rfl ?_
      refine G.iconst 4 F dM_init_173 (by decide) ?_
      refine G.icmp_ge 197 F dM_init_174 rfl (fun h9 => absurd h9 (nI_ge (b := 4) hk (by decide))) (fun _ => ?_)
      subst hY
      refine G.aload_n 1 F dM_init_177 rfl rfl ?_
      refine G.gM 21 F (by decide) flM_62 rfl dM_init_178 ?_
      refine G.iload_n 0 F dM_init_181 rfl rfl ?_
      refine G.iconst (-1) F dM_init_182 (by decide) ?_
      refine G.stMn 17 F (by decide) rfl rfl hk dM_init_183 ?_
      refine G.aload_n 1 F dM_init_184 rfl rfl ?_
      refine G.gM 22 F (by decide) flM_65 rfl dM_init_185 ?_
      refine G.iload_n 0 F dM_init_188 rfl rfl ?_
      refine G.iconst (-1) F dM_init_189 (by decide) ?_
      refine G.stMn 18 F (by decide) rfl rfl hk dM_init_190 ?_
      refine G.iinc 0 (nI (k + 1)) F dM_init_191 rfl (nI_succ k).symm (by decide) rfl ?_
      refine G.goto 172 F dM_init_194 rfl ?_
      rw [mI_step]
      exact ih (k + 1) Y (by omega) rfl
  have cont : ∀ (s : Int32) (Y : Nat → Nat), s = sch v → Y 0 = x → G κ l rmM A Q D 3 20 186 (mW Y K (mI 0 0)) 167 [(0, .ref x), (1, .int v)] [.int s, .ref x] := by
    intro s Y hs hY
    subst hs; subst hY
    refine G.pM 1 F (by decide) flM_71 dM_init_167 ?_
    have e1 : up2 (mI 0 0) 20 1 (sch v) = mI 0 (sch v) := by
      funext f i
      simp only [up2, mI]
      by_cases h1 : f = 20 ∧ i = 1
      · simp [h1]
      · simp [h1]
    rw [e1]
    refine G.iconst 0 F dM_init_170 (by decide) ?_
    refine G.istore_nN F dM_init_171 rfl (by decide) rfl ?_
    exact loop 4 0 Y (by decide) rfl
  refine G.aload_n 0 F dM_init_0 rfl rfl ?_
  refine G.objI F ob_M ob_i ob_c ⟨by decide, Nat.le_of_ble_eq_true rfl⟩ dM_init_1 ?_
  refine G.aload_n 0 F dM_init_4 rfl rfl ?_
  refine G.bipush 21 F dM_init_5 (by decide) ?_
  refine G.newa (atype := .int) (t0 := 2) (ty := .int) (a0 := (21, .inl (fun _ => 0))) (N' := 21) F ar_int rfl rfl (fun C h => by cases h) (fun cA => rfl) (by decide) (by decide) (by decide) ⟨by decide, by decide⟩ dM_init_7 (fun q1 => ?_)
  refine G.putf (k := 4) (v := .ref q1) (σ' := [(x, .inr (3, [.int 0, .int 0, .int 0, .int 0, .ref q1, .null, .null, .null, .null, .null, .null, .null, .null, .null, .null, .null, .null, .null, .null, .null, .null, .null, .null, .null])), (q1, .inl (K 2, 21, .inl (fun _ => 0)))]) tyTM 0 F tyTM_ok nmTM rfl rfl inTM (by decide) rfl flM_7 rfl rfl rfl rfl (Nat.le_of_ble_eq_true rfl) dM_init_9 rfl ?_
  refine G.aload_n 0 F dM_init_12 rfl rfl ?_
  refine G.bipush 21 F dM_init_13 (by decide) ?_
  refine G.newa (atype := .int) (t0 := 2) (ty := .int) (a0 := (21, .inl (fun _ => 0))) (N' := 21) F ar_int rfl rfl (fun C h => by cases h) (fun cA => rfl) (by decide) (by decide) (by decide) ⟨by decide, by decide⟩ dM_init_15 (fun q2 => ?_)
  refine G.putf (k := 5) (v := .ref q2) (σ' := [(x, .inr (3, [.int 0, .int 0, .int 0, .int 0, .ref q1, .ref q2, .null, .null, .null, .null, .null, .null, .null, .null, .null, .null, .null, .null, .null, .null, .null, .null, .null, .null])), (q1, .inl (K 2, 21, .inl (fun _ => 0))), (q2, .inl (K 2, 21, .inl (fun _ => 0)))]) tyTM 0 F tyTM_ok nmTM rfl rfl inTM (by decide) rfl flM_13 rfl rfl rfl rfl (Nat.le_of_ble_eq_true rfl) dM_init_17 rfl ?_
  refine G.aload_n 0 F dM_init_20 rfl rfl ?_
  refine G.bipush 21 F dM_init_21 (by decide) ?_
  refine G.newa (atype := .int) (t0 := 2) (ty := .int) (a0 := (21, .inl (fun _ => 0))) (N' := 21) F ar_int rfl rfl (fun C h => by cases h) (fun cA => rfl) (by decide) (by decide) (by decide) ⟨by decide, by decide⟩ dM_init_23 (fun q3 => ?_)
  refine G.putf (k := 6) (v := .ref q3) (σ' := [(x, .inr (3, [.int 0, .int 0, .int 0, .int 0, .ref q1, .ref q2, .ref q3, .null, .null, .null, .null, .null, .null, .null, .null, .null, .null, .null, .null, .null, .null, .null, .null, .null])), (q1, .inl (K 2, 21, .inl (fun _ => 0))), (q2, .inl (K 2, 21, .inl (fun _ => 0))), (q3, .inl (K 2, 21, .inl (fun _ => 0)))]) tyTM 0 F tyTM_ok nmTM rfl rfl inTM (by decide) rfl flM_16 rfl rfl rfl rfl (Nat.le_of_ble_eq_true rfl) dM_init_25 rfl ?_
  refine G.aload_n 0 F dM_init_28 rfl rfl ?_
  refine G.bipush 21 F dM_init_29 (by decide) ?_
  refine G.newa (atype := .boolean) (t0 := 3) (ty := .boolean) (a0 := (21, .inl (fun _ => 0))) (N' := 21) F ar_boolean rfl rfl (fun C h => by cases h) (fun cA => rfl) (by decide) (by decide) (by decide) ⟨by decide, by decide⟩ dM_init_31 (fun q4 => ?_)
  refine G.putf (k := 7) (v := .ref q4) (σ' := [(x, .inr (3, [.int 0, .int 0, .int 0, .int 0, .ref q1, .ref q2, .ref q3, .ref q4, .null, .null, .null, .null, .null, .null, .null, .null, .null, .null, .null, .null, .null, .null, .null, .null])), (q1, .inl (K 2, 21, .inl (fun _ => 0))), (q2, .inl (K 2, 21, .inl (fun _ => 0))), (q3, .inl (K 2, 21, .inl (fun _ => 0))), (q4, .inl (K 3, 21, .inl (fun _ => 0)))]) tyTM 0 F tyTM_ok nmTM rfl rfl inTM (by decide) rfl flM_19 rfl rfl rfl rfl (Nat.le_of_ble_eq_true rfl) dM_init_33 rfl ?_
  refine G.aload_n 0 F dM_init_36 rfl rfl ?_
  refine G.bipush 21 F dM_init_37 (by decide) ?_
  refine G.newa (atype := .int) (t0 := 2) (ty := .int) (a0 := (21, .inl (fun _ => 0))) (N' := 21) F ar_int rfl rfl (fun C h => by cases h) (fun cA => rfl) (by decide) (by decide) (by decide) ⟨by decide, by decide⟩ dM_init_39 (fun q5 => ?_)
  refine G.putf (k := 8) (v := .ref q5) (σ' := [(x, .inr (3, [.int 0, .int 0, .int 0, .int 0, .ref q1, .ref q2, .ref q3, .ref q4, .ref q5, .null, .null, .null, .null, .null, .null, .null, .null, .null, .null, .null, .null, .null, .null, .null])), (q1, .inl (K 2, 21, .inl (fun _ => 0))), (q2, .inl (K 2, 21, .inl (fun _ => 0))), (q3, .inl (K 2, 21, .inl (fun _ => 0))), (q4, .inl (K 3, 21, .inl (fun _ => 0))), (q5, .inl (K 2, 21, .inl (fun _ => 0)))]) tyTM 0 F tyTM_ok nmTM rfl rfl inTM (by decide) rfl flM_23 rfl rfl rfl rfl (Nat.le_of_ble_eq_true rfl) dM_init_41 rfl ?_
  refine G.aload_n 0 F dM_init_44 rfl rfl ?_
  refine G.bipush 21 F dM_init_45 (by decide) ?_
  refine G.newa (atype := .int) (t0 := 2) (ty := .int) (a0 := (21, .inl (fun _ => 0))) (N' := 21) F ar_int rfl rfl (fun C h => by cases h) (fun cA => rfl) (by decide) (by decide) (by decide) ⟨by decide, by decide⟩ dM_init_47 (fun q6 => ?_)
  refine G.putf (k := 9) (v := .ref q6) (σ' := [(x, .inr (3, [.int 0, .int 0, .int 0, .int 0, .ref q1, .ref q2, .ref q3, .ref q4, .ref q5, .ref q6, .null, .null, .null, .null, .null, .null, .null, .null, .null, .null, .null, .null, .null, .null])), (q1, .inl (K 2, 21, .inl (fun _ => 0))), (q2, .inl (K 2, 21, .inl (fun _ => 0))), (q3, .inl (K 2, 21, .inl (fun _ => 0))), (q4, .inl (K 3, 21, .inl (fun _ => 0))), (q5, .inl (K 2, 21, .inl (fun _ => 0))), (q6, .inl (K 2, 21, .inl (fun _ => 0)))]) tyTM 0 F tyTM_ok nmTM rfl rfl inTM (by decide) rfl flM_26 rfl rfl rfl rfl (Nat.le_of_ble_eq_true rfl) dM_init_49 rfl ?_
  refine G.aload_n 0 F dM_init_52 rfl rfl ?_
  refine G.iconst 4 F dM_init_53 (by decide) ?_
  refine G.newa (atype := .int) (t0 := 2) (ty := .int) (a0 := (4, .inl (fun _ => 0))) (N' := 4) F ar_int rfl rfl (fun C h => by cases h) (fun cA => rfl) (by decide) (by decide) (by decide) ⟨by decide, by decide⟩ dM_init_54 (fun q7 => ?_)
  refine G.putf (k := 10) (v := .ref q7) (σ' := [(x, .inr (3, [.int 0, .int 0, .int 0, .int 0, .ref q1, .ref q2, .ref q3, .ref q4, .ref q5, .ref q6, .ref q7, .null, .null, .null, .null, .null, .null, .null, .null, .null, .null, .null, .null, .null])), (q1, .inl (K 2, 21, .inl (fun _ => 0))), (q2, .inl (K 2, 21, .inl (fun _ => 0))), (q3, .inl (K 2, 21, .inl (fun _ => 0))), (q4, .inl (K 3, 21, .inl (fun _ => 0))), (q5, .inl (K 2, 21, .inl (fun _ => 0))), (q6, .inl (K 2, 21, .inl (fun _ => 0))), (q7, .inl (K 2, 4, .inl (fun _ => 0)))]) tyTM 0 F tyTM_ok nmTM rfl rfl inTM (by decide) rfl flM_29 rfl rfl rfl rfl (Nat.le_of_ble_eq_true rfl) dM_init_56 rfl ?_
  refine G.aload_n 0 F dM_init_59 rfl rfl ?_
  refine G.iconst 4 F dM_init_60 (by decide) ?_
  refine G.newa (atype := .int) (t0 := 2) (ty := .int) (a0 := (4, .inl (fun _ => 0))) (N' := 4) F ar_int rfl rfl (fun C h => by cases h) (fun cA => rfl) (by decide) (by decide) (by decide) ⟨by decide, by decide⟩ dM_init_61 (fun q8 => ?_)
  refine G.putf (k := 11) (v := .ref q8) (σ' := [(x, .inr (3, [.int 0, .int 0, .int 0, .int 0, .ref q1, .ref q2, .ref q3, .ref q4, .ref q5, .ref q6, .ref q7, .ref q8, .null, .null, .null, .null, .null, .null, .null, .null, .null, .null, .null, .null])), (q1, .inl (K 2, 21, .inl (fun _ => 0))), (q2, .inl (K 2, 21, .inl (fun _ => 0))), (q3, .inl (K 2, 21, .inl (fun _ => 0))), (q4, .inl (K 3, 21, .inl (fun _ => 0))), (q5, .inl (K 2, 21, .inl (fun _ => 0))), (q6, .inl (K 2, 21, .inl (fun _ => 0))), (q7, .inl (K 2, 4, .inl (fun _ => 0))), (q8, .inl (K 2, 4, .inl (fun _ => 0)))]) tyTM 0 F tyTM_ok nmTM rfl rfl inTM (by decide) rfl flM_32 rfl rfl rfl rfl (Nat.le_of_ble_eq_true rfl) dM_init_63 rfl ?_
  refine G.aload_n 0 F dM_init_66 rfl rfl ?_
  refine G.iconst 4 F dM_init_67 (by decide) ?_
  refine G.newa (atype := .int) (t0 := 2) (ty := .int) (a0 := (4, .inl (fun _ => 0))) (N' := 4) F ar_int rfl rfl (fun C h => by cases h) (fun cA => rfl) (by decide) (by decide) (by decide) ⟨by decide, by decide⟩ dM_init_68 (fun q9 => ?_)
  refine G.putf (k := 12) (v := .ref q9) (σ' := [(x, .inr (3, [.int 0, .int 0, .int 0, .int 0, .ref q1, .ref q2, .ref q3, .ref q4, .ref q5, .ref q6, .ref q7, .ref q8, .ref q9, .null, .null, .null, .null, .null, .null, .null, .null, .null, .null, .null])), (q1, .inl (K 2, 21, .inl (fun _ => 0))), (q2, .inl (K 2, 21, .inl (fun _ => 0))), (q3, .inl (K 2, 21, .inl (fun _ => 0))), (q4, .inl (K 3, 21, .inl (fun _ => 0))), (q5, .inl (K 2, 21, .inl (fun _ => 0))), (q6, .inl (K 2, 21, .inl (fun _ => 0))), (q7, .inl (K 2, 4, .inl (fun _ => 0))), (q8, .inl (K 2, 4, .inl (fun _ => 0))), (q9, .inl (K 2, 4, .inl (fun _ => 0)))]) tyTM 0 F tyTM_ok nmTM rfl rfl inTM (by decide) rfl flM_35 rfl rfl rfl rfl (Nat.le_of_ble_eq_true rfl) dM_init_70 rfl ?_
  refine G.aload_n 0 F dM_init_73 rfl rfl ?_
  refine G.iconst 4 F dM_init_74 (by decide) ?_
  refine G.newa (atype := .int) (t0 := 2) (ty := .int) (a0 := (4, .inl (fun _ => 0))) (N' := 4) F ar_int rfl rfl (fun C h => by cases h) (fun cA => rfl) (by decide) (by decide) (by decide) ⟨by decide, by decide⟩ dM_init_75 (fun q10 => ?_)
  refine G.putf (k := 13) (v := .ref q10) (σ' := [(x, .inr (3, [.int 0, .int 0, .int 0, .int 0, .ref q1, .ref q2, .ref q3, .ref q4, .ref q5, .ref q6, .ref q7, .ref q8, .ref q9, .ref q10, .null, .null, .null, .null, .null, .null, .null, .null, .null, .null])), (q1, .inl (K 2, 21, .inl (fun _ => 0))), (q2, .inl (K 2, 21, .inl (fun _ => 0))), (q3, .inl (K 2, 21, .inl (fun _ => 0))), (q4, .inl (K 3, 21, .inl (fun _ => 0))), (q5, .inl (K 2, 21, .inl (fun _ => 0))), (q6, .inl (K 2, 21, .inl (fun _ => 0))), (q7, .inl (K 2, 4, .inl (fun _ => 0))), (q8, .inl (K 2, 4, .inl (fun _ => 0))), (q9, .inl (K 2, 4, .inl (fun _ => 0))), (q10, .inl (K 2, 4, .inl (fun _ => 0)))]) tyTM 0 F tyTM_ok nmTM rfl rfl inTM (by decide) rfl flM_38 rfl rfl rfl rfl (Nat.le_of_ble_eq_true rfl) dM_init_77 rfl ?_
  refine G.aload_n 0 F dM_init_80 rfl rfl ?_
  refine G.iconst 4 F dM_init_81 (by decide) ?_
  refine G.newa (atype := .int) (t0 := 2) (ty := .int) (a0 := (4, .inl (fun _ => 0))) (N' := 4) F ar_int rfl rfl (fun C h => by cases h) (fun cA => rfl) (by decide) (by decide) (by decide) ⟨by decide, by decide⟩ dM_init_82 (fun q11 => ?_)
  refine G.putf (k := 14) (v := .ref q11) (σ' := [(x, .inr (3, [.int 0, .int 0, .int 0, .int 0, .ref q1, .ref q2, .ref q3, .ref q4, .ref q5, .ref q6, .ref q7, .ref q8, .ref q9, .ref q10, .ref q11, .null, .null, .null, .null, .null, .null, .null, .null, .null])), (q1, .inl (K 2, 21, .inl (fun _ => 0))), (q2, .inl (K 2, 21, .inl (fun _ => 0))), (q3, .inl (K 2, 21, .inl (fun _ => 0))), (q4, .inl (K 3, 21, .inl (fun _ => 0))), (q5, .inl (K 2, 21, .inl (fun _ => 0))), (q6, .inl (K 2, 21, .inl (fun _ => 0))), (q7, .inl (K 2, 4, .inl (fun _ => 0))), (q8, .inl (K 2, 4, .inl (fun _ => 0))), (q9, .inl (K 2, 4, .inl (fun _ => 0))), (q10, .inl (K 2, 4, .inl (fun _ => 0))), (q11, .inl (K 2, 4, .inl (fun _ => 0)))]) tyTM 0 F tyTM_ok nmTM rfl rfl inTM (by decide) rfl flM_41 rfl rfl rfl rfl (Nat.le_of_ble_eq_true rfl) dM_init_84 rfl ?_
  refine G.aload_n 0 F dM_init_87 rfl rfl ?_
  refine G.iconst 4 F dM_init_88 (by decide) ?_
  refine G.newa (atype := .int) (t0 := 2) (ty := .int) (a0 := (4, .inl (fun _ => 0))) (N' := 4) F ar_int rfl rfl (fun C h => by cases h) (fun cA => rfl) (by decide) (by decide) (by decide) ⟨by decide, by decide⟩ dM_init_89 (fun q12 => ?_)
  refine G.putf (k := 15) (v := .ref q12) (σ' := [(x, .inr (3, [.int 0, .int 0, .int 0, .int 0, .ref q1, .ref q2, .ref q3, .ref q4, .ref q5, .ref q6, .ref q7, .ref q8, .ref q9, .ref q10, .ref q11, .ref q12, .null, .null, .null, .null, .null, .null, .null, .null])), (q1, .inl (K 2, 21, .inl (fun _ => 0))), (q2, .inl (K 2, 21, .inl (fun _ => 0))), (q3, .inl (K 2, 21, .inl (fun _ => 0))), (q4, .inl (K 3, 21, .inl (fun _ => 0))), (q5, .inl (K 2, 21, .inl (fun _ => 0))), (q6, .inl (K 2, 21, .inl (fun _ => 0))), (q7, .inl (K 2, 4, .inl (fun _ => 0))), (q8, .inl (K 2, 4, .inl (fun _ => 0))), (q9, .inl (K 2, 4, .inl (fun _ => 0))), (q10, .inl (K 2, 4, .inl (fun _ => 0))), (q11, .inl (K 2, 4, .inl (fun _ => 0))), (q12, .inl (K 2, 4, .inl (fun _ => 0)))]) tyTM 0 F tyTM_ok nmTM rfl rfl inTM (by decide) rfl flM_44 rfl rfl rfl rfl (Nat.le_of_ble_eq_true rfl) dM_init_91 rfl ?_
  refine G.aload_n 0 F dM_init_94 rfl rfl ?_
  refine G.iconst 4 F dM_init_95 (by decide) ?_
  refine G.newa (atype := .int) (t0 := 2) (ty := .int) (a0 := (4, .inl (fun _ => 0))) (N' := 4) F ar_int rfl rfl (fun C h => by cases h) (fun cA => rfl) (by decide) (by decide) (by decide) ⟨by decide, by decide⟩ dM_init_96 (fun q13 => ?_)
  refine G.putf (k := 16) (v := .ref q13) (σ' := [(x, .inr (3, [.int 0, .int 0, .int 0, .int 0, .ref q1, .ref q2, .ref q3, .ref q4, .ref q5, .ref q6, .ref q7, .ref q8, .ref q9, .ref q10, .ref q11, .ref q12, .ref q13, .null, .null, .null, .null, .null, .null, .null])), (q1, .inl (K 2, 21, .inl (fun _ => 0))), (q2, .inl (K 2, 21, .inl (fun _ => 0))), (q3, .inl (K 2, 21, .inl (fun _ => 0))), (q4, .inl (K 3, 21, .inl (fun _ => 0))), (q5, .inl (K 2, 21, .inl (fun _ => 0))), (q6, .inl (K 2, 21, .inl (fun _ => 0))), (q7, .inl (K 2, 4, .inl (fun _ => 0))), (q8, .inl (K 2, 4, .inl (fun _ => 0))), (q9, .inl (K 2, 4, .inl (fun _ => 0))), (q10, .inl (K 2, 4, .inl (fun _ => 0))), (q11, .inl (K 2, 4, .inl (fun _ => 0))), (q12, .inl (K 2, 4, .inl (fun _ => 0))), (q13, .inl (K 2, 4, .inl (fun _ => 0)))]) tyTM 0 F tyTM_ok nmTM rfl rfl inTM (by decide) rfl flM_47 rfl rfl rfl rfl (Nat.le_of_ble_eq_true rfl) dM_init_98 rfl ?_
  refine G.aload_n 0 F dM_init_101 rfl rfl ?_
  refine G.iconst 4 F dM_init_102 (by decide) ?_
  refine G.newa (atype := .int) (t0 := 2) (ty := .int) (a0 := (4, .inl (fun _ => 0))) (N' := 4) F ar_int rfl rfl (fun C h => by cases h) (fun cA => rfl) (by decide) (by decide) (by decide) ⟨by decide, by decide⟩ dM_init_103 (fun q14 => ?_)
  refine G.putf (k := 17) (v := .ref q14) (σ' := [(x, .inr (3, [.int 0, .int 0, .int 0, .int 0, .ref q1, .ref q2, .ref q3, .ref q4, .ref q5, .ref q6, .ref q7, .ref q8, .ref q9, .ref q10, .ref q11, .ref q12, .ref q13, .ref q14, .null, .null, .null, .null, .null, .null])), (q1, .inl (K 2, 21, .inl (fun _ => 0))), (q2, .inl (K 2, 21, .inl (fun _ => 0))), (q3, .inl (K 2, 21, .inl (fun _ => 0))), (q4, .inl (K 3, 21, .inl (fun _ => 0))), (q5, .inl (K 2, 21, .inl (fun _ => 0))), (q6, .inl (K 2, 21, .inl (fun _ => 0))), (q7, .inl (K 2, 4, .inl (fun _ => 0))), (q8, .inl (K 2, 4, .inl (fun _ => 0))), (q9, .inl (K 2, 4, .inl (fun _ => 0))), (q10, .inl (K 2, 4, .inl (fun _ => 0))), (q11, .inl (K 2, 4, .inl (fun _ => 0))), (q12, .inl (K 2, 4, .inl (fun _ => 0))), (q13, .inl (K 2, 4, .inl (fun _ => 0))), (q14, .inl (K 2, 4, .inl (fun _ => 0)))]) tyTM 0 F tyTM_ok nmTM rfl rfl inTM (by decide) rfl flM_50 rfl rfl rfl rfl (Nat.le_of_ble_eq_true rfl) dM_init_105 rfl ?_
  refine G.aload_n 0 F dM_init_108 rfl rfl ?_
  refine G.iconst 4 F dM_init_109 (by decide) ?_
  refine G.newa (atype := .boolean) (t0 := 3) (ty := .boolean) (a0 := (4, .inl (fun _ => 0))) (N' := 4) F ar_boolean rfl rfl (fun C h => by cases h) (fun cA => rfl) (by decide) (by decide) (by decide) ⟨by decide, by decide⟩ dM_init_110 (fun q15 => ?_)
  refine G.putf (k := 18) (v := .ref q15) (σ' := [(x, .inr (3, [.int 0, .int 0, .int 0, .int 0, .ref q1, .ref q2, .ref q3, .ref q4, .ref q5, .ref q6, .ref q7, .ref q8, .ref q9, .ref q10, .ref q11, .ref q12, .ref q13, .ref q14, .ref q15, .null, .null, .null, .null, .null])), (q1, .inl (K 2, 21, .inl (fun _ => 0))), (q2, .inl (K 2, 21, .inl (fun _ => 0))), (q3, .inl (K 2, 21, .inl (fun _ => 0))), (q4, .inl (K 3, 21, .inl (fun _ => 0))), (q5, .inl (K 2, 21, .inl (fun _ => 0))), (q6, .inl (K 2, 21, .inl (fun _ => 0))), (q7, .inl (K 2, 4, .inl (fun _ => 0))), (q8, .inl (K 2, 4, .inl (fun _ => 0))), (q9, .inl (K 2, 4, .inl (fun _ => 0))), (q10, .inl (K 2, 4, .inl (fun _ => 0))), (q11, .inl (K 2, 4, .inl (fun _ => 0))), (q12, .inl (K 2, 4, .inl (fun _ => 0))), (q13, .inl (K 2, 4, .inl (fun _ => 0))), (q14, .inl (K 2, 4, .inl (fun _ => 0))), (q15, .inl (K 3, 4, .inl (fun _ => 0)))]) tyTM 0 F tyTM_ok nmTM rfl rfl inTM (by decide) rfl flM_53 rfl rfl rfl rfl (Nat.le_of_ble_eq_true rfl) dM_init_112 rfl ?_
  refine G.aload_n 0 F dM_init_115 rfl rfl ?_
  refine G.iconst 4 F dM_init_116 (by decide) ?_
  refine G.newa (atype := .int) (t0 := 2) (ty := .int) (a0 := (4, .inl (fun _ => 0))) (N' := 4) F ar_int rfl rfl (fun C h => by cases h) (fun cA => rfl) (by decide) (by decide) (by decide) ⟨by decide, by decide⟩ dM_init_117 (fun q16 => ?_)
  refine G.putf (k := 19) (v := .ref q16) (σ' := [(x, .inr (3, [.int 0, .int 0, .int 0, .int 0, .ref q1, .ref q2, .ref q3, .ref q4, .ref q5, .ref q6, .ref q7, .ref q8, .ref q9, .ref q10, .ref q11, .ref q12, .ref q13, .ref q14, .ref q15, .ref q16, .null, .null, .null, .null])), (q1, .inl (K 2, 21, .inl (fun _ => 0))), (q2, .inl (K 2, 21, .inl (fun _ => 0))), (q3, .inl (K 2, 21, .inl (fun _ => 0))), (q4, .inl (K 3, 21, .inl (fun _ => 0))), (q5, .inl (K 2, 21, .inl (fun _ => 0))), (q6, .inl (K 2, 21, .inl (fun _ => 0))), (q7, .inl (K 2, 4, .inl (fun _ => 0))), (q8, .inl (K 2, 4, .inl (fun _ => 0))), (q9, .inl (K 2, 4, .inl (fun _ => 0))), (q10, .inl (K 2, 4, .inl (fun _ => 0))), (q11, .inl (K 2, 4, .inl (fun _ => 0))), (q12, .inl (K 2, 4, .inl (fun _ => 0))), (q13, .inl (K 2, 4, .inl (fun _ => 0))), (q14, .inl (K 2, 4, .inl (fun _ => 0))), (q15, .inl (K 3, 4, .inl (fun _ => 0))), (q16, .inl (K 2, 4, .inl (fun _ => 0)))]) tyTM 0 F tyTM_ok nmTM rfl rfl inTM (by decide) rfl flM_56 rfl rfl rfl rfl (Nat.le_of_ble_eq_true rfl) dM_init_119 rfl ?_
  refine G.aload_n 0 F dM_init_122 rfl rfl ?_
  refine G.iconst 4 F dM_init_123 (by decide) ?_
  refine G.newa (atype := .int) (t0 := 2) (ty := .int) (a0 := (4, .inl (fun _ => 0))) (N' := 4) F ar_int rfl rfl (fun C h => by cases h) (fun cA => rfl) (by decide) (by decide) (by decide) ⟨by decide, by decide⟩ dM_init_124 (fun q17 => ?_)
  refine G.putf (k := 20) (v := .ref q17) (σ' := [(x, .inr (3, [.int 0, .int 0, .int 0, .int 0, .ref q1, .ref q2, .ref q3, .ref q4, .ref q5, .ref q6, .ref q7, .ref q8, .ref q9, .ref q10, .ref q11, .ref q12, .ref q13, .ref q14, .ref q15, .ref q16, .ref q17, .null, .null, .null])), (q1, .inl (K 2, 21, .inl (fun _ => 0))), (q2, .inl (K 2, 21, .inl (fun _ => 0))), (q3, .inl (K 2, 21, .inl (fun _ => 0))), (q4, .inl (K 3, 21, .inl (fun _ => 0))), (q5, .inl (K 2, 21, .inl (fun _ => 0))), (q6, .inl (K 2, 21, .inl (fun _ => 0))), (q7, .inl (K 2, 4, .inl (fun _ => 0))), (q8, .inl (K 2, 4, .inl (fun _ => 0))), (q9, .inl (K 2, 4, .inl (fun _ => 0))), (q10, .inl (K 2, 4, .inl (fun _ => 0))), (q11, .inl (K 2, 4, .inl (fun _ => 0))), (q12, .inl (K 2, 4, .inl (fun _ => 0))), (q13, .inl (K 2, 4, .inl (fun _ => 0))), (q14, .inl (K 2, 4, .inl (fun _ => 0))), (q15, .inl (K 3, 4, .inl (fun _ => 0))), (q16, .inl (K 2, 4, .inl (fun _ => 0))), (q17, .inl (K 2, 4, .inl (fun _ => 0)))]) tyTM 0 F tyTM_ok nmTM rfl rfl inTM (by decide) rfl flM_59 rfl rfl rfl rfl (Nat.le_of_ble_eq_true rfl) dM_init_126 rfl ?_
  refine G.aload_n 0 F dM_init_129 rfl rfl ?_
  refine G.iconst 4 F dM_init_130 (by decide) ?_
  refine G.newa (atype := .int) (t0 := 2) (ty := .int) (a0 := (4, .inl (fun _ => 0))) (N' := 4) F ar_int rfl rfl (fun C h => by cases h) (fun cA => rfl) (by decide) (by decide) (by decide) ⟨by decide, by decide⟩ dM_init_131 (fun q18 => ?_)
  refine G.putf (k := 21) (v := .ref q18) (σ' := [(x, .inr (3, [.int 0, .int 0, .int 0, .int 0, .ref q1, .ref q2, .ref q3, .ref q4, .ref q5, .ref q6, .ref q7, .ref q8, .ref q9, .ref q10, .ref q11, .ref q12, .ref q13, .ref q14, .ref q15, .ref q16, .ref q17, .ref q18, .null, .null])), (q1, .inl (K 2, 21, .inl (fun _ => 0))), (q2, .inl (K 2, 21, .inl (fun _ => 0))), (q3, .inl (K 2, 21, .inl (fun _ => 0))), (q4, .inl (K 3, 21, .inl (fun _ => 0))), (q5, .inl (K 2, 21, .inl (fun _ => 0))), (q6, .inl (K 2, 21, .inl (fun _ => 0))), (q7, .inl (K 2, 4, .inl (fun _ => 0))), (q8, .inl (K 2, 4, .inl (fun _ => 0))), (q9, .inl (K 2, 4, .inl (fun _ => 0))), (q10, .inl (K 2, 4, .inl (fun _ => 0))), (q11, .inl (K 2, 4, .inl (fun _ => 0))), (q12, .inl (K 2, 4, .inl (fun _ => 0))), (q13, .inl (K 2, 4, .inl (fun _ => 0))), (q14, .inl (K 2, 4, .inl (fun _ => 0))), (q15, .inl (K 3, 4, .inl (fun _ => 0))), (q16, .inl (K 2, 4, .inl (fun _ => 0))), (q17, .inl (K 2, 4, .inl (fun _ => 0))), (q18, .inl (K 2, 4, .inl (fun _ => 0)))]) tyTM 0 F tyTM_ok nmTM rfl rfl inTM (by decide) rfl flM_62 rfl rfl rfl rfl (Nat.le_of_ble_eq_true rfl) dM_init_133 rfl ?_
  refine G.aload_n 0 F dM_init_136 rfl rfl ?_
  refine G.iconst 4 F dM_init_137 (by decide) ?_
  refine G.newa (atype := .int) (t0 := 2) (ty := .int) (a0 := (4, .inl (fun _ => 0))) (N' := 4) F ar_int rfl rfl (fun C h => by cases h) (fun cA => rfl) (by decide) (by decide) (by decide) ⟨by decide, by decide⟩ dM_init_138 (fun q19 => ?_)
  refine G.putf (k := 22) (v := .ref q19) (σ' := [(x, .inr (3, [.int 0, .int 0, .int 0, .int 0, .ref q1, .ref q2, .ref q3, .ref q4, .ref q5, .ref q6, .ref q7, .ref q8, .ref q9, .ref q10, .ref q11, .ref q12, .ref q13, .ref q14, .ref q15, .ref q16, .ref q17, .ref q18, .ref q19, .null])), (q1, .inl (K 2, 21, .inl (fun _ => 0))), (q2, .inl (K 2, 21, .inl (fun _ => 0))), (q3, .inl (K 2, 21, .inl (fun _ => 0))), (q4, .inl (K 3, 21, .inl (fun _ => 0))), (q5, .inl (K 2, 21, .inl (fun _ => 0))), (q6, .inl (K 2, 21, .inl (fun _ => 0))), (q7, .inl (K 2, 4, .inl (fun _ => 0))), (q8, .inl (K 2, 4, .inl (fun _ => 0))), (q9, .inl (K 2, 4, .inl (fun _ => 0))), (q10, .inl (K 2, 4, .inl (fun _ => 0))), (q11, .inl (K 2, 4, .inl (fun _ => 0))), (q12, .inl (K 2, 4, .inl (fun _ => 0))), (q13, .inl (K 2, 4, .inl (fun _ => 0))), (q14, .inl (K 2, 4, .inl (fun _ => 0))), (q15, .inl (K 3, 4, .inl (fun _ => 0))), (q16, .inl (K 2, 4, .inl (fun _ => 0))), (q17, .inl (K 2, 4, .inl (fun _ => 0))), (q18, .inl (K 2, 4, .inl (fun _ => 0))), (q19, .inl (K 2, 4, .inl (fun _ => 0)))]) tyTM 0 F tyTM_ok nmTM rfl rfl inTM (by decide) rfl flM_65 rfl rfl rfl rfl (Nat.le_of_ble_eq_true rfl) dM_init_140 rfl ?_
  refine G.aload_n 0 F dM_init_143 rfl rfl ?_
  refine G.bipush 8 F dM_init_144 (by decide) ?_
  refine G.newa (atype := .int) (t0 := 2) (ty := .int) (a0 := (8, .inl (fun _ => 0))) (N' := 8) F ar_int rfl rfl (fun C h => by cases h) (fun cA => rfl) (by decide) (by decide) (by decide) ⟨by decide, by decide⟩ dM_init_146 (fun q20 => ?_)
  refine G.putf (k := 23) (v := .ref q20) (σ' := [(x, .inr (3, [.int 0, .int 0, .int 0, .int 0, .ref q1, .ref q2, .ref q3, .ref q4, .ref q5, .ref q6, .ref q7, .ref q8, .ref q9, .ref q10, .ref q11, .ref q12, .ref q13, .ref q14, .ref q15, .ref q16, .ref q17, .ref q18, .ref q19, .ref q20])), (q1, .inl (K 2, 21, .inl (fun _ => 0))), (q2, .inl (K 2, 21, .inl (fun _ => 0))), (q3, .inl (K 2, 21, .inl (fun _ => 0))), (q4, .inl (K 3, 21, .inl (fun _ => 0))), (q5, .inl (K 2, 21, .inl (fun _ => 0))), (q6, .inl (K 2, 21, .inl (fun _ => 0))), (q7, .inl (K 2, 4, .inl (fun _ => 0))), (q8, .inl (K 2, 4, .inl (fun _ => 0))), (q9, .inl (K 2, 4, .inl (fun _ => 0))), (q10, .inl (K 2, 4, .inl (fun _ => 0))), (q11, .inl (K 2, 4, .inl (fun _ => 0))), (q12, .inl (K 2, 4, .inl (fun _ => 0))), (q13, .inl (K 2, 4, .inl (fun _ => 0))), (q14, .inl (K 2, 4, .inl (fun _ => 0))), (q15, .inl (K 3, 4, .inl (fun _ => 0))), (q16, .inl (K 2, 4, .inl (fun _ => 0))), (q17, .inl (K 2, 4, .inl (fun _ => 0))), (q18, .inl (K 2, 4, .inl (fun _ => 0))), (q19, .inl (K 2, 4, .inl (fun _ => 0))), (q20, .inl (K 2, 8, .inl (fun _ => 0)))]) tyTM 0 F tyTM_ok nmTM rfl rfl inTM (by decide) rfl flM_68 rfl rfl rfl rfl (Nat.le_of_ble_eq_true rfl) dM_init_148 rfl ?_
  have hY : ((fun i => match i with | 0 => x | 1 => q1 | 2 => q2 | 3 => q3 | 4 => q4 | 5 => q5 | 6 => q6 | 7 => q7 | 8 => q8 | 9 => q9 | 10 => q10 | 11 => q11 | 12 => q12 | 13 => q13 | 14 => q14 | 15 => q15 | 16 => q16 | 17 => q17 | 18 => q18 | 19 => q19 | 20 => q20 | _ => 0) : Nat → Nat) 0 = x := rfl
  refine (?_ : G κ l rmM A Q D 3 20 186 (mW (fun i => match i with | 0 => x | 1 => q1 | 2 => q2 | 3 => q3 | 4 => q4 | 5 => q5 | 6 => q6 | 7 => q7 | 8 => q8 | 9 => q9 | 10 => q10 | 11 => q11 | 12 => q12 | 13 => q13 | 14 => q14 | 15 => q15 | 16 => q16 | 17 => q17 | 18 => q18 | 19 => q19 | 20 => q20 | _ => 0) K (mI 0 0)) 151 [(0, .ref x), (1, .int v)] [])
  generalize ((fun i => match i with | 0 => x | 1 => q1 | 2 => q2 | 3 => q3 | 4 => q4 | 5 => q5 | 6 => q6 | 7 => q7 | 8 => q8 | 9 => q9 | 10 => q10 | 11 => q11 | 12 => q12 | 13 => q13 | 14 => q14 | 15 => q15 | 16 => q16 | 17 => q17 | 18 => q18 | 19 => q19 | 20 => q20 | _ => 0) : Nat → Nat) = Y at hY
  refine G.aload_n 0 F dM_init_151 rfl rfl ?_
  refine G.iload_n 1 F dM_init_152 rfl rfl ?_
  refine G.iconst 1 F dM_init_153 (by decide) ?_
  refine G.icmp_eq 162 F dM_init_154 rfl (fun h1 => ?_) (fun h1 => ?_)
  · refine G.iload_n 1 F dM_init_162 rfl rfl ?_
    refine G.goto 167 F dM_init_163 rfl ?_
    exact cont v Y (if_pos h1).symm hY
  · refine G.iload_n 1 F dM_init_157 rfl rfl ?_
    refine G.iconst 2 F dM_init_158 (by decide) ?_
    refine G.icmp_ne 166 F dM_init_159 rfl (fun h2 => ?_) (fun h2 => ?_)
    · refine G.iconst 0 F dM_init_166 (by decide) ?_
      exact cont 0 Y ((if_neg h1).trans (if_neg h2)).symm hY
    · refine G.iload_n 1 F dM_init_162 rfl rfl ?_
      refine G.goto 167 F dM_init_163 rfl ?_
      exact cont v Y ((if_neg h1).trans (if_pos h2)).symm hY

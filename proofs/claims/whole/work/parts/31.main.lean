-- ===== the law's loop =====
abbrev LL (b : Nat) (X Y : Nat → Nat) (o i : Nat) : List (Nat × Value) := [(4, .int (nI i)), (3, .ref o), (2, .ref (Y 0)), (1, .ref (X 0)), (0, .ref b)]
abbrev WW (X Y : Nat → Nat) (K : Nat → ClassId) (o : Nat) (c m : CS) (v : Nat → Int64) : va_W := mW Y K m ++ (cW X K c ++ oW o K v)
def Nxt (κ : KM) (l : Launch) (A : Nat → Prop) (Q : State → Prop) (D : va_G) (K : Nat → ClassId) (b : Nat) (X Y : Nat → Nat) (o i j : Nat) : Prop :=
  ∀ (c' m' : CS) (v' : Nat → Int64) (cl sl : Nat), cl ≤ 51 + j → sl ≤ 437 + 6 * j → Rel (j + 1) c' m' → Inv c' → InvM m' → G κ l room_1 A Q D 7 cl sl (WW X Y K o c' m' v') 779 (LL b X Y o i) []
theorem WW_o {X Y : Nat → Nat} {K : Nat → ClassId} {o : Nat} {c m : CS} {v : Nat → Int64} : WW X Y K o c m v = (mW Y K m ++ cW X K c) ++ oW o K v := (List.append_assoc ..).symm
theorem WW_l {X Y : Nat → Nat} {K : Nat → ClassId} {c m : CS} : (mW Y K m ++ cW X K c).length = 49 := by
  rw [List.length_append]
  unfold mW cW
  rw [gW_len, gW_len]
theorem WW_n {α β : va_W} : α ++ β = α ++ (β ++ []) := by rw [List.append_nil]
section MAIN
variable {κ : KM} {l : Launch} {A : Nat → Prop} {Q : State → Prop} {D : va_G} {K : Nat → ClassId} {base : Nat} {b N : Nat} {xs : Nat → Int32} {X Y : Nat → Nat} {o i j : Nat} {c m : CS} {v : Nat → Int64}
set_option maxRecDepth 100000 in
set_option maxHeartbeats 4000000 in
theorem tl_begin (F : Fx κ A D K base code RL 7) (hX : va_X b N xs κ.2.2.1 κ.2.2.1.heap) (hbb : b < base) (hN : N ≤ 2049) (hi : i + 4 ≤ N) (hj : j ≤ 600) {k : Int32} {c' m' : CS} {v' : Nat → Int64} {cl sl : Nat} (hcl : cl ≤ 51 + j) (hsl : sl ≤ 437 + 6 * j) (hc : CtV l D K base yM_begin cM_begin 4 (rmD 1) [.ref (Y 0), .int (xs (i + 1)), .int (xs (i + 2)), .int (xs (i + 3))] (mW Y K m) (mW Y K m')) (hM' : InvM m') (ht : m' 20 0 = k) (nx : G κ l room_1 A Q D 7 cl sl (WW X Y K o c' m' v') 779 (LL b X Y o i) []) : G κ l room_1 A Q D 7 cl sl (WW X Y K o c' m v') 142 (LL b X Y o i) [.int k] := by
  refine G.istoreN F dL_law_142 (by decide) rfl ?_
  refine G.aload_n 3 F dL_law_144 rfl rfl ?_
  refine G.arg 1 5 1 F hX hbb rfl rfl (by omega) hN rfl dL_law_145 dL_law_146 dL_law_148 dL_law_149 dL_law_150 ?_
  refine G.arg 2 5 1 F hX hbb rfl rfl (by omega) hN rfl dL_law_151 dL_law_152 dL_law_154 dL_law_155 dL_law_156 ?_
  refine G.arg 3 5 1 F hX hbb rfl rfl (by omega) hN rfl dL_law_157 dL_law_158 dL_law_160 dL_law_161 dL_law_162 ?_
  refine G.callFv (q0 := 0) (ci := 3) [] (cW X K c' ++ oW o K v') F hc rfl rfl ckL_68 mW_m rfl rfl ⟨rfl, rfl⟩ ⟨by decide, by decide⟩ ⟨by show cl ≤ 663151; omega, by show sl ≤ 7106618; omega⟩ rfl rfl (Nat.le_of_ble_eq_true rfl) dL_law_163 ?_
  refine G.aload_n 3 F dL_law_166 rfl rfl ?_
  refine G.callFi (q0 := 0) (ci := 3) [] (cW X K c' ++ oW o K v') F (k_m_thrown l D K base Y m' hM') rfl rfl ckL_69 mW_m rfl rfl ⟨rfl, rfl⟩ ⟨by decide, by decide⟩ ⟨by show cl ≤ 663151; omega, by show sl ≤ 7106618; omega⟩ rfl rfl (Nat.le_of_ble_eq_true rfl) dL_law_167 ?_
  refine G.iload 0 F dL_law_170 rfl ?_
  refine G.icmp_eq 177 F dL_law_172 rfl (fun _ => ?_) (fun h => absurd ht h)
  refine G.goto 779 F dL_law_177 rfl ?_
  exact G.drop nx
set_option maxRecDepth 100000 in
set_option maxHeartbeats 4000000 in
theorem tl_step (F : Fx κ A D K base code RL 7) (hX : va_X b N xs κ.2.2.1 κ.2.2.1.heap) (hbb : b < base) (hN : N ≤ 2049) (hi : i + 4 ≤ N) (hj : j ≤ 600) {r k : Int32} {c' m' : CS} {v' : Nat → Int64} {cl sl : Nat} (hcl : cl ≤ 51 + j) (hsl : sl ≤ 437 + 6 * j) (hc : CtI l D K base yM_step cM_step 2 .int (rmD 5) [.ref (Y 0), .int (xs (i + 1))] (mW Y K m) r (mW Y K m')) (hM' : InvM m') (ht : m' 20 0 = k) (hk : k = 0 → v' 0 = r.toInt64) (nx : G κ l room_1 A Q D 7 cl sl (WW X Y K o c' m' v') 779 (LL b X Y o i) []) : G κ l room_1 A Q D 7 cl sl (WW X Y K o c' m v') 191 (LL b X Y o i) [.int k] := by
  refine G.istoreN F dL_law_191 (by decide) rfl ?_
  refine G.aload_n 3 F dL_law_193 rfl rfl ?_
  refine G.arg 1 5 1 F hX hbb rfl rfl (by omega) hN rfl dL_law_194 dL_law_195 dL_law_197 dL_law_198 dL_law_199 ?_
  refine G.callFi (q0 := 0) (ci := 3) [] (cW X K c' ++ oW o K v') F hc rfl rfl ckL_76 mW_m rfl rfl ⟨rfl, rfl⟩ ⟨by decide, by decide⟩ ⟨by show cl ≤ 663151; omega, by show sl ≤ 7106618; omega⟩ rfl rfl (Nat.le_of_ble_eq_true rfl) dL_law_200 ?_
  refine G.istoreN F dL_law_203 (by decide) rfl ?_
  refine G.aload_n 4 F dL_law_205 rfl rfl ?_
  refine G.callFi (q0 := 0) (ci := 3) [] (cW X K c' ++ oW o K v') F (k_m_thrown l D K base Y m' hM') rfl rfl ckL_69 mW_m rfl rfl ⟨rfl, rfl⟩ ⟨by decide, by decide⟩ ⟨by show cl ≤ 663151; omega, by show sl ≤ 7106618; omega⟩ rfl rfl (Nat.le_of_ble_eq_true rfl) dL_law_206 ?_
  refine G.iload 1 F dL_law_209 rfl ?_
  refine G.icmp_eq 216 F dL_law_211 rfl (fun _ => ?_) (fun h => absurd ht h)
  refine G.iload 1 F dL_law_216 rfl ?_
  refine G.if_ne 233 F dL_law_218 rfl (fun h => ?_) (fun h => ?_)
  · refine G.goto 779 F dL_law_233 rfl ?_
    exact G.drop (G.drop nx)
  · refine G.aload_n 3 F dL_law_221 rfl rfl ?_
    refine G.iconst 0 F dL_law_222 (by decide) ?_
    refine G.ldO (mW Y K m' ++ cW X K c') 49 F WW_o WW_l rfl dL_law_223 ?_
    refine G.iload 0 F dL_law_224 rfl ?_
    refine G.i2l F dL_law_226 ?_
    refine G.lcmp F dL_law_227 ?_
    refine G.if_eq 233 F dL_law_228 rfl (fun _ => ?_) (fun h1 => absurd (by rw [hk h]; exact cmp_self _) h1)
    refine G.goto 779 F dL_law_233 rfl ?_
    exact G.drop (G.drop nx)
set_option maxRecDepth 100000 in
set_option maxHeartbeats 4000000 in
theorem tl_finish (F : Fx κ A D K base code RL 7) (hX : va_X b N xs κ.2.2.1 κ.2.2.1.heap) (hbb : b < base) (hN : N ≤ 2049) (hi : i + 4 ≤ N) (hj : j ≤ 600) {r k : Int32} {c' m' : CS} {v' : Nat → Int64} {cl sl : Nat} (hcl : cl ≤ 51 + j) (hsl : sl ≤ 437 + 6 * j) (hc : CtI l D K base yM_finish cM_finish 3 .int (rmD 5) [.ref (Y 0), .int (xs (i + 1))] (mW Y K m) r (mW Y K m')) (hM' : InvM m') (ht : m' 20 0 = k) (hk : k = 0 → v' 0 = r.toInt64) (nx : G κ l room_1 A Q D 7 cl sl (WW X Y K o c' m' v') 779 (LL b X Y o i) []) : G κ l room_1 A Q D 7 cl sl (WW X Y K o c' m v') 247 (LL b X Y o i) [.int k] := by
  refine G.istoreN F dL_law_247 (by decide) rfl ?_
  refine G.aload_n 3 F dL_law_249 rfl rfl ?_
  refine G.arg 1 5 1 F hX hbb rfl rfl (by omega) hN rfl dL_law_250 dL_law_251 dL_law_253 dL_law_254 dL_law_255 ?_
  refine G.callFi (q0 := 0) (ci := 3) [] (cW X K c' ++ oW o K v') F hc rfl rfl ckL_79 mW_m rfl rfl ⟨rfl, rfl⟩ ⟨by decide, by decide⟩ ⟨by show cl ≤ 663151; omega, by show sl ≤ 7106618; omega⟩ rfl rfl (Nat.le_of_ble_eq_true rfl) dL_law_256 ?_
  refine G.istoreN F dL_law_259 (by decide) rfl ?_
  refine G.aload_n 4 F dL_law_261 rfl rfl ?_
  refine G.callFi (q0 := 0) (ci := 3) [] (cW X K c' ++ oW o K v') F (k_m_thrown l D K base Y m' hM') rfl rfl ckL_69 mW_m rfl rfl ⟨rfl, rfl⟩ ⟨by decide, by decide⟩ ⟨by show cl ≤ 663151; omega, by show sl ≤ 7106618; omega⟩ rfl rfl (Nat.le_of_ble_eq_true rfl) dL_law_262 ?_
  refine G.iload 1 F dL_law_265 rfl ?_
  refine G.icmp_eq 272 F dL_law_267 rfl (fun _ => ?_) (fun h => absurd ht h)
  refine G.iload 1 F dL_law_272 rfl ?_
  refine G.if_ne 289 F dL_law_274 rfl (fun h => ?_) (fun h => ?_)
  · refine G.goto 779 F dL_law_289 rfl ?_
    exact G.drop (G.drop nx)
  · refine G.aload_n 3 F dL_law_277 rfl rfl ?_
    refine G.iconst 0 F dL_law_278 (by decide) ?_
    refine G.ldO (mW Y K m' ++ cW X K c') 49 F WW_o WW_l rfl dL_law_279 ?_
    refine G.iload 0 F dL_law_280 rfl ?_
    refine G.i2l F dL_law_282 ?_
    refine G.lcmp F dL_law_283 ?_
    refine G.if_eq 289 F dL_law_284 rfl (fun _ => ?_) (fun h1 => absurd (by rw [hk h]; exact cmp_self _) h1)
    refine G.goto 779 F dL_law_289 rfl ?_
    exact G.drop (G.drop nx)
set_option maxRecDepth 100000 in
set_option maxHeartbeats 4000000 in
theorem tl_result (F : Fx κ A D K base code RL 7) (hX : va_X b N xs κ.2.2.1 κ.2.2.1.heap) (hbb : b < base) (hN : N ≤ 2049) (hi : i + 4 ≤ N) (hj : j ≤ 600) {r k : Int32} {c' m' : CS} {v' : Nat → Int64} {cl sl : Nat} (hcl : cl ≤ 51 + j) (hsl : sl ≤ 437 + 6 * j) (hc : CtI l D K base yM_result cM_result 2 .int (rmD 1) [.ref (Y 0), .int (xs (i + 1))] (mW Y K m) r (mW Y K m')) (hM' : InvM m') (ht : m' 20 0 = k) (hk : k = 0 → v' 0 = r.toInt64) (nx : G κ l room_1 A Q D 7 cl sl (WW X Y K o c' m' v') 779 (LL b X Y o i) []) : G κ l room_1 A Q D 7 cl sl (WW X Y K o c' m v') 303 (LL b X Y o i) [.int k] := by
  refine G.istoreN F dL_law_303 (by decide) rfl ?_
  refine G.aload_n 3 F dL_law_305 rfl rfl ?_
  refine G.arg 1 5 1 F hX hbb rfl rfl (by omega) hN rfl dL_law_306 dL_law_307 dL_law_309 dL_law_310 dL_law_311 ?_
  refine G.callFi (q0 := 0) (ci := 3) [] (cW X K c' ++ oW o K v') F hc rfl rfl ckL_82 mW_m rfl rfl ⟨rfl, rfl⟩ ⟨by decide, by decide⟩ ⟨by show cl ≤ 663151; omega, by show sl ≤ 7106618; omega⟩ rfl rfl (Nat.le_of_ble_eq_true rfl) dL_law_312 ?_
  refine G.istoreN F dL_law_315 (by decide) rfl ?_
  refine G.aload_n 4 F dL_law_317 rfl rfl ?_
  refine G.callFi (q0 := 0) (ci := 3) [] (cW X K c' ++ oW o K v') F (k_m_thrown l D K base Y m' hM') rfl rfl ckL_69 mW_m rfl rfl ⟨rfl, rfl⟩ ⟨by decide, by decide⟩ ⟨by show cl ≤ 663151; omega, by show sl ≤ 7106618; omega⟩ rfl rfl (Nat.le_of_ble_eq_true rfl) dL_law_318 ?_
  refine G.iload 1 F dL_law_321 rfl ?_
  refine G.icmp_eq 328 F dL_law_323 rfl (fun _ => ?_) (fun h => absurd ht h)
  refine G.iload 1 F dL_law_328 rfl ?_
  refine G.if_ne 345 F dL_law_330 rfl (fun h => ?_) (fun h => ?_)
  · refine G.goto 779 F dL_law_345 rfl ?_
    exact G.drop (G.drop nx)
  · refine G.aload_n 3 F dL_law_333 rfl rfl ?_
    refine G.iconst 0 F dL_law_334 (by decide) ?_
    refine G.ldO (mW Y K m' ++ cW X K c') 49 F WW_o WW_l rfl dL_law_335 ?_
    refine G.iload 0 F dL_law_336 rfl ?_
    refine G.i2l F dL_law_338 ?_
    refine G.lcmp F dL_law_339 ?_
    refine G.if_eq 345 F dL_law_340 rfl (fun _ => ?_) (fun h1 => absurd (by rw [hk h]; exact cmp_self _) h1)
    refine G.goto 779 F dL_law_345 rfl ?_
    exact G.drop (G.drop nx)
set_option maxRecDepth 100000 in
set_option maxHeartbeats 4000000 in
theorem tl_at (F : Fx κ A D K base code RL 7) (hX : va_X b N xs κ.2.2.1 κ.2.2.1.heap) (hbb : b < base) (hN : N ≤ 2049) (hi : i + 4 ≤ N) (hj : j ≤ 600) {r k : Int32} {c' m' : CS} {v' : Nat → Int64} {cl sl : Nat} (hcl : cl ≤ 51 + j) (hsl : sl ≤ 437 + 6 * j) (hc : CtI l D K base yM_at cM_at 2 .int (rmD 1) [.ref (Y 0), .int (xs (i + 1))] (mW Y K m) r (mW Y K m')) (hM' : InvM m') (ht : m' 20 0 = k) (hk : k = 0 → v' 0 = r.toInt64) (nx : G κ l room_1 A Q D 7 cl sl (WW X Y K o c' m' v') 779 (LL b X Y o i) []) : G κ l room_1 A Q D 7 cl sl (WW X Y K o c' m v') 359 (LL b X Y o i) [.int k] := by
  refine G.istoreN F dL_law_359 (by decide) rfl ?_
  refine G.aload_n 3 F dL_law_361 rfl rfl ?_
  refine G.arg 1 5 1 F hX hbb rfl rfl (by omega) hN rfl dL_law_362 dL_law_363 dL_law_365 dL_law_366 dL_law_367 ?_
  refine G.callFi (q0 := 0) (ci := 3) [] (cW X K c' ++ oW o K v') F hc rfl rfl ckL_85 mW_m rfl rfl ⟨rfl, rfl⟩ ⟨by decide, by decide⟩ ⟨by show cl ≤ 663151; omega, by show sl ≤ 7106618; omega⟩ rfl rfl (Nat.le_of_ble_eq_true rfl) dL_law_368 ?_
  refine G.istoreN F dL_law_371 (by decide) rfl ?_
  refine G.aload_n 4 F dL_law_373 rfl rfl ?_
  refine G.callFi (q0 := 0) (ci := 3) [] (cW X K c' ++ oW o K v') F (k_m_thrown l D K base Y m' hM') rfl rfl ckL_69 mW_m rfl rfl ⟨rfl, rfl⟩ ⟨by decide, by decide⟩ ⟨by show cl ≤ 663151; omega, by show sl ≤ 7106618; omega⟩ rfl rfl (Nat.le_of_ble_eq_true rfl) dL_law_374 ?_
  refine G.iload 1 F dL_law_377 rfl ?_
  refine G.icmp_eq 384 F dL_law_379 rfl (fun _ => ?_) (fun h => absurd ht h)
  refine G.iload 1 F dL_law_384 rfl ?_
  refine G.if_ne 401 F dL_law_386 rfl (fun h => ?_) (fun h => ?_)
  · refine G.goto 779 F dL_law_401 rfl ?_
    exact G.drop (G.drop nx)
  · refine G.aload_n 3 F dL_law_389 rfl rfl ?_
    refine G.iconst 0 F dL_law_390 (by decide) ?_
    refine G.ldO (mW Y K m' ++ cW X K c') 49 F WW_o WW_l rfl dL_law_391 ?_
    refine G.iload 0 F dL_law_392 rfl ?_
    refine G.i2l F dL_law_394 ?_
    refine G.lcmp F dL_law_395 ?_
    refine G.if_eq 401 F dL_law_396 rfl (fun _ => ?_) (fun h1 => absurd (by rw [hk h]; exact cmp_self _) h1)
    refine G.goto 779 F dL_law_401 rfl ?_
    exact G.drop (G.drop nx)
set_option maxRecDepth 100000 in
set_option maxHeartbeats 4000000 in
theorem tl_known (F : Fx κ A D K base code RL 7) (hX : va_X b N xs κ.2.2.1 κ.2.2.1.heap) (hbb : b < base) (hN : N ≤ 2049) (hi : i + 4 ≤ N) (hj : j ≤ 600) {r k : Int32} {c' m' : CS} {v' : Nat → Int64} {cl sl : Nat} (hcl : cl ≤ 51 + j) (hsl : sl ≤ 437 + 6 * j) (hc : CtI l D K base yM_known cM_known 3 .int (rmD 1) [.ref (Y 0), .int (xs (i + 1)), .int (xs (i + 2))] (mW Y K m) r (mW Y K m')) (hM' : InvM m') (ht : m' 20 0 = k) (hk : k = 0 → v' 0 = r.toInt64) (nx : G κ l room_1 A Q D 7 cl sl (WW X Y K o c' m' v') 779 (LL b X Y o i) []) : G κ l room_1 A Q D 7 cl sl (WW X Y K o c' m v') 421 (LL b X Y o i) [.int k] := by
  refine G.istoreN F dL_law_421 (by decide) rfl ?_
  refine G.aload_n 3 F dL_law_423 rfl rfl ?_
  refine G.arg 1 5 1 F hX hbb rfl rfl (by omega) hN rfl dL_law_424 dL_law_425 dL_law_427 dL_law_428 dL_law_429 ?_
  refine G.arg 2 5 1 F hX hbb rfl rfl (by omega) hN rfl dL_law_430 dL_law_431 dL_law_433 dL_law_434 dL_law_435 ?_
  refine G.callFi (q0 := 0) (ci := 3) [] (cW X K c' ++ oW o K v') F hc rfl rfl ckL_89 mW_m rfl rfl ⟨rfl, rfl⟩ ⟨by decide, by decide⟩ ⟨by show cl ≤ 663151; omega, by show sl ≤ 7106618; omega⟩ rfl rfl (Nat.le_of_ble_eq_true rfl) dL_law_436 ?_
  refine G.istoreN F dL_law_439 (by decide) rfl ?_
  refine G.aload_n 4 F dL_law_441 rfl rfl ?_
  refine G.callFi (q0 := 0) (ci := 3) [] (cW X K c' ++ oW o K v') F (k_m_thrown l D K base Y m' hM') rfl rfl ckL_69 mW_m rfl rfl ⟨rfl, rfl⟩ ⟨by decide, by decide⟩ ⟨by show cl ≤ 663151; omega, by show sl ≤ 7106618; omega⟩ rfl rfl (Nat.le_of_ble_eq_true rfl) dL_law_442 ?_
  refine G.iload 1 F dL_law_445 rfl ?_
  refine G.icmp_eq 452 F dL_law_447 rfl (fun _ => ?_) (fun h => absurd ht h)
  refine G.iload 1 F dL_law_452 rfl ?_
  refine G.if_ne 469 F dL_law_454 rfl (fun h => ?_) (fun h => ?_)
  · refine G.goto 779 F dL_law_469 rfl ?_
    exact G.drop (G.drop nx)
  · refine G.aload_n 3 F dL_law_457 rfl rfl ?_
    refine G.iconst 0 F dL_law_458 (by decide) ?_
    refine G.ldO (mW Y K m' ++ cW X K c') 49 F WW_o WW_l rfl dL_law_459 ?_
    refine G.iload 0 F dL_law_460 rfl ?_
    refine G.i2l F dL_law_462 ?_
    refine G.lcmp F dL_law_463 ?_
    refine G.if_eq 469 F dL_law_464 rfl (fun _ => ?_) (fun h1 => absurd (by rw [hk h]; exact cmp_self _) h1)
    refine G.goto 779 F dL_law_469 rfl ?_
    exact G.drop (G.drop nx)
set_option maxRecDepth 100000 in
set_option maxHeartbeats 4000000 in
theorem tl_says (F : Fx κ A D K base code RL 7) (hX : va_X b N xs κ.2.2.1 κ.2.2.1.heap) (hbb : b < base) (hN : N ≤ 2049) (hi : i + 4 ≤ N) (hj : j ≤ 600) {r k : Int32} {c' m' : CS} {v' : Nat → Int64} {cl sl : Nat} (hcl : cl ≤ 51 + j) (hsl : sl ≤ 437 + 6 * j) (hc : CtI l D K base yM_says cM_says 4 .int (rmD 1) [.ref (Y 0), .int (xs (i + 1)), .int (xs (i + 2))] (mW Y K m) r (mW Y K m')) (hM' : InvM m') (ht : m' 20 0 = k) (hk : k = 0 → v' 0 = r.toInt64) (nx : G κ l room_1 A Q D 7 cl sl (WW X Y K o c' m' v') 779 (LL b X Y o i) []) : G κ l room_1 A Q D 7 cl sl (WW X Y K o c' m v') 489 (LL b X Y o i) [.int k] := by
  refine G.istoreN F dL_law_489 (by decide) rfl ?_
  refine G.aload_n 3 F dL_law_491 rfl rfl ?_
  refine G.arg 1 5 1 F hX hbb rfl rfl (by omega) hN rfl dL_law_492 dL_law_493 dL_law_495 dL_law_496 dL_law_497 ?_
  refine G.arg 2 5 1 F hX hbb rfl rfl (by omega) hN rfl dL_law_498 dL_law_499 dL_law_501 dL_law_502 dL_law_503 ?_
  refine G.callFi (q0 := 0) (ci := 3) [] (cW X K c' ++ oW o K v') F hc rfl rfl ckL_92 mW_m rfl rfl ⟨rfl, rfl⟩ ⟨by decide, by decide⟩ ⟨by show cl ≤ 663151; omega, by show sl ≤ 7106618; omega⟩ rfl rfl (Nat.le_of_ble_eq_true rfl) dL_law_504 ?_
  refine G.istoreN F dL_law_507 (by decide) rfl ?_
  refine G.aload_n 4 F dL_law_509 rfl rfl ?_
  refine G.callFi (q0 := 0) (ci := 3) [] (cW X K c' ++ oW o K v') F (k_m_thrown l D K base Y m' hM') rfl rfl ckL_69 mW_m rfl rfl ⟨rfl, rfl⟩ ⟨by decide, by decide⟩ ⟨by show cl ≤ 663151; omega, by show sl ≤ 7106618; omega⟩ rfl rfl (Nat.le_of_ble_eq_true rfl) dL_law_510 ?_
  refine G.iload 1 F dL_law_513 rfl ?_
  refine G.icmp_eq 520 F dL_law_515 rfl (fun _ => ?_) (fun h => absurd ht h)
  refine G.iload 1 F dL_law_520 rfl ?_
  refine G.if_ne 537 F dL_law_522 rfl (fun h => ?_) (fun h => ?_)
  · refine G.goto 779 F dL_law_537 rfl ?_
    exact G.drop (G.drop nx)
  · refine G.aload_n 3 F dL_law_525 rfl rfl ?_
    refine G.iconst 0 F dL_law_526 (by decide) ?_
    refine G.ldO (mW Y K m' ++ cW X K c') 49 F WW_o WW_l rfl dL_law_527 ?_
    refine G.iload 0 F dL_law_528 rfl ?_
    refine G.i2l F dL_law_530 ?_
    refine G.lcmp F dL_law_531 ?_
    refine G.if_eq 537 F dL_law_532 rfl (fun _ => ?_) (fun h1 => absurd (by rw [hk h]; exact cmp_self _) h1)
    refine G.goto 779 F dL_law_537 rfl ?_
    exact G.drop (G.drop nx)
set_option maxRecDepth 100000 in
set_option maxHeartbeats 4000000 in
theorem tl_advance (F : Fx κ A D K base code RL 7) (hX : va_X b N xs κ.2.2.1 κ.2.2.1.heap) (hbb : b < base) (hN : N ≤ 2049) (hi : i + 4 ≤ N) (hj : j ≤ 600) {r k : Int32} {c' m' : CS} {v' : Nat → Int64} {cl sl : Nat} (hcl : cl ≤ 51 + j) (hsl : sl ≤ 437 + 6 * j) (hc : CtI l D K base yM_advance cM_advance 3 .boolean (rmD 0) [.ref (Y 0)] (mW Y K m) r (mW Y K m')) (hM' : InvM m') (ht : m' 20 0 = k) (hk : k = 0 → v' 0 = (if r = 0 then 0 else 1)) (nx : G κ l room_1 A Q D 7 cl sl (WW X Y K o c' m' v') 779 (LL b X Y o i) []) : G κ l room_1 A Q D 7 cl sl (WW X Y K o c' m v') 545 (LL b X Y o i) [.int k] := by
  refine G.istoreN F dL_law_545 (by decide) rfl ?_
  refine G.aload_n 3 F dL_law_547 rfl rfl ?_
  refine G.callFi (q0 := 0) (ci := 3) [] (cW X K c' ++ oW o K v') F hc rfl rfl ckL_96 mW_m rfl rfl ⟨rfl, rfl⟩ ⟨by decide, by decide⟩ ⟨by show cl ≤ 663151; omega, by show sl ≤ 7106618; omega⟩ rfl rfl (Nat.le_of_ble_eq_true rfl) dL_law_548 ?_
  refine G.istoreN F dL_law_551 (by decide) rfl ?_
  refine G.aload_n 4 F dL_law_553 rfl rfl ?_
  refine G.callFi (q0 := 0) (ci := 3) [] (cW X K c' ++ oW o K v') F (k_m_thrown l D K base Y m' hM') rfl rfl ckL_69 mW_m rfl rfl ⟨rfl, rfl⟩ ⟨by decide, by decide⟩ ⟨by show cl ≤ 663151; omega, by show sl ≤ 7106618; omega⟩ rfl rfl (Nat.le_of_ble_eq_true rfl) dL_law_554 ?_
  refine G.iload 1 F dL_law_557 rfl ?_
  refine G.icmp_eq 564 F dL_law_559 rfl (fun _ => ?_) (fun h => absurd ht h)
  refine G.iload 1 F dL_law_564 rfl ?_
  refine G.if_ne 588 F dL_law_566 rfl (fun h => ?_) (fun h => ?_)
  · refine G.goto 779 F dL_law_588 rfl ?_
    exact G.drop (G.drop nx)
  · refine G.aload_n 3 F dL_law_569 rfl rfl ?_
    refine G.iconst 0 F dL_law_570 (by decide) ?_
    refine G.ldO (mW Y K m' ++ cW X K c') 49 F WW_o WW_l rfl dL_law_571 ?_
    refine G.iload 0 F dL_law_572 rfl ?_
    have fin : ∀ (x : Int64), v' 0 = x → G κ l room_1 A Q D 7 cl sl (WW X Y K o c' m' v') 582 ((6, .int r) :: (5, .int k) :: LL b X Y o i) [.long x, .long (v' 0)] := by
      intro x hx
      refine G.lcmp F dL_law_582 ?_
      refine G.if_eq 588 F dL_law_583 rfl (fun _ => ?_) (fun h1 => absurd (by rw [hx]; exact cmp_self _) h1)
      refine G.goto 779 F dL_law_588 rfl ?_
      exact G.drop (G.drop nx)
    refine G.if_eq 581 F dL_law_574 rfl (fun h0 => ?_) (fun h0 => ?_)
    · refine G.lconst 0 F dL_law_581 (by decide) ?_
      exact fin _ ((hk h).trans (if_pos h0))
    · refine G.lconst 1 F dL_law_577 (by decide) ?_
      refine G.goto 582 F dL_law_578 rfl ?_
      exact fin _ ((hk h).trans (if_neg h0))
set_option maxRecDepth 100000 in
set_option maxHeartbeats 4000000 in
theorem tl_scan (F : Fx κ A D K base code RL 7) (hX : va_X b N xs κ.2.2.1 κ.2.2.1.heap) (hbb : b < base) (hN : N ≤ 2049) (hi : i + 4 ≤ N) (hj : j ≤ 600) {r k : Int32} {c' m' : CS} {v' : Nat → Int64} {cl sl : Nat} (hcl : cl ≤ 51 + j) (hsl : sl ≤ 437 + 6 * j) (hc : CtI l D K base yM_scan cM_scan 2 .int (rmD 2) [.ref (Y 0), .int (xs (i + 1))] (mW Y K m) r (mW Y K m')) (hM' : InvM m') (ht : m' 20 0 = k) (hk : k = 0 → v' 0 = r.toInt64) (nx : G κ l room_1 A Q D 7 cl sl (WW X Y K o c' m' v') 779 (LL b X Y o i) []) : G κ l room_1 A Q D 7 cl sl (WW X Y K o c' m v') 602 (LL b X Y o i) [.int k] := by
  refine G.istoreN F dL_law_602 (by decide) rfl ?_
  refine G.aload_n 3 F dL_law_604 rfl rfl ?_
  refine G.arg 1 5 1 F hX hbb rfl rfl (by omega) hN rfl dL_law_605 dL_law_606 dL_law_608 dL_law_609 dL_law_610 ?_
  refine G.callFi (q0 := 0) (ci := 3) [] (cW X K c' ++ oW o K v') F hc rfl rfl ckL_99 mW_m rfl rfl ⟨rfl, rfl⟩ ⟨by decide, by decide⟩ ⟨by show cl ≤ 663151; omega, by show sl ≤ 7106618; omega⟩ rfl rfl (Nat.le_of_ble_eq_true rfl) dL_law_611 ?_
  refine G.istoreN F dL_law_614 (by decide) rfl ?_
  refine G.aload_n 4 F dL_law_616 rfl rfl ?_
  refine G.callFi (q0 := 0) (ci := 3) [] (cW X K c' ++ oW o K v') F (k_m_thrown l D K base Y m' hM') rfl rfl ckL_69 mW_m rfl rfl ⟨rfl, rfl⟩ ⟨by decide, by decide⟩ ⟨by show cl ≤ 663151; omega, by show sl ≤ 7106618; omega⟩ rfl rfl (Nat.le_of_ble_eq_true rfl) dL_law_617 ?_
  refine G.iload 1 F dL_law_620 rfl ?_
  refine G.icmp_eq 627 F dL_law_622 rfl (fun _ => ?_) (fun h => absurd ht h)
  refine G.iload 1 F dL_law_627 rfl ?_
  refine G.if_ne 644 F dL_law_629 rfl (fun h => ?_) (fun h => ?_)
  · refine G.goto 779 F dL_law_644 rfl ?_
    exact G.drop (G.drop nx)
  · refine G.aload_n 3 F dL_law_632 rfl rfl ?_
    refine G.iconst 0 F dL_law_633 (by decide) ?_
    refine G.ldO (mW Y K m' ++ cW X K c') 49 F WW_o WW_l rfl dL_law_634 ?_
    refine G.iload 0 F dL_law_635 rfl ?_
    refine G.i2l F dL_law_637 ?_
    refine G.lcmp F dL_law_638 ?_
    refine G.if_eq 644 F dL_law_639 rfl (fun _ => ?_) (fun h1 => absurd (by rw [hk h]; exact cmp_self _) h1)
    refine G.goto 779 F dL_law_644 rfl ?_
    exact G.drop (G.drop nx)
set_option maxRecDepth 100000 in
set_option maxHeartbeats 4000000 in
theorem tl_block (F : Fx κ A D K base code RL 7) (hX : va_X b N xs κ.2.2.1 κ.2.2.1.heap) (hbb : b < base) (hN : N ≤ 2049) (hi : i + 4 ≤ N) (hj : j ≤ 600) {r k : Int32} {c' m' : CS} {v' : Nat → Int64} {cl sl : Nat} (hcl : cl ≤ 51 + j) (hsl : sl ≤ 437 + 6 * j) (hc : CtI l D K base yM_block cM_block 3 .int (rmD 0) [.ref (Y 0), .int (xs (i + 1)), .int (xs (i + 2))] (mW Y K m) r (mW Y K m')) (hM' : InvM m') (ht : m' 20 0 = k) (hk : k = 0 → v' 0 = r.toInt64) (nx : G κ l room_1 A Q D 7 cl sl (WW X Y K o c' m' v') 779 (LL b X Y o i) []) : G κ l room_1 A Q D 7 cl sl (WW X Y K o c' m v') 664 (LL b X Y o i) [.int k] := by
  refine G.istoreN F dL_law_664 (by decide) rfl ?_
  refine G.aload_n 3 F dL_law_666 rfl rfl ?_
  refine G.arg 1 5 1 F hX hbb rfl rfl (by omega) hN rfl dL_law_667 dL_law_668 dL_law_670 dL_law_671 dL_law_672 ?_
  refine G.arg 2 5 1 F hX hbb rfl rfl (by omega) hN rfl dL_law_673 dL_law_674 dL_law_676 dL_law_677 dL_law_678 ?_
  refine G.callFi (q0 := 0) (ci := 3) [] (cW X K c' ++ oW o K v') F hc rfl rfl ckL_102 mW_m rfl rfl ⟨rfl, rfl⟩ ⟨by decide, by decide⟩ ⟨by show cl ≤ 663151; omega, by show sl ≤ 7106618; omega⟩ rfl rfl (Nat.le_of_ble_eq_true rfl) dL_law_679 ?_
  refine G.istoreN F dL_law_682 (by decide) rfl ?_
  refine G.aload_n 4 F dL_law_684 rfl rfl ?_
  refine G.callFi (q0 := 0) (ci := 3) [] (cW X K c' ++ oW o K v') F (k_m_thrown l D K base Y m' hM') rfl rfl ckL_69 mW_m rfl rfl ⟨rfl, rfl⟩ ⟨by decide, by decide⟩ ⟨by show cl ≤ 663151; omega, by show sl ≤ 7106618; omega⟩ rfl rfl (Nat.le_of_ble_eq_true rfl) dL_law_685 ?_
  refine G.iload 1 F dL_law_688 rfl ?_
  refine G.icmp_eq 695 F dL_law_690 rfl (fun _ => ?_) (fun h => absurd ht h)
  refine G.iload 1 F dL_law_695 rfl ?_
  refine G.if_ne 712 F dL_law_697 rfl (fun h => ?_) (fun h => ?_)
  · refine G.goto 779 F dL_law_712 rfl ?_
    exact G.drop (G.drop nx)
  · refine G.aload_n 3 F dL_law_700 rfl rfl ?_
    refine G.iconst 0 F dL_law_701 (by decide) ?_
    refine G.ldO (mW Y K m' ++ cW X K c') 49 F WW_o WW_l rfl dL_law_702 ?_
    refine G.iload 0 F dL_law_703 rfl ?_
    refine G.i2l F dL_law_705 ?_
    refine G.lcmp F dL_law_706 ?_
    refine G.if_eq 712 F dL_law_707 rfl (fun _ => ?_) (fun h1 => absurd (by rw [hk h]; exact cmp_self _) h1)
    refine G.goto 779 F dL_law_712 rfl ?_
    exact G.drop (G.drop nx)
set_option maxRecDepth 100000 in
set_option maxHeartbeats 4000000 in
theorem law_0 (F : Fx κ A D K base code RL 7) (hl : l.stackTraces = false) (hX : va_X b N xs κ.2.2.1 κ.2.2.1.heap) (hbb : b < base) (hN : N ≤ 2049) (hi : i + 4 ≤ N) (hj : j ≤ 600) (hR : Rel j c m) (hI : Inv c) (hM : InvM m) (nx : Nxt κ l A Q D K b X Y o i j) : G κ l room_1 A Q D 7 (50 + j) (431 + 6 * j) (WW X Y K o c m v) 120 (LL b X Y o i) [] := by
  refine G.aload_n 3 F dL_law_120 rfl rfl ?_
  refine G.arg 1 4 0 F hX hbb rfl rfl (by omega) hN rfl dL_law_121 dL_law_122 dL_law_124 dL_law_125 dL_law_126 ?_
  refine G.arg 2 4 0 F hX hbb rfl rfl (by omega) hN rfl dL_law_127 dL_law_128 dL_law_130 dL_law_131 dL_law_132 ?_
  refine G.arg 3 4 0 F hX hbb rfl rfl (by omega) hN rfl dL_law_133 dL_law_134 dL_law_136 dL_law_137 dL_law_138 ?_
  rcases thr_cases (xs (i + 1)) with ⟨t, ht, e1⟩ | hv
  · by_cases ho : xs (i + 2) < 0
    · skip
      refine G.callW (mW Y K m) (oW o K v) F (h_begin_ol l hl D K base X t ht (xs (i + 2)) (xs (i + 3)) c hI ho) rfl rfl cwL_65 ⟨by decide, by decide⟩ ⟨by show 50 + j + 1 ≤ 663151; omega, by show 431 + 6 * j + 6 ≤ 7106618; omega⟩ rfl (by rw [e1] <;> rfl) (Nat.le_of_ble_eq_true rfl) dL_law_139 ?_
      exact tl_begin F hX hbb hN hi hj (k := 2) (c' := c) (m' := f_m_beging t (xs (i + 2)) (xs (i + 3)) m) (v' := v) (by show 50 + j + 1 ≤ 51 + j; omega) (by show 431 + 6 * j + 6 ≤ 437 + 6 * j; omega) (by rw [e1]; exact k_m_beging l D K base Y t ht (xs (i + 2)) (xs (i + 3)) m hM) (i_m_beging t ht (xs (i + 2)) (xs (i + 3)) m hM) (by rw [a_begin_o (Or.inl ho)]; exact up2_eq m 20 0 _) (nx _ _ _ _ _ (by show 50 + j + 1 ≤ 51 + j; omega) (by show 431 + 6 * j + 6 ≤ 437 + 6 * j; omega) (by rw [a_begin_o (Or.inl ho)]; exact (r_thr hR).mono (by omega)) (hI) (i_m_beging t ht (xs (i + 2)) (xs (i + 3)) m hM))
    · by_cases ho2 : xs (i + 2) ≤ 2
      · by_cases hy : xs (i + 3) < 0
        · skip
          refine G.callW (mW Y K m) (oW o K v) F (h_begin_yl l hl D K base X t ht (xs (i + 2)) (xs (i + 3)) c hI ho ho2 hy) rfl rfl cwL_65 ⟨by decide, by decide⟩ ⟨by show 50 + j + 1 ≤ 663151; omega, by show 431 + 6 * j + 6 ≤ 7106618; omega⟩ rfl (by rw [e1] <;> rfl) (Nat.le_of_ble_eq_true rfl) dL_law_139 ?_
          exact tl_begin F hX hbb hN hi hj (k := 2) (c' := c) (m' := f_m_beging t (xs (i + 2)) (xs (i + 3)) m) (v' := v) (by show 50 + j + 1 ≤ 51 + j; omega) (by show 431 + 6 * j + 6 ≤ 437 + 6 * j; omega) (by rw [e1]; exact k_m_beging l D K base Y t ht (xs (i + 2)) (xs (i + 3)) m hM) (i_m_beging t ht (xs (i + 2)) (xs (i + 3)) m hM) (by rw [a_begin_y ho ho2 (Or.inl hy)]; exact up2_eq m 20 0 _) (nx _ _ _ _ _ (by show 50 + j + 1 ≤ 51 + j; omega) (by show 431 + 6 * j + 6 ≤ 437 + 6 * j; omega) (by rw [a_begin_y ho ho2 (Or.inl hy)]; exact (r_thr hR).mono (by omega)) (hI) (i_m_beging t ht (xs (i + 2)) (xs (i + 3)) m hM))
        · by_cases hy2 : xs (i + 3) < 32
          · by_cases hb0 : c 7 t = 0
            · skip
              refine G.callW (mW Y K m) (oW o K v) F (h_begin_g l D K base X t ht (xs (i + 2)) (xs (i + 3)) c hI ho ho2 hy hy2 hb0) rfl rfl cwL_65 ⟨by decide, by decide⟩ ⟨by show 50 + j + 0 ≤ 663151; omega, by show 431 + 6 * j + 0 ≤ 7106618; omega⟩ rfl (by rw [e1] <;> rfl) (Nat.le_of_ble_eq_true rfl) dL_law_139 ?_
              exact tl_begin F hX hbb hN hi hj (k := 0) (c' := f_begin t (xs (i + 2)) (xs (i + 3)) c) (m' := f_m_beging t (xs (i + 2)) (xs (i + 3)) m) (v' := v) (by show 50 + j + 0 ≤ 51 + j; omega) (by show 431 + 6 * j + 0 ≤ 437 + 6 * j; omega) (by rw [e1]; exact k_m_beging l D K base Y t ht (xs (i + 2)) (xs (i + 3)) m hM) (i_m_beging t ht (xs (i + 2)) (xs (i + 3)) m hM) ((a_begin_g hR ht ho ho2 hy hy2 hb0).1) (nx _ _ _ _ _ (by show 50 + j + 0 ≤ 51 + j; omega) (by show 431 + 6 * j + 0 ≤ 437 + 6 * j; omega) ((a_begin_g hR ht ho ho2 hy hy2 hb0).2.mono (by omega)) (i_begin t ht (xs (i + 2)) (xs (i + 3)) c hI ho ho2 hy hy2 hb0) (i_m_beging t ht (xs (i + 2)) (xs (i + 3)) m hM))
            · skip
              refine G.callW (mW Y K m) (oW o K v) F (h_begin_i l hl D K base X t ht (xs (i + 2)) (xs (i + 3)) c hI ho ho2 hy hy2 hb0) rfl rfl cwL_65 ⟨by decide, by decide⟩ ⟨by show 50 + j + 1 ≤ 663151; omega, by show 431 + 6 * j + 6 ≤ 7106618; omega⟩ rfl (by rw [e1] <;> rfl) (Nat.le_of_ble_eq_true rfl) dL_law_139 ?_
              exact tl_begin F hX hbb hN hi hj (k := 3) (c' := c) (m' := f_m_beging t (xs (i + 2)) (xs (i + 3)) m) (v' := v) (by show 50 + j + 1 ≤ 51 + j; omega) (by show 431 + 6 * j + 6 ≤ 437 + 6 * j; omega) (by rw [e1]; exact k_m_beging l D K base Y t ht (xs (i + 2)) (xs (i + 3)) m hM) (i_m_beging t ht (xs (i + 2)) (xs (i + 3)) m hM) (by rw [a_begin_i hR ht ho ho2 hy hy2 hb0]; exact up2_eq m 20 0 _) (nx _ _ _ _ _ (by show 50 + j + 1 ≤ 51 + j; omega) (by show 431 + 6 * j + 6 ≤ 437 + 6 * j; omega) (by rw [a_begin_i hR ht ho ho2 hy hy2 hb0]; exact (r_thr hR).mono (by omega)) (hI) (i_m_beging t ht (xs (i + 2)) (xs (i + 3)) m hM))
          · skip
            refine G.callW (mW Y K m) (oW o K v) F (h_begin_yh l hl D K base X t ht (xs (i + 2)) (xs (i + 3)) c hI ho ho2 hy hy2) rfl rfl cwL_65 ⟨by decide, by decide⟩ ⟨by show 50 + j + 1 ≤ 663151; omega, by show 431 + 6 * j + 6 ≤ 7106618; omega⟩ rfl (by rw [e1] <;> rfl) (Nat.le_of_ble_eq_true rfl) dL_law_139 ?_
            exact tl_begin F hX hbb hN hi hj (k := 2) (c' := c) (m' := f_m_beging t (xs (i + 2)) (xs (i + 3)) m) (v' := v) (by show 50 + j + 1 ≤ 51 + j; omega) (by show 431 + 6 * j + 6 ≤ 437 + 6 * j; omega) (by rw [e1]; exact k_m_beging l D K base Y t ht (xs (i + 2)) (xs (i + 3)) m hM) (i_m_beging t ht (xs (i + 2)) (xs (i + 3)) m hM) (by rw [a_begin_y ho ho2 (Or.inr hy2)]; exact up2_eq m 20 0 _) (nx _ _ _ _ _ (by show 50 + j + 1 ≤ 51 + j; omega) (by show 431 + 6 * j + 6 ≤ 437 + 6 * j; omega) (by rw [a_begin_y ho ho2 (Or.inr hy2)]; exact (r_thr hR).mono (by omega)) (hI) (i_m_beging t ht (xs (i + 2)) (xs (i + 3)) m hM))
      · skip
        refine G.callW (mW Y K m) (oW o K v) F (h_begin_oh l hl D K base X t ht (xs (i + 2)) (xs (i + 3)) c hI ho ho2) rfl rfl cwL_65 ⟨by decide, by decide⟩ ⟨by show 50 + j + 1 ≤ 663151; omega, by show 431 + 6 * j + 6 ≤ 7106618; omega⟩ rfl (by rw [e1] <;> rfl) (Nat.le_of_ble_eq_true rfl) dL_law_139 ?_
        exact tl_begin F hX hbb hN hi hj (k := 2) (c' := c) (m' := f_m_beging t (xs (i + 2)) (xs (i + 3)) m) (v' := v) (by show 50 + j + 1 ≤ 51 + j; omega) (by show 431 + 6 * j + 6 ≤ 437 + 6 * j; omega) (by rw [e1]; exact k_m_beging l D K base Y t ht (xs (i + 2)) (xs (i + 3)) m hM) (i_m_beging t ht (xs (i + 2)) (xs (i + 3)) m hM) (by rw [a_begin_o (Or.inr ho2)]; exact up2_eq m 20 0 _) (nx _ _ _ _ _ (by show 50 + j + 1 ≤ 51 + j; omega) (by show 431 + 6 * j + 6 ≤ 437 + 6 * j; omega) (by rw [a_begin_o (Or.inr ho2)]; exact (r_thr hR).mono (by omega)) (hI) (i_m_beging t ht (xs (i + 2)) (xs (i + 3)) m hM))
  · skip
    refine G.callW (mW Y K m) (oW o K v) F (h_begin_x l hl D K base X (xs (i + 1)) (xs (i + 2)) (xs (i + 3)) c hI hv) rfl rfl cwL_65 ⟨by decide, by decide⟩ ⟨by show 50 + j + 1 ≤ 663151; omega, by show 431 + 6 * j + 6 ≤ 7106618; omega⟩ rfl rfl (Nat.le_of_ble_eq_true rfl) dL_law_139 ?_
    exact tl_begin F hX hbb hN hi hj (k := 1) (c' := c) (m' := f_m_beginb (xs (i + 1)) (xs (i + 2)) (xs (i + 3)) m) (v' := v) (by show 50 + j + 1 ≤ 51 + j; omega) (by show 431 + 6 * j + 6 ≤ 437 + 6 * j; omega) (k_m_beginb l D K base Y (xs (i + 1)) (xs (i + 2)) (xs (i + 3)) m hM (noThr hv)) (hM.upo rfl) (up2_eq m 20 0 _) (nx _ _ _ _ _ (by show 50 + j + 1 ≤ 51 + j; omega) (by show 431 + 6 * j + 6 ≤ 437 + 6 * j; omega) ((r_thr hR).mono (by omega)) (hI) (hM.upo rfl))
set_option maxRecDepth 100000 in
set_option maxHeartbeats 4000000 in
theorem law_1 (F : Fx κ A D K base code RL 7) (hl : l.stackTraces = false) (hX : va_X b N xs κ.2.2.1 κ.2.2.1.heap) (hbb : b < base) (hN : N ≤ 2049) (hi : i + 4 ≤ N) (hj : j ≤ 600) (hR : Rel j c m) (hI : Inv c) (hM : InvM m) (nx : Nxt κ l A Q D K b X Y o i j) : G κ l room_1 A Q D 7 (50 + j) (431 + 6 * j) (WW X Y K o c m v) 180 (LL b X Y o i) [] := by
  refine G.aload_n 3 F dL_law_180 rfl rfl ?_
  refine G.arg 1 4 0 F hX hbb rfl rfl (by omega) hN rfl dL_law_181 dL_law_182 dL_law_184 dL_law_185 dL_law_186 ?_
  refine G.aload_n 1 F dL_law_187 rfl rfl ?_
  rcases thr_cases (xs (i + 1)) with ⟨t, ht, e1⟩ | hv
  · by_cases hb0 : c 7 t = 0
    · skip
      refine G.callW (mW Y K m) [] F (h_step_i l hl D K base X o t ht c hI hb0 v) WW_n WW_n.symm cwL_73 ⟨by decide, by decide⟩ ⟨by show 50 + j + 1 ≤ 663151; omega, by show 431 + 6 * j + 6 ≤ 7106618; omega⟩ rfl (by rw [e1] <;> rfl) (Nat.le_of_ble_eq_true rfl) dL_law_188 ?_
      exact tl_step F hX hbb hN hi hj (r := (f_m_stepg t m).1) (k := 2) (c' := c) (m' := (f_m_stepg t m).2) (v' := v) (by show 50 + j + 1 ≤ 51 + j; omega) (by show 431 + 6 * j + 6 ≤ 437 + 6 * j; omega) (by rw [e1]; exact k_m_stepg l D K base Y t ht m hM) (i_m_stepg t ht m hM) (by rw [a_step_i hR ht hb0]; exact up2_eq m 20 0 _) (fun h => absurd h (by decide)) (nx _ _ _ _ _ (by show 50 + j + 1 ≤ 51 + j; omega) (by show 431 + 6 * j + 6 ≤ 437 + 6 * j; omega) (by rw [a_step_i hR ht hb0]; exact (r_thr hR).mono (by omega)) (hI) (i_m_stepg t ht m hM))
    · skip
      refine G.callW (mW Y K m) [] F (h_step_g l D K base X o t ht c hI hb0 v) WW_n WW_n.symm cwL_73 ⟨by decide, by decide⟩ ⟨by show 50 + j + 0 ≤ 663151; omega, by show 431 + 6 * j + 0 ≤ 7106618; omega⟩ rfl (by rw [e1] <;> rfl) (Nat.le_of_ble_eq_true rfl) dL_law_188 ?_
      exact tl_step F hX hbb hN hi hj (r := (f_m_stepg t m).1) (k := 0) (c' := (f_step t c).2) (m' := (f_m_stepg t m).2) (v' := vp_updL v 0 ((f_step t c).1).toInt64) (by show 50 + j + 0 ≤ 51 + j; omega) (by show 431 + 6 * j + 0 ≤ 437 + 6 * j; omega) (by rw [e1]; exact k_m_stepg l D K base Y t ht m hM) (i_m_stepg t ht m hM) ((a_step_g hR hj ht hM hb0).1) (fun _ => by show ((f_step t c).1).toInt64 = _; rw [(a_step_g hR hj ht hM hb0).2.1]) (nx _ _ _ _ _ (by show 50 + j + 0 ≤ 51 + j; omega) (by show 431 + 6 * j + 0 ≤ 437 + 6 * j; omega) ((a_step_g hR hj ht hM hb0).2.2.mono (by omega)) (i_step t ht c hI hb0) (i_m_stepg t ht m hM))
  · skip
    refine G.callW (mW Y K m) [] F (h_step_x l hl D K base X o (xs (i + 1)) c hI hv v) WW_n WW_n.symm cwL_73 ⟨by decide, by decide⟩ ⟨by show 50 + j + 1 ≤ 663151; omega, by show 431 + 6 * j + 6 ≤ 7106618; omega⟩ rfl rfl (Nat.le_of_ble_eq_true rfl) dL_law_188 ?_
    exact tl_step F hX hbb hN hi hj (r := (f_m_stepb (xs (i + 1)) m).1) (k := 1) (c' := c) (m' := (f_m_stepb (xs (i + 1)) m).2) (v' := v) (by show 50 + j + 1 ≤ 51 + j; omega) (by show 431 + 6 * j + 6 ≤ 437 + 6 * j; omega) (k_m_stepb l D K base Y (xs (i + 1)) m hM (noThr hv)) (hM.upo rfl) (up2_eq m 20 0 _) (fun h => absurd h (by decide)) (nx _ _ _ _ _ (by show 50 + j + 1 ≤ 51 + j; omega) (by show 431 + 6 * j + 6 ≤ 437 + 6 * j; omega) ((r_thr hR).mono (by omega)) (hI) (hM.upo rfl))
set_option maxRecDepth 100000 in
set_option maxHeartbeats 4000000 in
theorem law_2 (F : Fx κ A D K base code RL 7) (hl : l.stackTraces = false) (hX : va_X b N xs κ.2.2.1 κ.2.2.1.heap) (hbb : b < base) (hN : N ≤ 2049) (hi : i + 4 ≤ N) (hj : j ≤ 600) (hR : Rel j c m) (hI : Inv c) (hM : InvM m) (nx : Nxt κ l A Q D K b X Y o i j) : G κ l room_1 A Q D 7 (50 + j) (431 + 6 * j) (WW X Y K o c m v) 236 (LL b X Y o i) [] := by
  refine G.aload_n 3 F dL_law_236 rfl rfl ?_
  refine G.arg 1 4 0 F hX hbb rfl rfl (by omega) hN rfl dL_law_237 dL_law_238 dL_law_240 dL_law_241 dL_law_242 ?_
  refine G.aload_n 1 F dL_law_243 rfl rfl ?_
  rcases thr_cases (xs (i + 1)) with ⟨t, ht, e1⟩ | hv
  · by_cases hb0 : c 7 t = 0
    · skip
      refine G.callW (mW Y K m) [] F (h_finish_i l hl D K base X o t ht c hI hb0 v) WW_n WW_n.symm cwL_77 ⟨by decide, by decide⟩ ⟨by show 50 + j + 1 ≤ 663151; omega, by show 431 + 6 * j + 6 ≤ 7106618; omega⟩ rfl (by rw [e1] <;> rfl) (Nat.le_of_ble_eq_true rfl) dL_law_244 ?_
      exact tl_finish F hX hbb hN hi hj (r := (f_m_finishg t m).1) (k := 2) (c' := c) (m' := (f_m_finishg t m).2) (v' := v) (by show 50 + j + 1 ≤ 51 + j; omega) (by show 431 + 6 * j + 6 ≤ 437 + 6 * j; omega) (by rw [e1]; exact k_m_finishg l D K base Y t ht m hM) (i_m_finishg t ht m hM) (by rw [a_finish_i hR ht hb0]; exact up2_eq m 20 0 _) (fun h => absurd h (by decide)) (nx _ _ _ _ _ (by show 50 + j + 1 ≤ 51 + j; omega) (by show 431 + 6 * j + 6 ≤ 437 + 6 * j; omega) (by rw [a_finish_i hR ht hb0]; exact (r_thr hR).mono (by omega)) (hI) (i_m_finishg t ht m hM))
    · skip
      refine G.callW (mW Y K m) [] F (h_finish_g l D K base X o t ht c hI hb0 v) WW_n WW_n.symm cwL_77 ⟨by decide, by decide⟩ ⟨by show 50 + j + 0 ≤ 663151; omega, by show 431 + 6 * j + 0 ≤ 7106618; omega⟩ rfl (by rw [e1] <;> rfl) (Nat.le_of_ble_eq_true rfl) dL_law_244 ?_
      exact tl_finish F hX hbb hN hi hj (r := (f_m_finishg t m).1) (k := 0) (c' := (f_finish t c).2) (m' := (f_m_finishg t m).2) (v' := vp_updL v 0 ((f_finish t c).1).toInt64) (by show 50 + j + 0 ≤ 51 + j; omega) (by show 431 + 6 * j + 0 ≤ 437 + 6 * j; omega) (by rw [e1]; exact k_m_finishg l D K base Y t ht m hM) (i_m_finishg t ht m hM) ((a_finish_g hR hj ht hM hb0).1) (fun _ => by show ((f_finish t c).1).toInt64 = _; rw [(a_finish_g hR hj ht hM hb0).2.1]) (nx _ _ _ _ _ (by show 50 + j + 0 ≤ 51 + j; omega) (by show 431 + 6 * j + 0 ≤ 437 + 6 * j; omega) ((a_finish_g hR hj ht hM hb0).2.2.mono (by omega)) (i_finish t ht c hI hb0) (i_m_finishg t ht m hM))
  · skip
    refine G.callW (mW Y K m) [] F (h_finish_x l hl D K base X o (xs (i + 1)) c hI hv v) WW_n WW_n.symm cwL_77 ⟨by decide, by decide⟩ ⟨by show 50 + j + 1 ≤ 663151; omega, by show 431 + 6 * j + 6 ≤ 7106618; omega⟩ rfl rfl (Nat.le_of_ble_eq_true rfl) dL_law_244 ?_
    exact tl_finish F hX hbb hN hi hj (r := (f_m_finishb (xs (i + 1)) m).1) (k := 1) (c' := c) (m' := (f_m_finishb (xs (i + 1)) m).2) (v' := v) (by show 50 + j + 1 ≤ 51 + j; omega) (by show 431 + 6 * j + 6 ≤ 437 + 6 * j; omega) (k_m_finishb l D K base Y (xs (i + 1)) m hM (noThr hv)) (hM.upo rfl) (up2_eq m 20 0 _) (fun h => absurd h (by decide)) (nx _ _ _ _ _ (by show 50 + j + 1 ≤ 51 + j; omega) (by show 431 + 6 * j + 6 ≤ 437 + 6 * j; omega) ((r_thr hR).mono (by omega)) (hI) (hM.upo rfl))
set_option maxRecDepth 100000 in
set_option maxHeartbeats 4000000 in
theorem law_3 (F : Fx κ A D K base code RL 7) (hl : l.stackTraces = false) (hX : va_X b N xs κ.2.2.1 κ.2.2.1.heap) (hbb : b < base) (hN : N ≤ 2049) (hi : i + 4 ≤ N) (hj : j ≤ 600) (hR : Rel j c m) (hI : Inv c) (hM : InvM m) (nx : Nxt κ l A Q D K b X Y o i j) : G κ l room_1 A Q D 7 (50 + j) (431 + 6 * j) (WW X Y K o c m v) 292 (LL b X Y o i) [] := by
  refine G.aload_n 3 F dL_law_292 rfl rfl ?_
  refine G.arg 1 4 0 F hX hbb rfl rfl (by omega) hN rfl dL_law_293 dL_law_294 dL_law_296 dL_law_297 dL_law_298 ?_
  refine G.aload_n 1 F dL_law_299 rfl rfl ?_
  rcases thr_cases (xs (i + 1)) with ⟨t, ht, e1⟩ | hv
  · by_cases hb0 : c 18 t = -1
    · skip
      refine G.callW (mW Y K m) [] F (h_result_n l hl D K base X o t ht c hI hb0 v) WW_n WW_n.symm cwL_80 ⟨by decide, by decide⟩ ⟨by show 50 + j + 1 ≤ 663151; omega, by show 431 + 6 * j + 6 ≤ 7106618; omega⟩ rfl (by rw [e1] <;> rfl) (Nat.le_of_ble_eq_true rfl) dL_law_300 ?_
      exact tl_result F hX hbb hN hi hj (r := (f_m_resultg t m).1) (k := 2) (c' := c) (m' := (f_m_resultg t m).2) (v' := v) (by show 50 + j + 1 ≤ 51 + j; omega) (by show 431 + 6 * j + 6 ≤ 437 + 6 * j; omega) (by rw [e1]; exact k_m_resultg l D K base Y t ht m hM) (by rw [a_result_n hR ht hb0]; exact hM.upo rfl) (by rw [a_result_n hR ht hb0]; exact up2_eq m 20 0 _) (fun h => absurd h (by decide)) (nx _ _ _ _ _ (by show 50 + j + 1 ≤ 51 + j; omega) (by show 431 + 6 * j + 6 ≤ 437 + 6 * j; omega) (by rw [a_result_n hR ht hb0]; exact (r_thr hR).mono (by omega)) (hI) (by rw [a_result_n hR ht hb0]; exact hM.upo rfl))
    · skip
      refine G.callW (mW Y K m) [] F (h_result_g l D K base X o t ht c hI hb0 v) WW_n WW_n.symm cwL_80 ⟨by decide, by decide⟩ ⟨by show 50 + j + 0 ≤ 663151; omega, by show 431 + 6 * j + 0 ≤ 7106618; omega⟩ rfl (by rw [e1] <;> rfl) (Nat.le_of_ble_eq_true rfl) dL_law_300 ?_
      exact tl_result F hX hbb hN hi hj (r := (f_m_resultg t m).1) (k := 0) (c' := c) (m' := (f_m_resultg t m).2) (v' := vp_updL v 0 (f_result t c).toInt64) (by show 50 + j + 0 ≤ 51 + j; omega) (by show 431 + 6 * j + 0 ≤ 437 + 6 * j; omega) (by rw [e1]; exact k_m_resultg l D K base Y t ht m hM) (by rw [a_result_g hR ht hb0]; exact hM.upo rfl) (by rw [a_result_g hR ht hb0]; exact up2_eq m 20 0 _) (fun _ => by show (f_result t c).toInt64 = _; rw [a_result_g hR ht hb0]) (nx _ _ _ _ _ (by show 50 + j + 0 ≤ 51 + j; omega) (by show 431 + 6 * j + 0 ≤ 437 + 6 * j; omega) (by rw [a_result_g hR ht hb0]; exact (r_thr hR).mono (by omega)) (hI) (by rw [a_result_g hR ht hb0]; exact hM.upo rfl))
  · skip
    refine G.callW (mW Y K m) [] F (h_result_x l hl D K base X o (xs (i + 1)) c hI hv v) WW_n WW_n.symm cwL_80 ⟨by decide, by decide⟩ ⟨by show 50 + j + 1 ≤ 663151; omega, by show 431 + 6 * j + 6 ≤ 7106618; omega⟩ rfl rfl (Nat.le_of_ble_eq_true rfl) dL_law_300 ?_
    exact tl_result F hX hbb hN hi hj (r := (f_m_resultb (xs (i + 1)) m).1) (k := 1) (c' := c) (m' := (f_m_resultb (xs (i + 1)) m).2) (v' := v) (by show 50 + j + 1 ≤ 51 + j; omega) (by show 431 + 6 * j + 6 ≤ 437 + 6 * j; omega) (k_m_resultb l D K base Y (xs (i + 1)) m hM (noThr hv)) (hM.upo rfl) (up2_eq m 20 0 _) (fun h => absurd h (by decide)) (nx _ _ _ _ _ (by show 50 + j + 1 ≤ 51 + j; omega) (by show 431 + 6 * j + 6 ≤ 437 + 6 * j; omega) ((r_thr hR).mono (by omega)) (hI) (hM.upo rfl))
set_option maxRecDepth 100000 in
set_option maxHeartbeats 4000000 in
theorem law_4 (F : Fx κ A D K base code RL 7) (hl : l.stackTraces = false) (hX : va_X b N xs κ.2.2.1 κ.2.2.1.heap) (hbb : b < base) (hN : N ≤ 2049) (hi : i + 4 ≤ N) (hj : j ≤ 600) (hR : Rel j c m) (hI : Inv c) (hM : InvM m) (nx : Nxt κ l A Q D K b X Y o i j) : G κ l room_1 A Q D 7 (50 + j) (431 + 6 * j) (WW X Y K o c m v) 348 (LL b X Y o i) [] := by
  refine G.aload_n 3 F dL_law_348 rfl rfl ?_
  refine G.arg 1 4 0 F hX hbb rfl rfl (by omega) hN rfl dL_law_349 dL_law_350 dL_law_352 dL_law_353 dL_law_354 ?_
  refine G.aload_n 1 F dL_law_355 rfl rfl ?_
  rcases thr_cases (xs (i + 1)) with ⟨t, ht, e1⟩ | hv
  · skip
    refine G.callW (mW Y K m) [] F (h_at_g l D K base X o t ht c hI v) WW_n WW_n.symm cwL_83 ⟨by decide, by decide⟩ ⟨by show 50 + j + 0 ≤ 663151; omega, by show 431 + 6 * j + 0 ≤ 7106618; omega⟩ rfl (by rw [e1] <;> rfl) (Nat.le_of_ble_eq_true rfl) dL_law_356 ?_
    exact tl_at F hX hbb hN hi hj (r := (f_m_atg t m).1) (k := 0) (c' := c) (m' := (f_m_atg t m).2) (v' := vp_updL v 0 (f_at t c).toInt64) (by show 50 + j + 0 ≤ 51 + j; omega) (by show 431 + 6 * j + 0 ≤ 437 + 6 * j; omega) (by rw [e1]; exact k_m_atg l D K base Y t ht m hM) (by rw [a_at_g hR ht]; exact hM.upo rfl) (by rw [a_at_g hR ht]; exact up2_eq m 20 0 _) (fun _ => by show (f_at t c).toInt64 = _; rw [a_at_g hR ht]) (nx _ _ _ _ _ (by show 50 + j + 0 ≤ 51 + j; omega) (by show 431 + 6 * j + 0 ≤ 437 + 6 * j; omega) (by rw [a_at_g hR ht]; exact (r_thr hR).mono (by omega)) (hI) (by rw [a_at_g hR ht]; exact hM.upo rfl))
  · skip
    refine G.callW (mW Y K m) [] F (h_at_x l hl D K base X o (xs (i + 1)) c hI hv v) WW_n WW_n.symm cwL_83 ⟨by decide, by decide⟩ ⟨by show 50 + j + 1 ≤ 663151; omega, by show 431 + 6 * j + 6 ≤ 7106618; omega⟩ rfl rfl (Nat.le_of_ble_eq_true rfl) dL_law_356 ?_
    exact tl_at F hX hbb hN hi hj (r := (f_m_atb (xs (i + 1)) m).1) (k := 1) (c' := c) (m' := (f_m_atb (xs (i + 1)) m).2) (v' := v) (by show 50 + j + 1 ≤ 51 + j; omega) (by show 431 + 6 * j + 6 ≤ 437 + 6 * j; omega) (k_m_atb l D K base Y (xs (i + 1)) m hM (noThr hv)) (hM.upo rfl) (up2_eq m 20 0 _) (fun h => absurd h (by decide)) (nx _ _ _ _ _ (by show 50 + j + 1 ≤ 51 + j; omega) (by show 431 + 6 * j + 6 ≤ 437 + 6 * j; omega) ((r_thr hR).mono (by omega)) (hI) (hM.upo rfl))
set_option maxRecDepth 100000 in
set_option maxHeartbeats 4000000 in
theorem law_5 (F : Fx κ A D K base code RL 7) (hl : l.stackTraces = false) (hX : va_X b N xs κ.2.2.1 κ.2.2.1.heap) (hbb : b < base) (hN : N ≤ 2049) (hi : i + 4 ≤ N) (hj : j ≤ 600) (hR : Rel j c m) (hI : Inv c) (hM : InvM m) (nx : Nxt κ l A Q D K b X Y o i j) : G κ l room_1 A Q D 7 (50 + j) (431 + 6 * j) (WW X Y K o c m v) 404 (LL b X Y o i) [] := by
  refine G.aload_n 3 F dL_law_404 rfl rfl ?_
  refine G.arg 1 4 0 F hX hbb rfl rfl (by omega) hN rfl dL_law_405 dL_law_406 dL_law_408 dL_law_409 dL_law_410 ?_
  refine G.arg 2 4 0 F hX hbb rfl rfl (by omega) hN rfl dL_law_411 dL_law_412 dL_law_414 dL_law_415 dL_law_416 ?_
  refine G.aload_n 1 F dL_law_417 rfl rfl ?_
  rcases thr_cases (xs (i + 1)) with ⟨t, ht, e1⟩ | hv
  · rcases w03 (w := xs (i + 2)) with (e2 | e2 | e2 | e2) | hw
    · skip
      refine G.callW (mW Y K m) [] F (h_known_0 l D K base X o t ht c hI v) WW_n WW_n.symm cwL_86 ⟨by decide, by decide⟩ ⟨by show 50 + j + 0 ≤ 663151; omega, by show 431 + 6 * j + 0 ≤ 7106618; omega⟩ rfl (by rw [e1, e2] <;> rfl) (Nat.le_of_ble_eq_true rfl) dL_law_418 ?_
      exact tl_known F hX hbb hN hi hj (r := (f_m_knowng t 0 m).1) (k := 0) (c' := c) (m' := (f_m_knowng t 0 m).2) (v' := vp_updL v 0 (f_known0 t c).toInt64) (by show 50 + j + 0 ≤ 51 + j; omega) (by show 431 + 6 * j + 0 ≤ 437 + 6 * j; omega) (by rw [e1, e2]; exact k_m_knowng l D K base Y t ht 0 m hM) (by rw [a_known0 hR ht]; exact hM.upo rfl) (by rw [a_known0 hR ht]; exact up2_eq m 20 0 _) (fun _ => by show (f_known0 t c).toInt64 = _; rw [a_known0 hR ht]) (nx _ _ _ _ _ (by show 50 + j + 0 ≤ 51 + j; omega) (by show 431 + 6 * j + 0 ≤ 437 + 6 * j; omega) (by rw [a_known0 hR ht]; exact (r_thr hR).mono (by omega)) (hI) (by rw [a_known0 hR ht]; exact hM.upo rfl))
    · skip
      refine G.callW (mW Y K m) [] F (h_known_1 l D K base X o t ht c hI v) WW_n WW_n.symm cwL_86 ⟨by decide, by decide⟩ ⟨by show 50 + j + 0 ≤ 663151; omega, by show 431 + 6 * j + 0 ≤ 7106618; omega⟩ rfl (by rw [e1, e2] <;> rfl) (Nat.le_of_ble_eq_true rfl) dL_law_418 ?_
      exact tl_known F hX hbb hN hi hj (r := (f_m_knowng t 1 m).1) (k := 0) (c' := c) (m' := (f_m_knowng t 1 m).2) (v' := vp_updL v 0 (f_known1 t c).toInt64) (by show 50 + j + 0 ≤ 51 + j; omega) (by show 431 + 6 * j + 0 ≤ 437 + 6 * j; omega) (by rw [e1, e2]; exact k_m_knowng l D K base Y t ht 1 m hM) (by rw [a_known1 hR ht]; exact hM.upo rfl) (by rw [a_known1 hR ht]; exact up2_eq m 20 0 _) (fun _ => by show (f_known1 t c).toInt64 = _; rw [a_known1 hR ht]) (nx _ _ _ _ _ (by show 50 + j + 0 ≤ 51 + j; omega) (by show 431 + 6 * j + 0 ≤ 437 + 6 * j; omega) (by rw [a_known1 hR ht]; exact (r_thr hR).mono (by omega)) (hI) (by rw [a_known1 hR ht]; exact hM.upo rfl))
    · skip
      refine G.callW (mW Y K m) [] F (h_known_2 l D K base X o t ht c hI v) WW_n WW_n.symm cwL_86 ⟨by decide, by decide⟩ ⟨by show 50 + j + 0 ≤ 663151; omega, by show 431 + 6 * j + 0 ≤ 7106618; omega⟩ rfl (by rw [e1, e2] <;> rfl) (Nat.le_of_ble_eq_true rfl) dL_law_418 ?_
      exact tl_known F hX hbb hN hi hj (r := (f_m_knowng t 2 m).1) (k := 0) (c' := c) (m' := (f_m_knowng t 2 m).2) (v' := vp_updL v 0 (f_known2 t c).toInt64) (by show 50 + j + 0 ≤ 51 + j; omega) (by show 431 + 6 * j + 0 ≤ 437 + 6 * j; omega) (by rw [e1, e2]; exact k_m_knowng l D K base Y t ht 2 m hM) (by rw [a_known2 hR ht]; exact hM.upo rfl) (by rw [a_known2 hR ht]; exact up2_eq m 20 0 _) (fun _ => by show (f_known2 t c).toInt64 = _; rw [a_known2 hR ht]) (nx _ _ _ _ _ (by show 50 + j + 0 ≤ 51 + j; omega) (by show 431 + 6 * j + 0 ≤ 437 + 6 * j; omega) (by rw [a_known2 hR ht]; exact (r_thr hR).mono (by omega)) (hI) (by rw [a_known2 hR ht]; exact hM.upo rfl))
    · skip
      refine G.callW (mW Y K m) [] F (h_known_3 l D K base X o t ht c hI v) WW_n WW_n.symm cwL_86 ⟨by decide, by decide⟩ ⟨by show 50 + j + 0 ≤ 663151; omega, by show 431 + 6 * j + 0 ≤ 7106618; omega⟩ rfl (by rw [e1, e2] <;> rfl) (Nat.le_of_ble_eq_true rfl) dL_law_418 ?_
      exact tl_known F hX hbb hN hi hj (r := (f_m_knowng t 3 m).1) (k := 0) (c' := c) (m' := (f_m_knowng t 3 m).2) (v' := vp_updL v 0 (f_known3 t c).toInt64) (by show 50 + j + 0 ≤ 51 + j; omega) (by show 431 + 6 * j + 0 ≤ 437 + 6 * j; omega) (by rw [e1, e2]; exact k_m_knowng l D K base Y t ht 3 m hM) (by rw [a_known3 hR ht]; exact hM.upo rfl) (by rw [a_known3 hR ht]; exact up2_eq m 20 0 _) (fun _ => by show (f_known3 t c).toInt64 = _; rw [a_known3 hR ht]) (nx _ _ _ _ _ (by show 50 + j + 0 ≤ 51 + j; omega) (by show 431 + 6 * j + 0 ≤ 437 + 6 * j; omega) (by rw [a_known3 hR ht]; exact (r_thr hR).mono (by omega)) (hI) (by rw [a_known3 hR ht]; exact hM.upo rfl))
    · skip
      refine G.callW (mW Y K m) [] F (h_known_w l hl D K base X o t ht (xs (i + 2)) c hI hw v) WW_n WW_n.symm cwL_86 ⟨by decide, by decide⟩ ⟨by show 50 + j + 1 ≤ 663151; omega, by show 431 + 6 * j + 6 ≤ 7106618; omega⟩ rfl (by rw [e1] <;> rfl) (Nat.le_of_ble_eq_true rfl) dL_law_418 ?_
      exact tl_known F hX hbb hN hi hj (r := (f_m_knowng t (xs (i + 2)) m).1) (k := 1) (c' := c) (m' := (f_m_knowng t (xs (i + 2)) m).2) (v' := v) (by show 50 + j + 1 ≤ 51 + j; omega) (by show 431 + 6 * j + 6 ≤ 437 + 6 * j; omega) (by rw [e1]; exact k_m_knowng l D K base Y t ht (xs (i + 2)) m hM) (by rw [a_known_w hw]; exact hM.upo rfl) (by rw [a_known_w hw]; exact up2_eq m 20 0 _) (fun h => absurd h (by decide)) (nx _ _ _ _ _ (by show 50 + j + 1 ≤ 51 + j; omega) (by show 431 + 6 * j + 6 ≤ 437 + 6 * j; omega) (by rw [a_known_w hw]; exact (r_thr hR).mono (by omega)) (hI) (by rw [a_known_w hw]; exact hM.upo rfl))
  · skip
    refine G.callW (mW Y K m) [] F (h_known_x l hl D K base X o (xs (i + 1)) (xs (i + 2)) c hI hv v) WW_n WW_n.symm cwL_86 ⟨by decide, by decide⟩ ⟨by show 50 + j + 1 ≤ 663151; omega, by show 431 + 6 * j + 6 ≤ 7106618; omega⟩ rfl rfl (Nat.le_of_ble_eq_true rfl) dL_law_418 ?_
    exact tl_known F hX hbb hN hi hj (r := (f_m_knownb (xs (i + 1)) (xs (i + 2)) m).1) (k := 1) (c' := c) (m' := (f_m_knownb (xs (i + 1)) (xs (i + 2)) m).2) (v' := v) (by show 50 + j + 1 ≤ 51 + j; omega) (by show 431 + 6 * j + 6 ≤ 437 + 6 * j; omega) (k_m_knownb l D K base Y (xs (i + 1)) (xs (i + 2)) m hM (noThr hv)) (hM.upo rfl) (up2_eq m 20 0 _) (fun h => absurd h (by decide)) (nx _ _ _ _ _ (by show 50 + j + 1 ≤ 51 + j; omega) (by show 431 + 6 * j + 6 ≤ 437 + 6 * j; omega) ((r_thr hR).mono (by omega)) (hI) (hM.upo rfl))
set_option maxRecDepth 100000 in
set_option maxHeartbeats 4000000 in
theorem law_6 (F : Fx κ A D K base code RL 7) (hl : l.stackTraces = false) (hX : va_X b N xs κ.2.2.1 κ.2.2.1.heap) (hbb : b < base) (hN : N ≤ 2049) (hi : i + 4 ≤ N) (hj : j ≤ 600) (hR : Rel j c m) (hI : Inv c) (hM : InvM m) (nx : Nxt κ l A Q D K b X Y o i j) : G κ l room_1 A Q D 7 (50 + j) (431 + 6 * j) (WW X Y K o c m v) 472 (LL b X Y o i) [] := by
  refine G.aload_n 3 F dL_law_472 rfl rfl ?_
  refine G.arg 1 4 0 F hX hbb rfl rfl (by omega) hN rfl dL_law_473 dL_law_474 dL_law_476 dL_law_477 dL_law_478 ?_
  refine G.arg 2 4 0 F hX hbb rfl rfl (by omega) hN rfl dL_law_479 dL_law_480 dL_law_482 dL_law_483 dL_law_484 ?_
  refine G.aload_n 1 F dL_law_485 rfl rfl ?_
  rcases thr_cases (xs (i + 1)) with ⟨t, ht, e1⟩ | hv
  · rcases w02 (w := xs (i + 2)) with (e2 | e2 | e2) | hw
    · skip
      refine G.callW (mW Y K m) [] F (h_says_0 l D K base X o t ht c hI v) WW_n WW_n.symm cwL_90 ⟨by decide, by decide⟩ ⟨by show 50 + j + 0 ≤ 663151; omega, by show 431 + 6 * j + 0 ≤ 7106618; omega⟩ rfl (by rw [e1, e2] <;> rfl) (Nat.le_of_ble_eq_true rfl) dL_law_486 ?_
      exact tl_says F hX hbb hN hi hj (r := (f_m_says0 t m).1) (k := 0) (c' := c) (m' := (f_m_says0 t m).2) (v' := vp_updL v 0 (f_says0 t c).toInt64) (by show 50 + j + 0 ≤ 51 + j; omega) (by show 431 + 6 * j + 0 ≤ 437 + 6 * j; omega) (by rw [e1, e2]; exact k_m_says0 l D K base Y t ht m hM) (by rw [a_says0 hR ht]; exact hM.upo rfl) (by rw [a_says0 hR ht]; exact up2_eq m 20 0 _) (fun _ => by show (f_says0 t c).toInt64 = _; rw [a_says0 hR ht]) (nx _ _ _ _ _ (by show 50 + j + 0 ≤ 51 + j; omega) (by show 431 + 6 * j + 0 ≤ 437 + 6 * j; omega) (by rw [a_says0 hR ht]; exact (r_thr hR).mono (by omega)) (hI) (by rw [a_says0 hR ht]; exact hM.upo rfl))
    · skip
      refine G.callW (mW Y K m) [] F (h_says_1 l D K base X o t ht c hI v) WW_n WW_n.symm cwL_90 ⟨by decide, by decide⟩ ⟨by show 50 + j + 0 ≤ 663151; omega, by show 431 + 6 * j + 0 ≤ 7106618; omega⟩ rfl (by rw [e1, e2] <;> rfl) (Nat.le_of_ble_eq_true rfl) dL_law_486 ?_
      exact tl_says F hX hbb hN hi hj (r := (f_m_says1 t m).1) (k := 0) (c' := c) (m' := (f_m_says1 t m).2) (v' := vp_updL v 0 (f_says1 t c).toInt64) (by show 50 + j + 0 ≤ 51 + j; omega) (by show 431 + 6 * j + 0 ≤ 437 + 6 * j; omega) (by rw [e1, e2]; exact k_m_says1 l D K base Y t ht m hM) (by rw [a_says1 hR ht]; exact hM.upo rfl) (by rw [a_says1 hR ht]; exact up2_eq m 20 0 _) (fun _ => by show (f_says1 t c).toInt64 = _; rw [a_says1 hR ht]) (nx _ _ _ _ _ (by show 50 + j + 0 ≤ 51 + j; omega) (by show 431 + 6 * j + 0 ≤ 437 + 6 * j; omega) (by rw [a_says1 hR ht]; exact (r_thr hR).mono (by omega)) (hI) (by rw [a_says1 hR ht]; exact hM.upo rfl))
    · skip
      refine G.callW (mW Y K m) [] F (h_says_2 l D K base X o t ht c hI v) WW_n WW_n.symm cwL_90 ⟨by decide, by decide⟩ ⟨by show 50 + j + 0 ≤ 663151; omega, by show 431 + 6 * j + 0 ≤ 7106618; omega⟩ rfl (by rw [e1, e2] <;> rfl) (Nat.le_of_ble_eq_true rfl) dL_law_486 ?_
      exact tl_says F hX hbb hN hi hj (r := (f_m_says2 t m).1) (k := 0) (c' := c) (m' := (f_m_says2 t m).2) (v' := vp_updL v 0 (f_says2 t c).toInt64) (by show 50 + j + 0 ≤ 51 + j; omega) (by show 431 + 6 * j + 0 ≤ 437 + 6 * j; omega) (by rw [e1, e2]; exact k_m_says2 l D K base Y t ht m hM) (by rw [a_says2 hR ht]; exact hM.upo rfl) (by rw [a_says2 hR ht]; exact up2_eq m 20 0 _) (fun _ => by show (f_says2 t c).toInt64 = _; rw [a_says2 hR ht]) (nx _ _ _ _ _ (by show 50 + j + 0 ≤ 51 + j; omega) (by show 431 + 6 * j + 0 ≤ 437 + 6 * j; omega) (by rw [a_says2 hR ht]; exact (r_thr hR).mono (by omega)) (hI) (by rw [a_says2 hR ht]; exact hM.upo rfl))
    · by_cases hw0 : xs (i + 2) < 0
      · skip
        refine G.callW (mW Y K m) [] F (h_says_w l hl D K base X o t ht (xs (i + 2)) c hI hw v) WW_n WW_n.symm cwL_90 ⟨by decide, by decide⟩ ⟨by show 50 + j + 1 ≤ 663151; omega, by show 431 + 6 * j + 6 ≤ 7106618; omega⟩ rfl (by rw [e1] <;> rfl) (Nat.le_of_ble_eq_true rfl) dL_law_486 ?_
        exact tl_says F hX hbb hN hi hj (r := (f_m_sayswl t (xs (i + 2)) m).1) (k := 1) (c' := c) (m' := (f_m_sayswl t (xs (i + 2)) m).2) (v' := v) (by show 50 + j + 1 ≤ 51 + j; omega) (by show 431 + 6 * j + 6 ≤ 437 + 6 * j; omega) (by rw [e1]; exact k_m_sayswl l D K base Y t ht (xs (i + 2)) m hM hw0) (hM.upo rfl) (up2_eq m 20 0 _) (fun h => absurd h (by decide)) (nx _ _ _ _ _ (by show 50 + j + 1 ≤ 51 + j; omega) (by show 431 + 6 * j + 6 ≤ 437 + 6 * j; omega) ((r_thr hR).mono (by omega)) (hI) (hM.upo rfl))
      · have hw2 : (2 : Int32) < xs (i + 2) := Int32.lt_iff_toInt_lt.mpr (hw.resolve_left (fun q => hw0 (Int32.lt_iff_toInt_lt.mpr q)))
        refine G.callW (mW Y K m) [] F (h_says_w l hl D K base X o t ht (xs (i + 2)) c hI hw v) WW_n WW_n.symm cwL_90 ⟨by decide, by decide⟩ ⟨by show 50 + j + 1 ≤ 663151; omega, by show 431 + 6 * j + 6 ≤ 7106618; omega⟩ rfl (by rw [e1] <;> rfl) (Nat.le_of_ble_eq_true rfl) dL_law_486 ?_
        exact tl_says F hX hbb hN hi hj (r := (f_m_sayswh t (xs (i + 2)) m).1) (k := 1) (c' := c) (m' := (f_m_sayswh t (xs (i + 2)) m).2) (v' := v) (by show 50 + j + 1 ≤ 51 + j; omega) (by show 431 + 6 * j + 6 ≤ 437 + 6 * j; omega) (by rw [e1]; exact k_m_sayswh l D K base Y t ht (xs (i + 2)) m hM hw0 hw2) (hM.upo rfl) (up2_eq m 20 0 _) (fun h => absurd h (by decide)) (nx _ _ _ _ _ (by show 50 + j + 1 ≤ 51 + j; omega) (by show 431 + 6 * j + 6 ≤ 437 + 6 * j; omega) ((r_thr hR).mono (by omega)) (hI) (hM.upo rfl))
  · skip
    refine G.callW (mW Y K m) [] F (h_says_x l hl D K base X o (xs (i + 1)) (xs (i + 2)) c hI hv v) WW_n WW_n.symm cwL_90 ⟨by decide, by decide⟩ ⟨by show 50 + j + 1 ≤ 663151; omega, by show 431 + 6 * j + 6 ≤ 7106618; omega⟩ rfl rfl (Nat.le_of_ble_eq_true rfl) dL_law_486 ?_
    exact tl_says F hX hbb hN hi hj (r := (f_m_saysb (xs (i + 1)) (xs (i + 2)) m).1) (k := 1) (c' := c) (m' := (f_m_saysb (xs (i + 1)) (xs (i + 2)) m).2) (v' := v) (by show 50 + j + 1 ≤ 51 + j; omega) (by show 431 + 6 * j + 6 ≤ 437 + 6 * j; omega) (k_m_saysb l D K base Y (xs (i + 1)) (xs (i + 2)) m hM (noThr hv)) (hM.upo rfl) (up2_eq m 20 0 _) (fun h => absurd h (by decide)) (nx _ _ _ _ _ (by show 50 + j + 1 ≤ 51 + j; omega) (by show 431 + 6 * j + 6 ≤ 437 + 6 * j; omega) ((r_thr hR).mono (by omega)) (hI) (hM.upo rfl))
set_option maxRecDepth 100000 in
set_option maxHeartbeats 4000000 in
theorem law_7 (F : Fx κ A D K base code RL 7) (hl : l.stackTraces = false) (hX : va_X b N xs κ.2.2.1 κ.2.2.1.heap) (hbb : b < base) (hN : N ≤ 2049) (hi : i + 4 ≤ N) (hj : j ≤ 600) (hR : Rel j c m) (hI : Inv c) (hM : InvM m) (nx : Nxt κ l A Q D K b X Y o i j) : G κ l room_1 A Q D 7 (50 + j) (431 + 6 * j) (WW X Y K o c m v) 540 (LL b X Y o i) [] := by
  refine G.aload_n 3 F dL_law_540 rfl rfl ?_
  refine G.aload_n 1 F dL_law_541 rfl rfl ?_
  by_cases hb0 : c 22 0 = 0
  · skip
    refine G.callW (mW Y K m) [] F (h_advance_g l D K base X o c hI hb0 v) WW_n WW_n.symm cwL_93 ⟨by decide, by decide⟩ ⟨by show 50 + j + 0 ≤ 663151; omega, by show 431 + 6 * j + 0 ≤ 7106618; omega⟩ rfl rfl (Nat.le_of_ble_eq_true rfl) dL_law_542 ?_
    exact tl_advance F hX hbb hN hi hj (r := (f_m_advance m).1) (k := 0) (c' := (f_advance c).2) (m' := (f_m_advance m).2) (v' := vp_updL v 0 (if (f_advance c).1 = 0 then 0 else 1)) (by show 50 + j + 0 ≤ 51 + j; omega) (by show 431 + 6 * j + 0 ≤ 437 + 6 * j; omega) (k_m_advance l D K base Y m hM) (i_m_advance m hM) ((a_adv_g hR hb0).1) (fun _ => by show (if (f_advance c).1 = 0 then (0 : Int64) else 1) = _; rw [(a_adv_g hR hb0).2.1]) (nx _ _ _ _ _ (by show 50 + j + 0 ≤ 51 + j; omega) (by show 431 + 6 * j + 0 ≤ 437 + 6 * j; omega) ((a_adv_g hR hb0).2.2.2) (i_advance c hI hb0) (i_m_advance m hM))
  · skip
    refine G.callW (mW Y K m) [] F (h_advance_x l hl D K base X o c hI hb0 v) WW_n WW_n.symm cwL_93 ⟨by decide, by decide⟩ ⟨by show 50 + j + 1 ≤ 663151; omega, by show 431 + 6 * j + 6 ≤ 7106618; omega⟩ rfl rfl (Nat.le_of_ble_eq_true rfl) dL_law_542 ?_
    exact tl_advance F hX hbb hN hi hj (r := (f_m_advance m).1) (k := 1) (c' := c) (m' := (f_m_advance m).2) (v' := v) (by show 50 + j + 1 ≤ 51 + j; omega) (by show 431 + 6 * j + 6 ≤ 437 + 6 * j; omega) (k_m_advance l D K base Y m hM) (by rw [a_adv_x hR hb0]; exact hM.upo rfl) (by rw [a_adv_x hR hb0]; exact up2_eq m 20 0 _) (fun h => absurd h (by decide)) (nx _ _ _ _ _ (by show 50 + j + 1 ≤ 51 + j; omega) (by show 431 + 6 * j + 6 ≤ 437 + 6 * j; omega) (by rw [a_adv_x hR hb0]; exact (r_thr hR).mono (by omega)) (hI) (by rw [a_adv_x hR hb0]; exact hM.upo rfl))
set_option maxRecDepth 100000 in
set_option maxHeartbeats 4000000 in
theorem law_8 (F : Fx κ A D K base code RL 7) (hl : l.stackTraces = false) (hX : va_X b N xs κ.2.2.1 κ.2.2.1.heap) (hbb : b < base) (hN : N ≤ 2049) (hi : i + 4 ≤ N) (hj : j ≤ 600) (hR : Rel j c m) (hI : Inv c) (hM : InvM m) (nx : Nxt κ l A Q D K b X Y o i j) : G κ l room_1 A Q D 7 (50 + j) (431 + 6 * j) (WW X Y K o c m v) 591 (LL b X Y o i) [] := by
  refine G.aload_n 3 F dL_law_591 rfl rfl ?_
  refine G.arg 1 4 0 F hX hbb rfl rfl (by omega) hN rfl dL_law_592 dL_law_593 dL_law_595 dL_law_596 dL_law_597 ?_
  refine G.aload_n 1 F dL_law_598 rfl rfl ?_
  rcases thr_cases (xs (i + 1)) with ⟨t, ht, e1⟩ | hv
  · by_cases hb0 : c 22 0 = 1
    · skip
      refine G.callW (mW Y K m) [] F (h_scan_g l D K base X o t ht c hI hb0 v) WW_n WW_n.symm cwL_97 ⟨by decide, by decide⟩ ⟨by show 50 + j + 0 ≤ 663151; omega, by show 431 + 6 * j + 0 ≤ 7106618; omega⟩ rfl (by rw [e1] <;> rfl) (Nat.le_of_ble_eq_true rfl) dL_law_599 ?_
      exact tl_scan F hX hbb hN hi hj (r := (f_m_scang t m).1) (k := 0) (c' := (f_scan t c).2) (m' := (f_m_scang t m).2) (v' := vp_updL v 0 ((f_scan t c).1).toInt64) (by show 50 + j + 0 ≤ 51 + j; omega) (by show 431 + 6 * j + 0 ≤ 437 + 6 * j; omega) (by rw [e1]; exact k_m_scang l D K base Y t ht m hM) (i_m_scang t ht m hM) ((a_scan_g hR ht hb0).1) (fun _ => by show ((f_scan t c).1).toInt64 = _; rw [(a_scan_g hR ht hb0).2.1]) (nx _ _ _ _ _ (by show 50 + j + 0 ≤ 51 + j; omega) (by show 431 + 6 * j + 0 ≤ 437 + 6 * j; omega) ((a_scan_g hR ht hb0).2.2.mono (by omega)) (i_scan t ht c hI hb0) (i_m_scang t ht m hM))
    · skip
      refine G.callW (mW Y K m) [] F (h_scan_s l hl D K base X o t ht c hI hb0 v) WW_n WW_n.symm cwL_97 ⟨by decide, by decide⟩ ⟨by show 50 + j + 1 ≤ 663151; omega, by show 431 + 6 * j + 6 ≤ 7106618; omega⟩ rfl (by rw [e1] <;> rfl) (Nat.le_of_ble_eq_true rfl) dL_law_599 ?_
      exact tl_scan F hX hbb hN hi hj (r := (f_m_scang t m).1) (k := 2) (c' := c) (m' := (f_m_scang t m).2) (v' := v) (by show 50 + j + 1 ≤ 51 + j; omega) (by show 431 + 6 * j + 6 ≤ 437 + 6 * j; omega) (by rw [e1]; exact k_m_scang l D K base Y t ht m hM) (by rw [a_scan_s hR hb0]; exact hM.upo rfl) (by rw [a_scan_s hR hb0]; exact up2_eq m 20 0 _) (fun h => absurd h (by decide)) (nx _ _ _ _ _ (by show 50 + j + 1 ≤ 51 + j; omega) (by show 431 + 6 * j + 6 ≤ 437 + 6 * j; omega) (by rw [a_scan_s hR hb0]; exact (r_thr hR).mono (by omega)) (hI) (by rw [a_scan_s hR hb0]; exact hM.upo rfl))
  · skip
    refine G.callW (mW Y K m) [] F (h_scan_x l hl D K base X o (xs (i + 1)) c hI hv v) WW_n WW_n.symm cwL_97 ⟨by decide, by decide⟩ ⟨by show 50 + j + 1 ≤ 663151; omega, by show 431 + 6 * j + 6 ≤ 7106618; omega⟩ rfl rfl (Nat.le_of_ble_eq_true rfl) dL_law_599 ?_
    exact tl_scan F hX hbb hN hi hj (r := (f_m_scanb (xs (i + 1)) m).1) (k := 1) (c' := c) (m' := (f_m_scanb (xs (i + 1)) m).2) (v' := v) (by show 50 + j + 1 ≤ 51 + j; omega) (by show 431 + 6 * j + 6 ≤ 437 + 6 * j; omega) (k_m_scanb l D K base Y (xs (i + 1)) m hM (noThr hv)) (hM.upo rfl) (up2_eq m 20 0 _) (fun h => absurd h (by decide)) (nx _ _ _ _ _ (by show 50 + j + 1 ≤ 51 + j; omega) (by show 431 + 6 * j + 6 ≤ 437 + 6 * j; omega) ((r_thr hR).mono (by omega)) (hI) (hM.upo rfl))
set_option maxRecDepth 100000 in
set_option maxHeartbeats 4000000 in
theorem law_9 (F : Fx κ A D K base code RL 7) (hl : l.stackTraces = false) (hX : va_X b N xs κ.2.2.1 κ.2.2.1.heap) (hbb : b < base) (hN : N ≤ 2049) (hi : i + 4 ≤ N) (hj : j ≤ 600) (hR : Rel j c m) (hI : Inv c) (hM : InvM m) (nx : Nxt κ l A Q D K b X Y o i j) : G κ l room_1 A Q D 7 (50 + j) (431 + 6 * j) (WW X Y K o c m v) 647 (LL b X Y o i) [] := by
  refine G.aload_n 3 F dL_law_647 rfl rfl ?_
  refine G.arg 1 4 0 F hX hbb rfl rfl (by omega) hN rfl dL_law_648 dL_law_649 dL_law_651 dL_law_652 dL_law_653 ?_
  refine G.arg 2 4 0 F hX hbb rfl rfl (by omega) hN rfl dL_law_654 dL_law_655 dL_law_657 dL_law_658 dL_law_659 ?_
  refine G.aload_n 1 F dL_law_660 rfl rfl ?_
  by_cases hv : xs (i + 1) < 0
  · skip
    refine G.callW (mW Y K m) [] F (h_block_bl l hl D K base X o (xs (i + 1)) (xs (i + 2)) c hI hv v) WW_n WW_n.symm cwL_100 ⟨by decide, by decide⟩ ⟨by show 50 + j + 1 ≤ 663151; omega, by show 431 + 6 * j + 6 ≤ 7106618; omega⟩ rfl rfl (Nat.le_of_ble_eq_true rfl) dL_law_661 ?_
    exact tl_block F hX hbb hN hi hj (r := (f_m_blockbl (xs (i + 1)) (xs (i + 2)) m).1) (k := 1) (c' := c) (m' := (f_m_blockbl (xs (i + 1)) (xs (i + 2)) m).2) (v' := v) (by show 50 + j + 1 ≤ 51 + j; omega) (by show 431 + 6 * j + 6 ≤ 437 + 6 * j; omega) (k_m_blockbl l D K base Y (xs (i + 1)) (xs (i + 2)) m hM hv) (hM.upo rfl) (up2_eq m 20 0 _) (fun h => absurd h (by decide)) (nx _ _ _ _ _ (by show 50 + j + 1 ≤ 51 + j; omega) (by show 431 + 6 * j + 6 ≤ 437 + 6 * j; omega) ((r_thr hR).mono (by omega)) (hI) (hM.upo rfl))
  · by_cases hv2 : xs (i + 1) ≤ 20
    · obtain ⟨k, hk, e1⟩ := blk_nat hv hv2
      by_cases hw : xs (i + 2) < 0
      · skip
        refine G.callW (mW Y K m) [] F (h_block_wl l hl D K base X o (xs (i + 1)) (xs (i + 2)) c hI hv hv2 hw v) WW_n WW_n.symm cwL_100 ⟨by decide, by decide⟩ ⟨by show 50 + j + 1 ≤ 663151; omega, by show 431 + 6 * j + 6 ≤ 7106618; omega⟩ rfl rfl (Nat.le_of_ble_eq_true rfl) dL_law_661 ?_
        exact tl_block F hX hbb hN hi hj (r := (f_m_blockg k (xs (i + 2)) m).1) (k := 1) (c' := c) (m' := (f_m_blockg k (xs (i + 2)) m).2) (v' := v) (by show 50 + j + 1 ≤ 51 + j; omega) (by show 431 + 6 * j + 6 ≤ 437 + 6 * j; omega) (by rw [e1]; exact k_m_blockg l D K base Y k hk (xs (i + 2)) m hM) (by rw [a_block_w (Or.inl hw)]; exact hM.upo rfl) (by rw [a_block_w (Or.inl hw)]; exact up2_eq m 20 0 _) (fun h => absurd h (by decide)) (nx _ _ _ _ _ (by show 50 + j + 1 ≤ 51 + j; omega) (by show 431 + 6 * j + 6 ≤ 437 + 6 * j; omega) (by rw [a_block_w (Or.inl hw)]; exact (r_thr hR).mono (by omega)) (hI) (by rw [a_block_w (Or.inl hw)]; exact hM.upo rfl))
      · by_cases hw2 : xs (i + 2) ≤ 5
        · skip
          refine G.callW (mW Y K m) [] F (h_block_g l D K base X o k hk (xs (i + 2)) c hI hw hw2 v) WW_n WW_n.symm cwL_100 ⟨by decide, by decide⟩ ⟨by show 50 + j + 0 ≤ 663151; omega, by show 431 + 6 * j + 0 ≤ 7106618; omega⟩ rfl (by rw [e1] <;> rfl) (Nat.le_of_ble_eq_true rfl) dL_law_661 ?_
          exact tl_block F hX hbb hN hi hj (r := (f_m_blockg k (xs (i + 2)) m).1) (k := 0) (c' := c) (m' := (f_m_blockg k (xs (i + 2)) m).2) (v' := vp_updL v 0 (f_block k (xs (i + 2)) c).toInt64) (by show 50 + j + 0 ≤ 51 + j; omega) (by show 431 + 6 * j + 0 ≤ 437 + 6 * j; omega) (by rw [e1]; exact k_m_blockg l D K base Y k hk (xs (i + 2)) m hM) (by rw [a_block_g hR hk hw hw2]; exact hM.upo rfl) (by rw [a_block_g hR hk hw hw2]; exact up2_eq m 20 0 _) (fun _ => by show (f_block k (xs (i + 2)) c).toInt64 = _; rw [a_block_g hR hk hw hw2]) (nx _ _ _ _ _ (by show 50 + j + 0 ≤ 51 + j; omega) (by show 431 + 6 * j + 0 ≤ 437 + 6 * j; omega) (by rw [a_block_g hR hk hw hw2]; exact (r_thr hR).mono (by omega)) (hI) (by rw [a_block_g hR hk hw hw2]; exact hM.upo rfl))
        · skip
          refine G.callW (mW Y K m) [] F (h_block_wh l hl D K base X o (xs (i + 1)) (xs (i + 2)) c hI hv hv2 hw hw2 v) WW_n WW_n.symm cwL_100 ⟨by decide, by decide⟩ ⟨by show 50 + j + 1 ≤ 663151; omega, by show 431 + 6 * j + 6 ≤ 7106618; omega⟩ rfl rfl (Nat.le_of_ble_eq_true rfl) dL_law_661 ?_
          exact tl_block F hX hbb hN hi hj (r := (f_m_blockg k (xs (i + 2)) m).1) (k := 1) (c' := c) (m' := (f_m_blockg k (xs (i + 2)) m).2) (v' := v) (by show 50 + j + 1 ≤ 51 + j; omega) (by show 431 + 6 * j + 6 ≤ 437 + 6 * j; omega) (by rw [e1]; exact k_m_blockg l D K base Y k hk (xs (i + 2)) m hM) (by rw [a_block_w (Or.inr hw2)]; exact hM.upo rfl) (by rw [a_block_w (Or.inr hw2)]; exact up2_eq m 20 0 _) (fun h => absurd h (by decide)) (nx _ _ _ _ _ (by show 50 + j + 1 ≤ 51 + j; omega) (by show 431 + 6 * j + 6 ≤ 437 + 6 * j; omega) (by rw [a_block_w (Or.inr hw2)]; exact (r_thr hR).mono (by omega)) (hI) (by rw [a_block_w (Or.inr hw2)]; exact hM.upo rfl))
    · skip
      refine G.callW (mW Y K m) [] F (h_block_bh l hl D K base X o (xs (i + 1)) (xs (i + 2)) c hI hv hv2 v) WW_n WW_n.symm cwL_100 ⟨by decide, by decide⟩ ⟨by show 50 + j + 1 ≤ 663151; omega, by show 431 + 6 * j + 6 ≤ 7106618; omega⟩ rfl rfl (Nat.le_of_ble_eq_true rfl) dL_law_661 ?_
      exact tl_block F hX hbb hN hi hj (r := (f_m_blockbh (xs (i + 1)) (xs (i + 2)) m).1) (k := 1) (c' := c) (m' := (f_m_blockbh (xs (i + 1)) (xs (i + 2)) m).2) (v' := v) (by show 50 + j + 1 ≤ 51 + j; omega) (by show 431 + 6 * j + 6 ≤ 437 + 6 * j; omega) (k_m_blockbh l D K base Y (xs (i + 1)) (xs (i + 2)) m hM hv (Int32.not_le.mp hv2)) (hM.upo rfl) (up2_eq m 20 0 _) (fun h => absurd h (by decide)) (nx _ _ _ _ _ (by show 50 + j + 1 ≤ 51 + j; omega) (by show 431 + 6 * j + 6 ≤ 437 + 6 * j; omega) ((r_thr hR).mono (by omega)) (hI) (hM.upo rfl))
set_option maxRecDepth 100000 in
set_option maxHeartbeats 4000000 in
theorem law_10 (F : Fx κ A D K base code RL 7) (hl : l.stackTraces = false) (hX : va_X b N xs κ.2.2.1 κ.2.2.1.heap) (hbb : b < base) (hN : N ≤ 2049) (hi : i + 4 ≤ N) (hj : j ≤ 600) (hR : Rel j c m) (hI : Inv c) (hM : InvM m) (nx : Nxt κ l A Q D K b X Y o i j) : G κ l room_1 A Q D 7 (50 + j) (431 + 6 * j) (WW X Y K o c m v) 715 (LL b X Y o i) [] := by
  refine G.aload_n 3 F dL_law_715 rfl rfl ?_
  refine G.callFi (q0 := 0) (ci := 0) (mW Y K m) (oW o K v) F (k_size l D K base X c hI) rfl rfl ckL_103 cW_x rfl rfl ⟨rfl, rfl⟩ ⟨by decide, by decide⟩ ⟨by show 50 + j ≤ 663151; omega, by show 431 + 6 * j ≤ 7106618; omega⟩ rfl rfl (Nat.le_of_ble_eq_true rfl) dL_law_716 ?_
  refine G.aload_n 2 F dL_law_719 rfl rfl ?_
  refine G.callFi (q0 := 0) (ci := 3) [] (cW X K c ++ oW o K v) F (k_m_size l D K base Y m hM) rfl rfl ckL_106 mW_m rfl rfl ⟨rfl, rfl⟩ ⟨by decide, by decide⟩ ⟨by show 50 + j ≤ 663151; omega, by show 431 + 6 * j ≤ 7106618; omega⟩ rfl rfl (Nat.le_of_ble_eq_true rfl) dL_law_720 ?_
  rw [a_size hR]
  refine G.icmp_eq 779 F dL_law_723 rfl (fun _ => ?_) (fun h => absurd rfl h)
  exact nx _ _ _ _ _ (by omega) (by omega) ((r_thr hR).mono (by omega)) hI (hM.upo rfl)
set_option maxRecDepth 100000 in
set_option maxHeartbeats 4000000 in
theorem law_11 (F : Fx κ A D K base code RL 7) (hl : l.stackTraces = false) (hX : va_X b N xs κ.2.2.1 κ.2.2.1.heap) (hbb : b < base) (hN : N ≤ 2049) (hi : i + 4 ≤ N) (hj : j ≤ 600) (hR : Rel j c m) (hI : Inv c) (hM : InvM m) (nx : Nxt κ l A Q D K b X Y o i j) : G κ l room_1 A Q D 7 (50 + j) (431 + 6 * j) (WW X Y K o c m v) 728 (LL b X Y o i) [] := by
  refine G.aload_n 3 F dL_law_728 rfl rfl ?_
  refine G.arg 1 4 0 F hX hbb rfl rfl (by omega) hN rfl dL_law_729 dL_law_730 dL_law_732 dL_law_733 dL_law_734 ?_
  refine G.callFi (q0 := 0) (ci := 0) (mW Y K m) (oW o K v) F (k_has l D K base X (xs (i + 1)) c hI) rfl rfl ckL_107 cW_x rfl rfl ⟨rfl, rfl⟩ ⟨by decide, by decide⟩ ⟨by show 50 + j ≤ 663151; omega, by show 431 + 6 * j ≤ 7106618; omega⟩ rfl rfl (Nat.le_of_ble_eq_true rfl) dL_law_735 ?_
  refine G.aload_n 2 F dL_law_738 rfl rfl ?_
  refine G.arg 1 4 0 F hX hbb rfl rfl (by omega) hN rfl dL_law_739 dL_law_740 dL_law_742 dL_law_743 dL_law_744 ?_
  refine G.callFi (q0 := 0) (ci := 3) [] (cW X K c ++ oW o K v) F (k_m_has l D K base Y (xs (i + 1)) m hM) rfl rfl ckL_111 mW_m rfl rfl ⟨rfl, rfl⟩ ⟨by decide, by decide⟩ ⟨by show 50 + j ≤ 663151; omega, by show 431 + 6 * j ≤ 7106618; omega⟩ rfl rfl (Nat.le_of_ble_eq_true rfl) dL_law_745 ?_
  rw [a_has hR]
  refine G.icmp_eq 779 F dL_law_748 rfl (fun _ => ?_) (fun h => absurd rfl h)
  exact nx _ _ _ _ _ (by omega) (by omega) ((r_thr hR).mono (by omega)) hI (hM.upo rfl)
set_option maxRecDepth 100000 in
set_option maxHeartbeats 4000000 in
theorem law_12 (F : Fx κ A D K base code RL 7) (hl : l.stackTraces = false) (hX : va_X b N xs κ.2.2.1 κ.2.2.1.heap) (hbb : b < base) (hN : N ≤ 2049) (hi : i + 4 ≤ N) (hj : j ≤ 600) (hR : Rel j c m) (hI : Inv c) (hM : InvM m) (nx : Nxt κ l A Q D K b X Y o i j) : G κ l room_1 A Q D 7 (50 + j) (431 + 6 * j) (WW X Y K o c m v) 753 (LL b X Y o i) [] := by
  refine G.aload_n 3 F dL_law_753 rfl rfl ?_
  refine G.callFi (q0 := 0) (ci := 0) (mW Y K m) (oW o K v) F (k_faults l D K base X c hI) rfl rfl ckL_112 cW_x rfl rfl ⟨rfl, rfl⟩ ⟨by decide, by decide⟩ ⟨by show 50 + j ≤ 663151; omega, by show 431 + 6 * j ≤ 7106618; omega⟩ rfl rfl (Nat.le_of_ble_eq_true rfl) dL_law_754 ?_
  refine G.aload_n 2 F dL_law_757 rfl rfl ?_
  refine G.callFi (q0 := 0) (ci := 3) [] (cW X K c ++ oW o K v) F (k_m_faults l D K base Y m hM) rfl rfl ckL_115 mW_m rfl rfl ⟨rfl, rfl⟩ ⟨by decide, by decide⟩ ⟨by show 50 + j ≤ 663151; omega, by show 431 + 6 * j ≤ 7106618; omega⟩ rfl rfl (Nat.le_of_ble_eq_true rfl) dL_law_758 ?_
  rw [a_faults hR]
  refine G.icmp_eq 779 F dL_law_761 rfl (fun _ => ?_) (fun h => absurd rfl h)
  exact nx _ _ _ _ _ (by omega) (by omega) ((r_thr hR).mono (by omega)) hI (hM.upo rfl)
set_option maxRecDepth 100000 in
set_option maxHeartbeats 4000000 in
theorem law_13 (F : Fx κ A D K base code RL 7) (hl : l.stackTraces = false) (hX : va_X b N xs κ.2.2.1 κ.2.2.1.heap) (hbb : b < base) (hN : N ≤ 2049) (hi : i + 4 ≤ N) (hj : j ≤ 600) (hR : Rel j c m) (hI : Inv c) (hM : InvM m) (nx : Nxt κ l A Q D K b X Y o i j) : G κ l room_1 A Q D 7 (50 + j) (431 + 6 * j) (WW X Y K o c m v) 766 (LL b X Y o i) [] := by
  refine G.aload_n 3 F dL_law_766 rfl rfl ?_
  refine G.callFi (q0 := 0) (ci := 0) (mW Y K m) (oW o K v) F (k_epoch l D K base X c hI) rfl rfl ckL_116 cW_x rfl rfl ⟨rfl, rfl⟩ ⟨by decide, by decide⟩ ⟨by show 50 + j ≤ 663151; omega, by show 431 + 6 * j ≤ 7106618; omega⟩ rfl rfl (Nat.le_of_ble_eq_true rfl) dL_law_767 ?_
  refine G.aload_n 2 F dL_law_770 rfl rfl ?_
  refine G.callFi (q0 := 0) (ci := 3) [] (cW X K c ++ oW o K v) F (k_m_epoch l D K base Y m hM) rfl rfl ckL_119 mW_m rfl rfl ⟨rfl, rfl⟩ ⟨by decide, by decide⟩ ⟨by show 50 + j ≤ 663151; omega, by show 431 + 6 * j ≤ 7106618; omega⟩ rfl rfl (Nat.le_of_ble_eq_true rfl) dL_law_771 ?_
  rw [a_epoch hR]
  refine G.icmp_eq 779 F dL_law_774 rfl (fun _ => ?_) (fun h => absurd rfl h)
  exact nx _ _ _ _ _ (by omega) (by omega) ((r_thr hR).mono (by omega)) hI (hM.upo rfl)
set_option maxRecDepth 100000 in
set_option maxHeartbeats 4000000 in
theorem law_loop (F : Fx κ A D K base code RL 7) (hl : l.stackTraces = false) (hX : va_X b N xs κ.2.2.1 κ.2.2.1.heap) (hbb : b < base) (hN : N ≤ 2049) (ret : ∀ (cl sl : Nat) (σ : va_W) (L : List (Nat × Value)), cl ≤ 663151 → sl ≤ 7106618 → G κ l room_1 A Q D 7 cl sl σ 785 L []) : ∀ (n j : Nat) (c m : CS) (v : Nat → Int64), j + n = 513 → Rel j c m → Inv c → InvM m → G κ l room_1 A Q D 7 (50 + j) (431 + 6 * j) (WW X Y K o c m v) 33 (LL b X Y o (1 + 4 * j)) [] := by
  intro n
  induction n with
  | zero =>
    intro j c m v hj hR hI hM
    refine G.iload 0 F dL_law_33 rfl ?_
    refine G.aload_n 4 F dL_law_35 rfl rfl ?_
    refine G.slen F hX hbb dL_law_36 ?_
    refine G.iconst 4 F dL_law_37 (by decide) ?_
    refine G.isub F dL_law_38 ?_
    refine G.icmp_gt 785 F dL_law_39 rfl (fun _ => ret _ _ _ _ (by omega) (by omega)) (fun h => ?_)
    have := lim_nlt hN (i := 1 + 4 * j) (by omega) h
    omega
  | succ n ih =>
    intro j c m v hj hR hI hM
    refine G.iload 0 F dL_law_33 rfl ?_
    refine G.aload_n 4 F dL_law_35 rfl rfl ?_
    refine G.slen F hX hbb dL_law_36 ?_
    refine G.iconst 4 F dL_law_37 (by decide) ?_
    refine G.isub F dL_law_38 ?_
    refine G.icmp_gt 785 F dL_law_39 rfl (fun _ => ret _ _ _ _ (by omega) (by omega)) (fun h => ?_)
    have hi := lim_nlt hN (i := 1 + 4 * j) (by omega) h
    have hj6 : j ≤ 600 := by omega
    have nx : Nxt κ l A Q D K b X Y o (1 + 4 * j) j := by
      intro c' m' v' cl sl h1 h2 hR' hI' hM'
      refine G.iinc 0 (nI (1 + 4 * (j + 1))) F dL_law_779 rfl ((nI_plus (1 + 4 * j) 4).trans (congrArg nI (by omega))) (by decide) rfl ?_
      refine G.goto 33 F dL_law_782 rfl ?_
      refine G.widen (k := 50 + (j + 1)) (n := 431 + 6 * (j + 1)) (by omega) (by omega) ?_
      exact ih (j + 1) c' m' v' (by omega) hR' hI' hM'
    refine G.aload_n 4 F dL_law_42 rfl rfl ?_
    refine G.iload 0 F dL_law_43 rfl ?_
    refine G.sld F hX hbb (vp_in_nI (by omega) (by omega)) dL_law_45 ?_
    refine G.bipush 15 F dL_law_46 (by decide) ?_
    refine G.iand F dL_law_48 ?_
    generalize xs (nI (1 + 4 * j)).toNatClampNeg &&& 15 = w
    by_cases h0 : w = 0
    · refine G.tabIn 120 F dL_law_49 (sw_lo h0 (by decide)) (sw_hi h0 (by decide)) (sw_at h0 rfl) rfl ?_
      exact law_0 F hl hX hbb hN hi hj6 hR hI hM nx
    by_cases h1 : w = 1
    · refine G.tabIn 180 F dL_law_49 (sw_lo h1 (by decide)) (sw_hi h1 (by decide)) (sw_at h1 rfl) rfl ?_
      exact law_1 F hl hX hbb hN hi hj6 hR hI hM nx
    by_cases h2 : w = 2
    · refine G.tabIn 236 F dL_law_49 (sw_lo h2 (by decide)) (sw_hi h2 (by decide)) (sw_at h2 rfl) rfl ?_
      exact law_2 F hl hX hbb hN hi hj6 hR hI hM nx
    by_cases h3 : w = 3
    · refine G.tabIn 292 F dL_law_49 (sw_lo h3 (by decide)) (sw_hi h3 (by decide)) (sw_at h3 rfl) rfl ?_
      exact law_3 F hl hX hbb hN hi hj6 hR hI hM nx
    by_cases h4 : w = 4
    · refine G.tabIn 348 F dL_law_49 (sw_lo h4 (by decide)) (sw_hi h4 (by decide)) (sw_at h4 rfl) rfl ?_
      exact law_4 F hl hX hbb hN hi hj6 hR hI hM nx
    by_cases h5 : w = 5
    · refine G.tabIn 404 F dL_law_49 (sw_lo h5 (by decide)) (sw_hi h5 (by decide)) (sw_at h5 rfl) rfl ?_
      exact law_5 F hl hX hbb hN hi hj6 hR hI hM nx
    by_cases h6 : w = 6
    · refine G.tabIn 472 F dL_law_49 (sw_lo h6 (by decide)) (sw_hi h6 (by decide)) (sw_at h6 rfl) rfl ?_
      exact law_6 F hl hX hbb hN hi hj6 hR hI hM nx
    by_cases h7 : w = 7
    · refine G.tabIn 540 F dL_law_49 (sw_lo h7 (by decide)) (sw_hi h7 (by decide)) (sw_at h7 rfl) rfl ?_
      exact law_7 F hl hX hbb hN hi hj6 hR hI hM nx
    by_cases h8 : w = 8
    · refine G.tabIn 591 F dL_law_49 (sw_lo h8 (by decide)) (sw_hi h8 (by decide)) (sw_at h8 rfl) rfl ?_
      exact law_8 F hl hX hbb hN hi hj6 hR hI hM nx
    by_cases h9 : w = 9
    · refine G.tabIn 647 F dL_law_49 (sw_lo h9 (by decide)) (sw_hi h9 (by decide)) (sw_at h9 rfl) rfl ?_
      exact law_9 F hl hX hbb hN hi hj6 hR hI hM nx
    by_cases h10 : w = 10
    · refine G.tabIn 715 F dL_law_49 (sw_lo h10 (by decide)) (sw_hi h10 (by decide)) (sw_at h10 rfl) rfl ?_
      exact law_10 F hl hX hbb hN hi hj6 hR hI hM nx
    by_cases h11 : w = 11
    · refine G.tabIn 728 F dL_law_49 (sw_lo h11 (by decide)) (sw_hi h11 (by decide)) (sw_at h11 rfl) rfl ?_
      exact law_11 F hl hX hbb hN hi hj6 hR hI hM nx
    by_cases h12 : w = 12
    · refine G.tabIn 753 F dL_law_49 (sw_lo h12 (by decide)) (sw_hi h12 (by decide)) (sw_at h12 rfl) rfl ?_
      exact law_12 F hl hX hbb hN hi hj6 hR hI hM nx
    by_cases h13 : w = 13
    · refine G.tabIn 766 F dL_law_49 (sw_lo h13 (by decide)) (sw_hi h13 (by decide)) (sw_at h13 rfl) rfl ?_
      exact law_13 F hl hX hbb hN hi hj6 hR hI hM nx
    refine G.tabOut 779 F dL_law_49 ?_ rfl ?_
    · by_cases hc : w.toInt < 0 ∨ 13 < w.toInt
      · exact hc
      · exfalso
        have a3 : w.toInt = 0 ∨ w.toInt = 1 ∨ w.toInt = 2 ∨ w.toInt = 3 ∨ w.toInt = 4 ∨ w.toInt = 5 ∨ w.toInt = 6 ∨ w.toInt = 7 ∨ w.toInt = 8 ∨ w.toInt = 9 ∨ w.toInt = 10 ∨ w.toInt = 11 ∨ w.toInt = 12 ∨ w.toInt = 13 := by omega
        rcases a3 with q | q | q | q | q | q | q | q | q | q | q | q | q | q
        · exact h0 (Int32.toInt_inj.mp q)
        · exact h1 (Int32.toInt_inj.mp q)
        · exact h2 (Int32.toInt_inj.mp q)
        · exact h3 (Int32.toInt_inj.mp q)
        · exact h4 (Int32.toInt_inj.mp q)
        · exact h5 (Int32.toInt_inj.mp q)
        · exact h6 (Int32.toInt_inj.mp q)
        · exact h7 (Int32.toInt_inj.mp q)
        · exact h8 (Int32.toInt_inj.mp q)
        · exact h9 (Int32.toInt_inj.mp q)
        · exact h10 (Int32.toInt_inj.mp q)
        · exact h11 (Int32.toInt_inj.mp q)
        · exact h12 (Int32.toInt_inj.mp q)
        · exact h13 (Int32.toInt_inj.mp q)
    · exact nx _ _ _ _ _ (by omega) (by omega) (hR.mono (by omega)) hI hM
end MAIN

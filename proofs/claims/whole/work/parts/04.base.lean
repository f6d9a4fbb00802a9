-- ===== states as families of numbers =====
abbrev CS : Type := Nat → Nat → Int32
def up2 (c : CS) (f i : Nat) (v : Int32) : CS := fun a b => if a = f ∧ b = i then v else c a b
theorem up2_eq (c : CS) (f i : Nat) (v : Int32) : up2 c f i v f i = v := by simp [up2]
theorem up2_f (c : CS) {f a : Nat} (i b : Nat) (v : Int32) (h : a ≠ f) : up2 c f i v a b = c a b := by simp [up2, h]
theorem up2_i (c : CS) (f a : Nat) {i b : Nat} (v : Int32) (h : b ≠ i) : up2 c f i v a b = c a b := by simp [up2, h]
theorem up2_row (c : CS) (f i : Nat) (v : Int32) : up2 c f i v f = upd (c f) i v := by
  funext b
  simp [up2, upd]
theorem up2_rowf (c : CS) {f a : Nat} (i : Nat) (v : Int32) (h : a ≠ f) : up2 c f i v a = c a := by
  funext b
  simp [up2, h]
-- ===== worlds of n cells at the addresses X =====
def gW (n : Nat) (X : Nat → Nat) (E : Nat → va_E) : va_W := (List.range n).map (fun i => (X i, E i))
theorem gW_len (n : Nat) (X : Nat → Nat) (E : Nat → va_E) : (gW n X E).length = n := by simp [gW]
theorem gW_get {n : Nat} {X : Nat → Nat} {E : Nat → va_E} {i : Nat} (h : i < n) : (gW n X E)[i]? = some (X i, E i) := by
  simp [gW, h]
theorem gW_none {n : Nat} {X : Nat → Nat} {E : Nat → va_E} {i : Nat} (h : n ≤ i) : (gW n X E)[i]? = none := by
  rw [List.getElem?_eq_none_iff, gW_len]; exact h
theorem gW_ext {n : Nat} {X : Nat → Nat} {E : Nat → va_E} {l : va_W} (hl : l.length = n) (h : ∀ i, i < n → l[i]? = some (X i, E i)) : l = gW n X E := by
  apply List.ext_getElem?
  intro j
  by_cases hj : j < n
  · rw [h j hj, gW_get hj]
  · rw [gW_none (Nat.le_of_not_lt hj), List.getElem?_eq_none_iff, hl]; omega
theorem gW_set {n : Nat} {X : Nat → Nat} {E E' : Nat → va_E} {i : Nat} {e : va_E} (h : i < n) (he : E' i = e) (ho : ∀ j, j < n → j ≠ i → E' j = E j) : (gW n X E).set i (X i, e) = gW n X E' := by
  refine gW_ext (by rw [List.length_set, gW_len]) (fun j hj => ?_)
  by_cases hji : j = i
  · subst hji
    rw [List.getElem?_set_self (by rw [gW_len]; exact h), he]
  · rw [List.getElem?_set_ne (Ne.symm hji), gW_get hj, ho j hj hji]
theorem gW_congr {n : Nat} {X X' : Nat → Nat} {E E' : Nat → va_E} (hx : ∀ i, i < n → X i = X' i) (h : ∀ i, i < n → E i = E' i) : gW n X E = gW n X' E' :=
  gW_ext (by rw [gW_len]) (fun i hi => by rw [gW_get hi, hx i hi, h i hi])
theorem gW_push {n : Nat} {X : Nat → Nat} {E : Nat → va_E} {q : Nat} {e : va_E} : gW n X E ++ [(q, e)] = gW (n + 1) (va_up X n q) (va_up E n e) := by
  refine gW_ext (by rw [List.length_append, gW_len]; rfl) (fun j hj => ?_)
  by_cases hjn : j = n
  · subst hjn
    rw [List.getElem?_append_right (Nat.le_of_eq (gW_len ..)), gW_len, Nat.sub_self, va_up_self, va_up_self]
    rfl
  · rw [List.getElem?_append_left (by rw [gW_len]; omega), gW_get (by omega), va_up_ne _ _ hjn, va_up_ne _ _ hjn]
-- ===== the class's world: x, the array of blocks, 21 blocks, the array of workers, 4 workers =====
def bF (c : CS) (k : Nat) : List Value := [.int (c 0 k), .int (c 1 k), .int (c 2 k), .int (c 3 k), .int (c 4 k), .int (c 5 k)]
def wF (c : CS) (t : Nat) : List Value := [.int (c 6 t), .int (c 7 t), .int (c 8 t), .int (c 9 t), .int (c 10 t), .int (c 11 t), .int (c 12 t), .int (c 13 t), .int (c 14 t), .int (c 15 t), .int (c 16 t), .int (c 17 t), .int (c 18 t), .int (c 19 t), .int (c 20 t), .int (c 21 t)]
def xF (X : Nat → Nat) (c : CS) : List Value := [.int (c 22 0), .ref (X 1), .ref (X 23), .int (c 22 1), .int (c 22 2)]
def cE (X : Nat → Nat) (K : Nat → ClassId) (c : CS) (i : Nat) : va_E :=
  if i = 0 then .inr (0, xF X c)
  else if i = 1 then .inl (K 0, 21, .inr (.inr (.inr (.inr (fun k => some (X (2 + k)))))))
  else if i < 23 then .inr (1, bF c (i - 2))
  else if i = 23 then .inl (K 1, 4, .inr (.inr (.inr (.inr (fun t => some (X (24 + t)))))))
  else .inr (2, wF c (i - 24))
def cW (X : Nat → Nat) (K : Nat → ClassId) (c : CS) : va_W := gW 28 X (cE X K c)
theorem cW_x {X : Nat → Nat} {K : Nat → ClassId} {c : CS} : (cW X K c)[0]? = some (X 0, .inr (0, xF X c)) := gW_get (by omega)
theorem cW_ab {X : Nat → Nat} {K : Nat → ClassId} {c : CS} : (cW X K c)[1]? = some (X 1, .inl (K 0, 21, .inr (.inr (.inr (.inr (fun k => some (X (2 + k)))))))) := gW_get (by omega)
theorem cW_aw {X : Nat → Nat} {K : Nat → ClassId} {c : CS} : (cW X K c)[23]? = some (X 23, .inl (K 1, 4, .inr (.inr (.inr (.inr (fun t => some (X (24 + t)))))))) := gW_get (by omega)
theorem cE_b {X : Nat → Nat} {K : Nat → ClassId} {c : CS} {k : Nat} (h : k < 21) : cE X K c (2 + k) = .inr (1, bF c k) := by
  unfold cE
  rw [if_neg (by omega), if_neg (by omega), if_pos (by omega), show 2 + k - 2 = k by omega]
theorem cE_t {X : Nat → Nat} {K : Nat → ClassId} {c : CS} {t : Nat} : cE X K c (24 + t) = .inr (2, wF c t) := by
  unfold cE
  rw [if_neg (by omega), if_neg (by omega), if_neg (by omega), if_neg (by omega), show 24 + t - 24 = t by omega]
theorem cW_b {X : Nat → Nat} {K : Nat → ClassId} {c : CS} {k : Nat} (h : k < 21) : (cW X K c)[2 + k]? = some (X (2 + k), .inr (1, bF c k)) := by
  rw [show (cW X K c)[2 + k]? = some (X (2 + k), cE X K c (2 + k)) from gW_get (by omega), cE_b h]
theorem cW_t {X : Nat → Nat} {K : Nat → ClassId} {c : CS} {t : Nat} (h : t < 4) : (cW X K c)[24 + t]? = some (X (24 + t), .inr (2, wF c t)) := by
  rw [show (cW X K c)[24 + t]? = some (X (24 + t), cE X K c (24 + t)) from gW_get (by omega), cE_t]
/-- which cell a family lies in, and nowhere else -/
theorem cE_other {X : Nat → Nat} {K : Nat → ClassId} {c : CS} {f i j : Nat} {v : Int32} (h : (f < 6 ∧ j ≠ 2 + i) ∨ (6 ≤ f ∧ f < 22 ∧ j ≠ 24 + i) ∨ (f = 22 ∧ j ≠ 0)) : cE X K (up2 c f i v) j = cE X K c j := by
  unfold cE
  by_cases h0 : j = 0
  · rw [if_pos h0, if_pos h0]
    have hf : (22 : Nat) ≠ f := by omega
    simp only [xF, up2_f c _ _ v hf]
  · rw [if_neg h0, if_neg h0]
    by_cases h1 : j = 1
    · rw [if_pos h1, if_pos h1]
    · rw [if_neg h1, if_neg h1]
      by_cases h2 : j < 23
      · rw [if_pos h2, if_pos h2]
        have hb : bF (up2 c f i v) (j - 2) = bF c (j - 2) := by
          rcases h with h | h | h
          · have hk : j - 2 ≠ i := by omega
            simp only [bF, up2_i c _ _ v hk]
          · have hf : ∀ a, a < 6 → up2 c f i v a (j - 2) = c a (j - 2) := fun a ha => up2_f c _ _ v (by omega)
            simp only [bF, hf 0 (by omega), hf 1 (by omega), hf 2 (by omega), hf 3 (by omega), hf 4 (by omega), hf 5 (by omega)]
          · have hf : ∀ a, a < 6 → up2 c f i v a (j - 2) = c a (j - 2) := fun a ha => up2_f c _ _ v (by omega)
            simp only [bF, hf 0 (by omega), hf 1 (by omega), hf 2 (by omega), hf 3 (by omega), hf 4 (by omega), hf 5 (by omega)]
        rw [hb]
      · rw [if_neg h2, if_neg h2]
        by_cases h3 : j = 23
        · rw [if_pos h3, if_pos h3]
        · rw [if_neg h3, if_neg h3]
          have hw : ∀ a, 6 ≤ a → a < 22 → up2 c f i v a (j - 24) = c a (j - 24) := by
            intro a ha hb
            rcases h with h | h | h
            · exact up2_f c _ _ v (by omega)
            · exact up2_i c _ _ v (by omega)
            · exact up2_f c _ _ v (by omega)
          simp only [wF, hw 6 (by omega) (by omega), hw 7 (by omega) (by omega), hw 8 (by omega) (by omega), hw 9 (by omega) (by omega), hw 10 (by omega) (by omega), hw 11 (by omega) (by omega), hw 12 (by omega) (by omega), hw 13 (by omega) (by omega), hw 14 (by omega) (by omega), hw 15 (by omega) (by omega), hw 16 (by omega) (by omega), hw 17 (by omega) (by omega), hw 18 (by omega) (by omega), hw 19 (by omega) (by omega), hw 20 (by omega) (by omega), hw 21 (by omega) (by omega)]
theorem bF_set {c : CS} {k f : Nat} {v : Int32} (h : f < 6) : bF (up2 c f k v) k = (bF c k).set f (.int v) := by
  rcases (show f = 0 ∨ f = 1 ∨ f = 2 ∨ f = 3 ∨ f = 4 ∨ f = 5 by omega) with rfl | rfl | rfl | rfl | rfl | rfl <;> simp [bF, up2]
theorem wF_set {c : CS} {t f : Nat} {v : Int32} (h : f < 16) : wF (up2 c (6 + f) t v) t = (wF c t).set f (.int v) := by
  rcases (show f = 0 ∨ f = 1 ∨ f = 2 ∨ f = 3 ∨ f = 4 ∨ f = 5 ∨ f = 6 ∨ f = 7 ∨ f = 8 ∨ f = 9 ∨ f = 10 ∨ f = 11 ∨ f = 12 ∨ f = 13 ∨ f = 14 ∨ f = 15 by omega) with rfl | rfl | rfl | rfl | rfl | rfl | rfl | rfl | rfl | rfl | rfl | rfl | rfl | rfl | rfl | rfl <;> simp [wF, up2]
theorem cW_setb {X : Nat → Nat} {K : Nat → ClassId} {c : CS} {k f : Nat} {v : Int32} (hk : k < 21) (hf : f < 6) : (cW X K c).set (2 + k) (X (2 + k), .inr (1, (bF c k).set f (.int v))) = cW X K (up2 c f k v) :=
  gW_set (by omega) (by rw [cE_b hk, bF_set hf]) (fun j _ hj => cE_other (Or.inl ⟨hf, hj⟩))
theorem cW_sett {X : Nat → Nat} {K : Nat → ClassId} {c : CS} {t f : Nat} {v : Int32} (ht : t < 4) (hf : f < 16) : (cW X K c).set (24 + t) (X (24 + t), .inr (2, (wF c t).set f (.int v))) = cW X K (up2 c (6 + f) t v) :=
  gW_set (by omega) (by rw [cE_t, wF_set hf]) (fun j _ hj => cE_other (Or.inr (Or.inl ⟨by omega, by omega, hj⟩)))
theorem cW_set3 {X : Nat → Nat} {K : Nat → ClassId} {c : CS} {v : Int32} : (cW X K c).set 0 (X 0, .inr (0, (xF X c).set 3 (.int v))) = cW X K (up2 c 22 1 v) :=
  gW_set (by omega) (by simp [cE, xF, up2]) (fun j _ hj => cE_other (Or.inr (Or.inr ⟨rfl, hj⟩)))
theorem cW_set4 {X : Nat → Nat} {K : Nat → ClassId} {c : CS} {v : Int32} : (cW X K c).set 0 (X 0, .inr (0, (xF X c).set 4 (.int v))) = cW X K (up2 c 22 2 v) :=
  gW_set (by omega) (by simp [cE, xF, up2]) (fun j _ hj => cE_other (Or.inr (Or.inr ⟨rfl, hj⟩)))
-- ===== the reference's world: m, then its twenty arrays =====
def mlen (f : Nat) : Nat := if f < 6 then 21 else if f = 19 then 8 else 4
def mK (K : Nat → ClassId) (f : Nat) : ClassId := if f = 3 ∨ f = 14 then K 3 else K 2
def mF (Y : Nat → Nat) (m : CS) : List Value := [.int (m 20 0), .int (m 20 1), .int (m 20 2), .int (m 20 3), .ref (Y 1), .ref (Y 2), .ref (Y 3), .ref (Y 4), .ref (Y 5), .ref (Y 6), .ref (Y 7), .ref (Y 8), .ref (Y 9), .ref (Y 10), .ref (Y 11), .ref (Y 12), .ref (Y 13), .ref (Y 14), .ref (Y 15), .ref (Y 16), .ref (Y 17), .ref (Y 18), .ref (Y 19), .ref (Y 20)]
def mE (Y : Nat → Nat) (K : Nat → ClassId) (m : CS) (i : Nat) : va_E :=
  if i = 0 then .inr (3, mF Y m) else .inl (mK K (i - 1), mlen (i - 1), .inl (m (i - 1)))
def mW (Y : Nat → Nat) (K : Nat → ClassId) (m : CS) : va_W := gW 21 Y (mE Y K m)
theorem mW_m {Y : Nat → Nat} {K : Nat → ClassId} {m : CS} : (mW Y K m)[0]? = some (Y 0, .inr (3, mF Y m)) := gW_get (by omega)
theorem mE_a {Y : Nat → Nat} {K : Nat → ClassId} {m : CS} {f : Nat} : mE Y K m (1 + f) = .inl (mK K f, mlen f, .inl (m f)) := by
  unfold mE
  rw [if_neg (by omega), show 1 + f - 1 = f by omega]
theorem mW_a {Y : Nat → Nat} {K : Nat → ClassId} {m : CS} {f : Nat} (h : f < 20) : (mW Y K m)[1 + f]? = some (Y (1 + f), .inl (mK K f, mlen f, .inl (m f))) := by
  rw [show (mW Y K m)[1 + f]? = some (Y (1 + f), mE Y K m (1 + f)) from gW_get (by omega), mE_a]
theorem mE_other {Y : Nat → Nat} {K : Nat → ClassId} {m : CS} {f i j : Nat} {v : Int32} (h : (f < 20 ∧ j ≠ 1 + f) ∨ (f = 20 ∧ j ≠ 0 ∧ j < 21)) : mE Y K (up2 m f i v) j = mE Y K m j := by
  unfold mE
  by_cases h0 : j = 0
  · rw [if_pos h0, if_pos h0]
    have hf : (20 : Nat) ≠ f := by omega
    simp only [mF, up2_f m _ _ v hf]
  · rw [if_neg h0, if_neg h0, up2_rowf m i v (show j - 1 ≠ f by omega)]
theorem mW_seta {Y : Nat → Nat} {K : Nat → ClassId} {m : CS} {f i : Nat} {v : Int32} (hf : f < 20) : (mW Y K m).set (1 + f) (Y (1 + f), .inl (mK K f, mlen f, .inl (upd (m f) i v))) = mW Y K (up2 m f i v) :=
  gW_set (by omega) (by rw [mE_a, up2_row]) (fun j _ hj => mE_other (Or.inl ⟨hf, hj⟩))
theorem mW_setm {Y : Nat → Nat} {K : Nat → ClassId} {m : CS} {i : Nat} {v : Int32} (hi : i < 4) : (mW Y K m).set 0 (Y 0, .inr (3, (mF Y m).set i (.int v))) = mW Y K (up2 m 20 i v) :=
  gW_set (by omega) (by rcases (show i = 0 ∨ i = 1 ∨ i = 2 ∨ i = 3 by omega) with rfl | rfl | rfl | rfl <;> simp [mE, mF, up2]) (fun j hj hj0 => mE_other (Or.inr ⟨rfl, hj0, hj⟩))
-- ===== ranges, rooms, small facts =====
def ixC (f : Nat) : Bool := f == 2 || f == 10 || f == 12 || f == 14 || f == 16
def Inv (c : CS) : Prop := ∀ f i, ixC f = true → vp_in (c f i) 21
def ixM (f : Nat) : Bool := f == 2 || f == 9 || f == 11 || f == 13 || f == 15
def InvM (m : CS) : Prop := ∀ f i, ixM f = true → vp_in (m f i) 21
theorem Inv.upo {c : CS} {f i : Nat} {v : Int32} (h : Inv c) (hf : ixC f = false) : Inv (up2 c f i v) := by
  intro g j hg
  have hne : g ≠ f := fun e => by rw [e, hf] at hg; cases hg
  rw [up2_f c i j v hne]; exact h g j hg
theorem Inv.upi {c : CS} {f i : Nat} {v : Int32} (h : Inv c) (hv : vp_in v 21) : Inv (up2 c f i v) := by
  intro g j hg
  unfold up2
  split
  · exact hv
  · exact h g j hg
theorem InvM.upo {c : CS} {f i : Nat} {v : Int32} (h : InvM c) (hf : ixM f = false) : InvM (up2 c f i v) := by
  intro g j hg
  have hne : g ≠ f := fun e => by rw [e, hf] at hg; cases hg
  rw [up2_f c i j v hne]; exact h g j hg
theorem InvM.upi {c : CS} {f i : Nat} {v : Int32} (h : InvM c) (hv : vp_in v 21) : InvM (up2 c f i v) := by
  intro g j hg
  unfold up2
  split
  · exact hv
  · exact h g j hg
theorem ite_c {P : Prop} {d : Decidable P} {a b : CS} (ha : P → Inv a) (hb : ¬ P → Inv b) : Inv (if P then a else b) := by
  split
  · exact ha ‹_›
  · exact hb ‹_›
theorem ite_c2 {P : Prop} {d : Decidable P} {a b : Int32 × CS} (ha : P → Inv a.2) (hb : ¬ P → Inv b.2) : Inv (if P then a else b).2 := by
  split
  · exact ha ‹_›
  · exact hb ‹_›
theorem ite_m {P : Prop} {d : Decidable P} {a b : CS} (ha : P → InvM a) (hb : ¬ P → InvM b) : InvM (if P then a else b) := by
  split
  · exact ha ‹_›
  · exact hb ‹_›
theorem ite_m2 {P : Prop} {d : Decidable P} {a b : Int32 × CS} (ha : P → InvM a.2) (hb : ¬ P → InvM b.2) : InvM (if P then a else b).2 := by
  split
  · exact ha ‹_›
  · exact hb ‹_›
theorem vp0 : vp_in 0 21 := by unfold vp_in; decide
def bz (z : Int32) : Prop := z = 0 ∨ z = 1
theorem bz0 : bz 0 := Or.inl rfl
theorem bz1 : bz 1 := Or.inr rfl
theorem bz_nar {z : Int32} (h : bz z) : narrow .boolean (.int z) = .int z := by
  rcases h with rfl | rfl <;> rfl
theorem bz_vp {z : Int32} (h : bz z) : vp_nar .boolean z = z := by
  rcases h with rfl | rfl <;> rfl
theorem cm_lt0 {k N : Nat} (h : k < N) (hN : N ≤ 100000) : ¬ nI k < 0 := nI_pos (by omega)
theorem cm_ge0 {k N : Nat} (h : k < N) (hN : N ≤ 100000) : 0 ≤ nI k := nI_pos' (by omega)
theorem sw_lo {x k : Int32} {lo : Int} (h : x = k) (hk : ¬ k.toInt < lo) : ¬ x.toInt < lo := h ▸ hk
theorem sw_hi {x k : Int32} {hi : Int} (h : x = k) (hk : ¬ hi < k.toInt) : ¬ hi < x.toInt := h ▸ hk
theorem sw_at {x k : Int32} {lo off : Int} {offs : Array Int} (h : x = k) (hk : offs[(k.toInt - lo).toNat]? = some off) : offs[(x.toInt - lo).toNat]? = some off := h ▸ hk
/-- room for d calls one in another -/
def rmD (d : Nat) : Room := { frames := d, cells := 0, slots := 0, locals := 30 * d }

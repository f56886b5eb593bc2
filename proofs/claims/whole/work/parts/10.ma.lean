/-! pure: bits, counts, searches -/
theorem nk_i1 (k : Nat) : nI k + Int32.ofInt 1 = nI (k + 1) := nI_1 k
theorem nk_leI {a b : Nat} (h : nI a ≤ nI b) (ha : a < 2 ^ 31) (hb : b < 2 ^ 31) : a ≤ b := (nI_leI ha hb).mp h
theorem nk_nleI {a b : Nat} (h : ¬ nI a ≤ nI b) (ha : a < 2 ^ 31) (hb : b < 2 ^ 31) : b < a := Nat.not_le.mp (fun q => h ((nI_leI ha hb).mpr q))
theorem nk_ltI {a b : Nat} (h : nI a < nI b) (ha : a < 2 ^ 31) (hb : b < 2 ^ 31) : a < b := (nI_ltI ha hb).mp h
theorem nk_nltI {a b : Nat} (h : ¬ nI a < nI b) (ha : a < 2 ^ 31) (hb : b < 2 ^ 31) : b ≤ a := Nat.not_lt.mp (fun q => h ((nI_ltI ha hb).mpr q))
theorem nk_eqI {a b : Nat} (h : nI a = nI b) (ha : a < 2 ^ 31) (hb : b < 2 ^ 31) : a = b := (nI_eq ha hb).mp h
def pf_bit (x k : Int32) : Int32 := (x >>> (k &&& 31)) &&& 1
theorem pf_bit_bt (x : Int32) {k : Nat} (hk : k < 32) : pf_bit x (nI k) = if bt x k = true then 1 else 0 := by
  unfold pf_bit
  apply b_ext
  intro i hi
  rw [b_and]
  have h1 : bt 1 i = decide (i = 0) := (by decide +kernel : ∀ i, i < 32 → bt 1 i = decide (i = 0)) i hi
  have h0 : bt 0 i = false := b_0 i
  rw [h1, b_sshr k hk x hi]
  by_cases e : i = 0
  · subst e
    simp only [Nat.add_zero, hk, if_true, decide_true, Bool.and_true]
    by_cases q : bt x k = true
    · rw [if_pos q, q]; exact h1.symm
    · rw [if_neg q, h0]; simpa using q
  · rw [decide_eq_false e, Bool.and_false]
    by_cases q : bt x k = true
    · rw [if_pos q, h1, decide_eq_false e]
    · rw [if_neg q, h0]
theorem pf_bit_iff (x : Int32) {k : Nat} (hk : k < 32) : pf_bit x (nI k) = 1 ↔ bt x k = true := by
  rw [pf_bit_bt x hk]
  by_cases q : bt x k = true
  · rw [if_pos q]; exact ⟨fun _ => q, fun _ => rfl⟩
  · rw [if_neg q]; exact ⟨fun z => absurd z (by decide), fun z => absurd z q⟩
def pf_ones (x : Int32) : Nat → Int32
  | 0 => 0
  | k + 1 => pf_ones x k + pf_bit x (nI k)
theorem pf_ones_ct (x : Int32) : ∀ k, k ≤ 32 → pf_ones x k = nI (fb_ct (bt x) k)
  | 0, _ => rfl
  | k + 1, h => by
    rw [pf_ones, pf_ones_ct x k (by omega), pf_bit_bt x (by omega), fb_ct_succ]
    by_cases q : bt x k = true
    · rw [if_pos q, if_pos q, nI_1]
    · rw [if_neg q, if_neg q]; exact Int32.add_zero _
/-- the first one from a on, among n -/
def nk_up (p : Nat → Bool) (a : Nat) : Nat → Option Nat
  | 0 => none
  | n + 1 => if p a = true then some a else nk_up p (a + 1) n
/-- the last one below a -/
def nk_dn (p : Nat → Bool) : Nat → Option Nat
  | 0 => none
  | a + 1 => if p a = true then some a else nk_dn p a
def nk_rN (r : Option Nat) : Int32 := match r with
  | some k => nI k
  | none => -1000000
theorem nk_up_lt {p : Nat → Bool} : ∀ {n a k : Nat}, nk_up p a n = some k → a ≤ k ∧ k < a + n ∧ p k = true ∧ ∀ j, a ≤ j → j < k → p j = false
  | 0, a, k, h => by cases h
  | n + 1, a, k, h => by
    rw [nk_up] at h
    by_cases q : p a = true
    · rw [if_pos q] at h; cases h
      exact ⟨Nat.le_refl _, by omega, q, fun j h1 h2 => by omega⟩
    · rw [if_neg q] at h
      obtain ⟨h1, h2, h3, h4⟩ := nk_up_lt h
      refine ⟨by omega, by omega, h3, fun j j1 j2 => ?_⟩
      rcases Nat.eq_or_lt_of_le j1 with e | e
      · subst e; simpa using q
      · exact h4 j e j2
theorem nk_up_none {p : Nat → Bool} : ∀ {n a : Nat}, nk_up p a n = none → ∀ j, a ≤ j → j < a + n → p j = false
  | 0, a, _, j, h1, h2 => by omega
  | n + 1, a, h, j, h1, h2 => by
    rw [nk_up] at h
    by_cases q : p a = true
    · rw [if_pos q] at h; cases h
    · rw [if_neg q] at h
      rcases Nat.eq_or_lt_of_le h1 with e | e
      · subst e; simpa using q
      · exact nk_up_none h j e (by omega)
theorem nk_up_eq {p : Nat → Bool} {a n k : Nat} (h1 : a ≤ k) (h2 : k < a + n) (h3 : p k = true) (h4 : ∀ j, a ≤ j → j < k → p j = false) : nk_up p a n = some k := by
  cases h : nk_up p a n with
  | none => have := nk_up_none h k h1 h2; rw [h3] at this; cases this
  | some j =>
    obtain ⟨g1, g2, g3, g4⟩ := nk_up_lt h
    rcases Nat.lt_trichotomy j k with e | e | e
    · rw [h4 j g1 e] at g3; cases g3
    · rw [e]
    · rw [g4 k h1 e] at h3; cases h3
theorem nk_up_no {p : Nat → Bool} {a n : Nat} (h : ∀ j, a ≤ j → j < a + n → p j = false) : nk_up p a n = none := by
  cases h' : nk_up p a n with
  | none => rfl
  | some j =>
    obtain ⟨g1, g2, g3, g4⟩ := nk_up_lt h'
    rw [h j g1 g2] at g3; cases g3
theorem nk_dn_lt {p : Nat → Bool} : ∀ {a k : Nat}, nk_dn p a = some k → k < a ∧ p k = true ∧ ∀ j, k < j → j < a → p j = false
  | 0, k, h => by cases h
  | a + 1, k, h => by
    rw [nk_dn] at h
    by_cases q : p a = true
    · rw [if_pos q] at h; cases h
      exact ⟨by omega, q, fun j h1 h2 => by omega⟩
    · rw [if_neg q] at h
      obtain ⟨h1, h2, h3⟩ := nk_dn_lt h
      refine ⟨by omega, h2, fun j j1 j2 => ?_⟩
      rcases Nat.eq_or_lt_of_le (Nat.le_of_lt_succ j2) with e | e
      · subst e; simpa using q
      · exact h3 j j1 e
theorem nk_dn_none {p : Nat → Bool} : ∀ {a : Nat}, nk_dn p a = none → ∀ j, j < a → p j = false
  | 0, _, j, h => by omega
  | a + 1, h, j, hj => by
    rw [nk_dn] at h
    by_cases q : p a = true
    · rw [if_pos q] at h; cases h
    · rw [if_neg q] at h
      rcases Nat.eq_or_lt_of_le (Nat.le_of_lt_succ hj) with e | e
      · subst e; simpa using q
      · exact nk_dn_none h j e
theorem nk_dn_eq {p : Nat → Bool} {a k : Nat} (h1 : k < a) (h2 : p k = true) (h3 : ∀ j, k < j → j < a → p j = false) : nk_dn p a = some k := by
  cases h : nk_dn p a with
  | none => have := nk_dn_none h k h1; rw [h2] at this; cases this
  | some j =>
    obtain ⟨g1, g2, g3⟩ := nk_dn_lt h
    rcases Nat.lt_trichotomy j k with e | e | e
    · rw [g3 k e h1] at h2; cases h2
    · rw [e]
    · rw [h3 j e g1] at g2; cases g2
theorem nk_dn_no {p : Nat → Bool} {a : Nat} (h : ∀ j, j < a → p j = false) : nk_dn p a = none := by
  cases h' : nk_dn p a with
  | none => rfl
  | some j =>
    obtain ⟨g1, g2, g3⟩ := nk_dn_lt h'
    rw [h j g1] at g2; cases g2
theorem nk_up_cong {p q : Nat → Bool} : ∀ {n a : Nat}, (∀ j, a ≤ j → j < a + n → p j = q j) → nk_up p a n = nk_up q a n
  | 0, a, _ => rfl
  | n + 1, a, h => by rw [nk_up, nk_up, h a (Nat.le_refl _) (by omega), nk_up_cong (fun j h1 h2 => h j (by omega) (by omega))]
theorem nk_dn_cong {p q : Nat → Bool} : ∀ {a : Nat}, (∀ j, j < a → p j = q j) → nk_dn p a = nk_dn q a
  | 0, _ => rfl
  | a + 1, h => by rw [nk_dn, nk_dn, h a (by omega), nk_dn_cong (fun j h1 => h j (by omega))]
/-- 2 to the power of the bits; 0 without a shelf -/
def nk_tp (b : Nat) : Nat := if b = 0 then 0 else 2 ^ b
theorem nk_tp_le {b : Nat} (h : b ≤ 10) : nk_tp b ≤ 1024 := by
  unfold nk_tp
  split
  · omega
  · exact Nat.pow_le_pow_right (by omega) h
/-- the reference's heap -/
def mh (ad : Nat → Nat) (A : Nat → Nat → Int32) (I : Nat → Int32) : nk_AH := fun a =>
  if a = ad 0 then some (.inr (7, [.ref (ad 1), .int (I 0), .ref (ad 2), .ref (ad 3), .ref (ad 4), .ref (ad 5), .ref (ad 6), .int (I 1), .int (I 2), .int (I 3), .ref (ad 7), .int (I 4), .int (I 5), .int (I 6), .int (I 7)]))
  else if a = ad 1 then some (.inl (.int, 3752, .inl (A 0)))
  else if a = ad 2 then some (.inl (.boolean, 2, .inl (A 1)))
  else if a = ad 3 then some (.inl (.int, 8, .inl (A 2)))
  else if a = ad 4 then some (.inl (.int, 8, .inl (A 3)))
  else if a = ad 5 then some (.inl (.int, 320, .inl (A 4)))
  else if a = ad 6 then some (.inl (.int, 110, .inl (A 5)))
  else if a = ad 7 then some (.inl (.int, 16, .inl (A 6)))
  else none
def mInj (ad : Nat → Nat) : Prop := ∀ i j, i < 8 → j < 8 → ad i = ad j → i = j
section MH
variable {ad : Nat → Nat} {A : Nat → Nat → Int32} {I : Nat → Int32}
theorem mInj.ne (hi : mInj ad) {i j : Nat} (h1 : i < 8) (h2 : j < 8) (n : i ≠ j) : ¬ ad i = ad j := fun q => n (hi i j h1 h2 q)
theorem mh_0 : mh ad A I (ad 0) = some (.inr (7, [.ref (ad 1), .int (I 0), .ref (ad 2), .ref (ad 3), .ref (ad 4), .ref (ad 5), .ref (ad 6), .int (I 1), .int (I 2), .int (I 3), .ref (ad 7), .int (I 4), .int (I 5), .int (I 6), .int (I 7)])) := if_pos rfl
theorem mh_1 (hi : mInj ad) : mh ad A I (ad 1) = some (.inl (.int, 3752, .inl (A 0))) := by
  simp [mh, hi.ne (i := 1) (j := 0)]
theorem mh_2 (hi : mInj ad) : mh ad A I (ad 2) = some (.inl (.boolean, 2, .inl (A 1))) := by
  simp [mh, hi.ne (i := 2) (j := 0), hi.ne (i := 2) (j := 1)]
theorem mh_3 (hi : mInj ad) : mh ad A I (ad 3) = some (.inl (.int, 8, .inl (A 2))) := by
  simp [mh, hi.ne (i := 3) (j := 0), hi.ne (i := 3) (j := 1), hi.ne (i := 3) (j := 2)]
theorem mh_4 (hi : mInj ad) : mh ad A I (ad 4) = some (.inl (.int, 8, .inl (A 3))) := by
  simp [mh, hi.ne (i := 4) (j := 0), hi.ne (i := 4) (j := 1), hi.ne (i := 4) (j := 2), hi.ne (i := 4) (j := 3)]
theorem mh_5 (hi : mInj ad) : mh ad A I (ad 5) = some (.inl (.int, 320, .inl (A 4))) := by
  simp [mh, hi.ne (i := 5) (j := 0), hi.ne (i := 5) (j := 1), hi.ne (i := 5) (j := 2), hi.ne (i := 5) (j := 3), hi.ne (i := 5) (j := 4)]
theorem mh_6 (hi : mInj ad) : mh ad A I (ad 6) = some (.inl (.int, 110, .inl (A 5))) := by
  simp [mh, hi.ne (i := 6) (j := 0), hi.ne (i := 6) (j := 1), hi.ne (i := 6) (j := 2), hi.ne (i := 6) (j := 3), hi.ne (i := 6) (j := 4), hi.ne (i := 6) (j := 5)]
theorem mh_7 (hi : mInj ad) : mh ad A I (ad 7) = some (.inl (.int, 16, .inl (A 6))) := by
  simp [mh, hi.ne (i := 7) (j := 0), hi.ne (i := 7) (j := 1), hi.ne (i := 7) (j := 2), hi.ne (i := 7) (j := 3), hi.ne (i := 7) (j := 4), hi.ne (i := 7) (j := 5), hi.ne (i := 7) (j := 6)]
theorem mu_A0 (hi : mInj ad) {f : Nat → Int32} : nk_u (mh ad A I) (ad 1) (.inl (.int, 3752, .inl f)) = mh ad (va_up A 0 f) I := by
  funext a
  by_cases q : a = ad 1
  · subst q
    rw [nk_u_self, mh_1 hi]; rfl
  · rw [nk_u_ne q]
    unfold mh
    simp [q, va_up]
theorem mu_A1 (hi : mInj ad) {f : Nat → Int32} : nk_u (mh ad A I) (ad 2) (.inl (.boolean, 2, .inl f)) = mh ad (va_up A 1 f) I := by
  funext a
  by_cases q : a = ad 2
  · subst q
    rw [nk_u_self, mh_2 hi]; rfl
  · rw [nk_u_ne q]
    unfold mh
    simp [q, va_up]
theorem mu_A2 (hi : mInj ad) {f : Nat → Int32} : nk_u (mh ad A I) (ad 3) (.inl (.int, 8, .inl f)) = mh ad (va_up A 2 f) I := by
  funext a
  by_cases q : a = ad 3
  · subst q
    rw [nk_u_self, mh_3 hi]; rfl
  · rw [nk_u_ne q]
    unfold mh
    simp [q, va_up]
theorem mu_A3 (hi : mInj ad) {f : Nat → Int32} : nk_u (mh ad A I) (ad 4) (.inl (.int, 8, .inl f)) = mh ad (va_up A 3 f) I := by
  funext a
  by_cases q : a = ad 4
  · subst q
    rw [nk_u_self, mh_4 hi]; rfl
  · rw [nk_u_ne q]
    unfold mh
    simp [q, va_up]
theorem mu_A4 (hi : mInj ad) {f : Nat → Int32} : nk_u (mh ad A I) (ad 5) (.inl (.int, 320, .inl f)) = mh ad (va_up A 4 f) I := by
  funext a
  by_cases q : a = ad 5
  · subst q
    rw [nk_u_self, mh_5 hi]; rfl
  · rw [nk_u_ne q]
    unfold mh
    simp [q, va_up]
theorem mu_A5 (hi : mInj ad) {f : Nat → Int32} : nk_u (mh ad A I) (ad 6) (.inl (.int, 110, .inl f)) = mh ad (va_up A 5 f) I := by
  funext a
  by_cases q : a = ad 6
  · subst q
    rw [nk_u_self, mh_6 hi]; rfl
  · rw [nk_u_ne q]
    unfold mh
    simp [q, va_up]
theorem mu_A6 (hi : mInj ad) {f : Nat → Int32} : nk_u (mh ad A I) (ad 7) (.inl (.int, 16, .inl f)) = mh ad (va_up A 6 f) I := by
  funext a
  by_cases q : a = ad 7
  · subst q
    rw [nk_u_self, mh_7 hi]; rfl
  · rw [nk_u_ne q]
    unfold mh
    simp [q, va_up]
theorem mu_I0 {x : Int32} : nk_u (mh ad A I) (ad 0) (.inr (7, [.ref (ad 1), .int x, .ref (ad 2), .ref (ad 3), .ref (ad 4), .ref (ad 5), .ref (ad 6), .int (I 1), .int (I 2), .int (I 3), .ref (ad 7), .int (I 4), .int (I 5), .int (I 6), .int (I 7)])) = mh ad A (va_up I 0 x) := by
  funext a
  by_cases q : a = ad 0
  · subst q
    rw [nk_u_self, mh_0]; rfl
  · rw [nk_u_ne q]
    unfold mh
    rw [if_neg q, if_neg q]
theorem mu_I1 {x : Int32} : nk_u (mh ad A I) (ad 0) (.inr (7, [.ref (ad 1), .int (I 0), .ref (ad 2), .ref (ad 3), .ref (ad 4), .ref (ad 5), .ref (ad 6), .int x, .int (I 2), .int (I 3), .ref (ad 7), .int (I 4), .int (I 5), .int (I 6), .int (I 7)])) = mh ad A (va_up I 1 x) := by
  funext a
  by_cases q : a = ad 0
  · subst q
    rw [nk_u_self, mh_0]; rfl
  · rw [nk_u_ne q]
    unfold mh
    rw [if_neg q, if_neg q]
theorem mu_I2 {x : Int32} : nk_u (mh ad A I) (ad 0) (.inr (7, [.ref (ad 1), .int (I 0), .ref (ad 2), .ref (ad 3), .ref (ad 4), .ref (ad 5), .ref (ad 6), .int (I 1), .int x, .int (I 3), .ref (ad 7), .int (I 4), .int (I 5), .int (I 6), .int (I 7)])) = mh ad A (va_up I 2 x) := by
  funext a
  by_cases q : a = ad 0
  · subst q
    rw [nk_u_self, mh_0]; rfl
  · rw [nk_u_ne q]
    unfold mh
    rw [if_neg q, if_neg q]
theorem mu_I3 {x : Int32} : nk_u (mh ad A I) (ad 0) (.inr (7, [.ref (ad 1), .int (I 0), .ref (ad 2), .ref (ad 3), .ref (ad 4), .ref (ad 5), .ref (ad 6), .int (I 1), .int (I 2), .int x, .ref (ad 7), .int (I 4), .int (I 5), .int (I 6), .int (I 7)])) = mh ad A (va_up I 3 x) := by
  funext a
  by_cases q : a = ad 0
  · subst q
    rw [nk_u_self, mh_0]; rfl
  · rw [nk_u_ne q]
    unfold mh
    rw [if_neg q, if_neg q]
theorem mu_I4 {x : Int32} : nk_u (mh ad A I) (ad 0) (.inr (7, [.ref (ad 1), .int (I 0), .ref (ad 2), .ref (ad 3), .ref (ad 4), .ref (ad 5), .ref (ad 6), .int (I 1), .int (I 2), .int (I 3), .ref (ad 7), .int x, .int (I 5), .int (I 6), .int (I 7)])) = mh ad A (va_up I 4 x) := by
  funext a
  by_cases q : a = ad 0
  · subst q
    rw [nk_u_self, mh_0]; rfl
  · rw [nk_u_ne q]
    unfold mh
    rw [if_neg q, if_neg q]
theorem mu_I5 {x : Int32} : nk_u (mh ad A I) (ad 0) (.inr (7, [.ref (ad 1), .int (I 0), .ref (ad 2), .ref (ad 3), .ref (ad 4), .ref (ad 5), .ref (ad 6), .int (I 1), .int (I 2), .int (I 3), .ref (ad 7), .int (I 4), .int x, .int (I 6), .int (I 7)])) = mh ad A (va_up I 5 x) := by
  funext a
  by_cases q : a = ad 0
  · subst q
    rw [nk_u_self, mh_0]; rfl
  · rw [nk_u_ne q]
    unfold mh
    rw [if_neg q, if_neg q]
theorem mu_I6 {x : Int32} : nk_u (mh ad A I) (ad 0) (.inr (7, [.ref (ad 1), .int (I 0), .ref (ad 2), .ref (ad 3), .ref (ad 4), .ref (ad 5), .ref (ad 6), .int (I 1), .int (I 2), .int (I 3), .ref (ad 7), .int (I 4), .int (I 5), .int x, .int (I 7)])) = mh ad A (va_up I 6 x) := by
  funext a
  by_cases q : a = ad 0
  · subst q
    rw [nk_u_self, mh_0]; rfl
  · rw [nk_u_ne q]
    unfold mh
    rw [if_neg q, if_neg q]
theorem mu_I7 {x : Int32} : nk_u (mh ad A I) (ad 0) (.inr (7, [.ref (ad 1), .int (I 0), .ref (ad 2), .ref (ad 3), .ref (ad 4), .ref (ad 5), .ref (ad 6), .int (I 1), .int (I 2), .int (I 3), .ref (ad 7), .int (I 4), .int (I 5), .int (I 6), .int x])) = mh ad A (va_up I 7 x) := by
  funext a
  by_cases q : a = ad 0
  · subst q
    rw [nk_u_self, mh_0]; rfl
  · rw [nk_u_ne q]
    unfold mh
    rw [if_neg q, if_neg q]
end MH

/-! pure: calls with a row. f: -1 refused, 0 well, else the finding's number -/
def sp_val (f v : Int32) : Int32 := if f = -1 then -1000001 else if f = 0 then v else -1000010 - f
def sp_I (f : Int32) (I : Nat → Int32) : Nat → Int32 := if f = -1 then I else va_up I 3 f
def sp_A (f : Int32) (A A' : Nat → Nat → Int32) : Nat → Nat → Int32 := if f = 0 then A' else A
theorem sp_val_b (v : Int32) : sp_val (-1) v = -1000001 := rfl
theorem sp_val_0 (v : Int32) : sp_val 0 v = v := rfl
theorem sp_val_1 (v : Int32) : sp_val 1 v = -1000010 - 1 := rfl
theorem sp_val_2 (v : Int32) : sp_val 2 v = -1000010 - 2 := rfl
theorem sp_val_3 (v : Int32) : sp_val 3 v = -1000010 - 3 := rfl
theorem sp_val_4 (v : Int32) : sp_val 4 v = -1000010 - 4 := rfl
theorem sp_val_5 (v : Int32) : sp_val 5 v = -1000010 - 5 := rfl
theorem sp_I_b (I : Nat → Int32) : sp_I (-1) I = I := rfl
theorem sp_I_0 (I : Nat → Int32) : sp_I 0 I = va_up I 3 0 := rfl
theorem sp_I_1 (I : Nat → Int32) : sp_I 1 I = va_up I 3 1 := rfl
theorem sp_I_2 (I : Nat → Int32) : sp_I 2 I = va_up I 3 2 := rfl
theorem sp_I_3 (I : Nat → Int32) : sp_I 3 I = va_up I 3 3 := rfl
theorem sp_I_4 (I : Nat → Int32) : sp_I 4 I = va_up I 3 4 := rfl
theorem sp_I_5 (I : Nat → Int32) : sp_I 5 I = va_up I 3 5 := rfl
theorem sp_A_b (A A' : Nat → Nat → Int32) : sp_A (-1) A A' = A := rfl
theorem sp_A_0 (A A' : Nat → Nat → Int32) : sp_A 0 A A' = A' := rfl
theorem sp_A_1 (A A' : Nat → Nat → Int32) : sp_A 1 A A' = A := rfl
theorem sp_A_2 (A A' : Nat → Nat → Int32) : sp_A 2 A A' = A := rfl
theorem sp_A_3 (A A' : Nat → Nat → Int32) : sp_A 3 A A' = A := rfl
theorem sp_A_4 (A A' : Nat → Nat → Int32) : sp_A 4 A A' = A := rfl
theorem sp_A_5 (A A' : Nat → Nat → Int32) : sp_A 5 A A' = A := rfl
/-- the sizes of the rows: -1 .. 40 -/
def mRw (A : Nat → Nat → Int32) : Prop := ∀ r, r < 8 → -1 ≤ (A 3 r).toInt ∧ (A 3 r).toInt ≤ 40
def f_row (r l n : Int32) : Int32 := if sp_R r 0 7 then (if sp_R l 0 2 then (if n ≤ 40 then (if 0 ≤ n then 0 else 4) else -1) else -1) else -1
/-- k zeros from a on -/
def pf_zf (f : Nat → Int32) (a k : Nat) : Nat → Int32 := fun j => if a ≤ j ∧ j < a + k then 0 else f j
theorem pf_zf_0 (f : Nat → Int32) (a : Nat) : pf_zf f a 0 = f := by
  funext j; unfold pf_zf; rw [if_neg (by omega)]
theorem pf_zf_s (f : Nat → Int32) (a k : Nat) : upd (pf_zf f a k) (a + k) 0 = pf_zf f a (k + 1) := by
  funext j
  unfold upd pf_zf
  by_cases q : j = a + k
  · rw [if_pos q, if_pos (by omega)]
  · rw [if_neg q]
    by_cases z : a ≤ j ∧ j < a + k
    · rw [if_pos z, if_pos (by omega)]
    · rw [if_neg z, if_neg (by omega)]
def a_row (A : Nat → Nat → Int32) (r : Nat) (l n : Int32) : Nat → Nat → Int32 := va_up (va_up (va_up A 2 (upd (A 2) r l)) 3 (upd (A 3) r n)) 4 (pf_zf (A 4) (40 * r) 40)
def f_set (A : Nat → Nat → Int32) (r i : Int32) : Int32 := if sp_R r 0 7 then (if 0 ≤ A 3 (sp_n r) then (if 0 ≤ i.toInt ∧ i.toInt < (A 3 (sp_n r)).toInt then 0 else 2) else 1) else -1
def a_set (A : Nat → Nat → Int32) (r i : Nat) (v : Int32) : Nat → Nat → Int32 := va_up A 4 (upd (A 4) (40 * r + i) (pf_nar v (A 2 r)))
def f_drop (A : Nat → Nat → Int32) (r : Int32) : Int32 := if sp_R r 0 7 then (if 0 ≤ A 3 (sp_n r) then 0 else 1) else -1
abbrev sp_sp (A : Nat → Nat → Int32) (r : Nat) (i n : Int32) : Prop := 0 ≤ i ∧ 0 ≤ n ∧ i.toInt + n.toInt ≤ (A 3 r).toInt
def f_copy (A : Nat → Nat → Int32) (a i b j n : Int32) : Int32 := if sp_R a 0 7 then (if sp_R b 0 7 then (if 0 ≤ A 3 (sp_n a) then (if 0 ≤ A 3 (sp_n b) then (if A 2 (sp_n a) = A 2 (sp_n b) then (if sp_sp A (sp_n a) i n then (if sp_sp A (sp_n b) j n then 0 else 2) else 2) else 5) else 1) else 1) else -1) else -1
def a_copy (A : Nat → Nat → Int32) (a i b j n : Nat) : Nat → Nat → Int32 := va_up A 4 (va_cpy (A 4) (A 4) (40 * a + i) (40 * b + j) n)
def sp_kindOk (κ kind : Int32) : Prop := kind = 0 ∨ kind = κ ∨ (kind = 1 ∧ κ < 4) ∨ (kind = 4 ∧ κ = 5)
theorem nk_ge0 {x : Int32} : 0 ≤ x ↔ 0 ≤ x.toInt := by rw [fa_le]; exact Iff.rfl
theorem nk_i40 (r k : Nat) : 40 * nI r + nI k = nI (40 * r + k) := by
  rw [show (40 : Int32) = nI 40 from rfl, pk_mul, nI_add]
theorem nk_sub1 (x : Int32) (h : -1 ≤ x.toInt) : (x - 1).toInt = x.toInt - 1 := by
  have := fb_rng x
  exact fb_subI (y := 1) (by show _ ≤ x.toInt - 1; omega) (by show x.toInt - 1 < _; omega)
theorem nk_addL (x y : Int32) : (x.toInt64 + y.toInt64).toInt = x.toInt + y.toInt := by
  have h1 := fb_rng x
  have h2 := fb_rng y
  rw [fb_addL (by rw [Int32.toInt_toInt64, Int32.toInt_toInt64]; omega) (by rw [Int32.toInt_toInt64, Int32.toInt_toInt64]; omega), Int32.toInt_toInt64, Int32.toInt_toInt64]

/-! pure: the reading's own numbers at, wrong, number -/
def i3 (I : Nat → Int32) (x y z : Int32) : Nat → Int32 := fun j => if j = 5 then x else if j = 6 then y else if j = 7 then z else I j
theorem i3_5 (I : Nat → Int32) (x y z w : Int32) : va_up (i3 I x y z) 5 w = i3 I w y z := by
  funext j; unfold va_up i3
  by_cases h : j = 5
  · rw [if_pos h, if_pos h]
  · rw [if_neg h, if_neg h, if_neg h]
theorem i3_6 (I : Nat → Int32) (x y z w : Int32) : va_up (i3 I x y z) 6 w = i3 I x w z := by
  funext j; unfold va_up i3
  by_cases h5 : j = 5
  · rw [if_neg (by omega), if_pos h5, if_pos h5]
  · by_cases h : j = 6
    · rw [if_pos h, if_neg h5, if_pos h]
    · rw [if_neg h, if_neg h5, if_neg h, if_neg h5, if_neg h]
theorem i3_7 (I : Nat → Int32) (x y z w : Int32) : va_up (i3 I x y z) 7 w = i3 I x y w := by
  funext j; unfold va_up i3
  by_cases h5 : j = 5
  · rw [if_neg (by omega), if_pos h5, if_pos h5]
  · by_cases h6 : j = 6
    · rw [if_neg (by omega), if_neg h5, if_pos h6, if_neg h5, if_pos h6]
    · by_cases h : j = 7
      · rw [if_pos h, if_neg h5, if_neg h6, if_pos h]
      · rw [if_neg h, if_neg h5, if_neg h6, if_neg h, if_neg h5, if_neg h6, if_neg h]
theorem i3_self (I : Nat → Int32) : i3 I (I 5) (I 6) (I 7) = I := by
  funext j; unfold i3
  by_cases h5 : j = 5
  · rw [if_pos h5, h5]
  · by_cases h6 : j = 6
    · rw [if_neg h5, if_pos h6, h6]
    · by_cases h7 : j = 7
      · rw [if_neg h5, if_neg h6, if_pos h7, h7]
      · rw [if_neg h5, if_neg h6, if_neg h7]
def tp_sg (I T : Nat → Int32) (l a : Nat) (c y z : Int32) : Nat → Int32 := if tp_is T l a c then i3 I (nI (a + 1)) y z else i3 I (nI a) 1 z
def tp_rn (I T : Nat → Int32) (l a lo hi : Nat) (y z : Int32) : Nat → Int32 := if tp_f T l a lo hi = 0 then i3 I (nI (tp_end T l a)) y (nI (tp_num T l a)) else i3 I (nI a) (nI (tp_f T l a lo hi)) (if tp_one T l a then nI (tp_num T l a) else z)
def ph_rd (ad : Nat → Nat) (A : Nat → Nat → Int32) (I F : Nat → Int32) (ok pl : Nat) (g : (Nat → Int32) → Prop) : Option Value → nk_AH → Prop := fun r H' => ∃ (y z : Int32) (f : Nat → Int32), r = some (.int (if ok = 0 then 1 else 0)) ∧ H' = mh ad (va_up A 0 (tz F f)) (i3 I (nI pl) y z) ∧ (¬ ok = 0 → y = nI ok) ∧ (ok = 0 → g f)
def tp_lw (T : Nat → Int32) (l : Nat) : Nat × Nat := if tp_is T l 0 117 then (if tp_f T l 1 2 10 = 0 then (if tp_is T l (tp_end T l 1) 59 then (0, tp_end T l 1 + 1) else (1, tp_end T l 1)) else (tp_f T l 1 2 10, 1)) else (1, 0)
theorem tp_ks_0 {T : Nat → Int32} {l hi n a g : Nat} {f : Nat → Int32} (h : ¬ tp_f T l (a + 1) 0 hi = 0) : tp_ks T l hi n (g + 1) a f = (tp_f T l (a + 1) 0 hi, a + 1, f) := by rw [tp_ks, if_neg h]
theorem tp_ks_c {T : Nat → Int32} {l hi n a g : Nat} {f : Nat → Int32} (h : tp_f T l (a + 1) 0 hi = 0) (h2 : tp_is T l (tp_end T l (a + 1)) 44) : tp_ks T l hi n (g + 1) a f = tp_ks T l hi n g (tp_end T l (a + 1)) (tp_or f n (tp_num T l (a + 1))) := by rw [tp_ks, if_pos h, if_pos h2]
theorem tp_ks_s {T : Nat → Int32} {l hi n a g : Nat} {f : Nat → Int32} (h : tp_f T l (a + 1) 0 hi = 0) (h2 : ¬ tp_is T l (tp_end T l (a + 1)) 44) (h3 : tp_is T l (tp_end T l (a + 1)) 59) : tp_ks T l hi n (g + 1) a f = (0, tp_end T l (a + 1) + 1, tp_or f n (tp_num T l (a + 1))) := by rw [tp_ks, if_pos h, if_neg h2, if_pos h3]
theorem tp_ks_x {T : Nat → Int32} {l hi n a g : Nat} {f : Nat → Int32} (h : tp_f T l (a + 1) 0 hi = 0) (h2 : ¬ tp_is T l (tp_end T l (a + 1)) 44) (h3 : ¬ tp_is T l (tp_end T l (a + 1)) 59) : tp_ks T l hi n (g + 1) a f = (1, tp_end T l (a + 1), tp_or f n (tp_num T l (a + 1))) := by rw [tp_ks, if_pos h, if_neg h2, if_neg h3]

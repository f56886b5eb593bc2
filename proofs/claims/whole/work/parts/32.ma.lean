/-! pure: what the tape tells, on -/
theorem tp_ks_lo {T : Nat → Int32} {l hi n : Nat} : ∀ (g a : Nat) (f : Nat → Int32) (j : Nat), j < 6 → (tp_ks T l hi n g a f).2.2 j = f j
  | 0, _, _, _, _ => rfl
  | g + 1, a, f, j, h => by
    rw [tp_ks]
    split
    · split
      · rw [tp_ks_lo g _ _ j h, tp_or_lo h]
      · split
        · exact tp_or_lo h
        · exact tp_or_lo h
    · rfl
theorem tp_ks_ok {T : Nat → Int32} {l hi n : Nat} : ∀ (g a : Nat) (f : Nat → Int32), (tp_ks T l hi n g a f).1 = 0 → a < (tp_ks T l hi n g a f).2.1 ∧ (tp_ks T l hi n g a f).2.1 ≤ l
  | 0, _, _, h => by cases h
  | g + 1, a, f, h => by
    rw [tp_ks] at h ⊢
    split
    · rename_i hf
      rw [if_pos hf] at h
      have he := tp_end_le (tp_f_one hf).1
      split
      · rename_i h2
        rw [if_pos h2] at h
        have := tp_ks_ok g _ _ h
        omega
      · rename_i h2
        rw [if_neg h2] at h
        split
        · rename_i h3
          show a < tp_end T l (a + 1) + 1 ∧ tp_end T l (a + 1) + 1 ≤ l
          have := h3.1
          omega
        · rename_i h3
          rw [if_neg h3] at h
          cases h
    · rename_i hf
      rw [if_neg hf] at h
      exact absurd h hf
theorem tp_set_lo {T : Nat → Int32} {l hi n a : Nat} {f : Nat → Int32} {j : Nat} (h : j < 2) : (tp_set T l hi n a f).2.2 j = f j := by
  unfold tp_set
  split
  · rfl
  · rw [tp_ks_lo _ _ _ j (by omega)]
    unfold upd; rw [if_neg (by omega)]
theorem tp_set_ok {T : Nat → Int32} {l hi n a : Nat} {f : Nat → Int32} (h : (tp_set T l hi n a f).1 = 0) : n ≠ 4 ∧ a < (tp_set T l hi n a f).2.1 ∧ (tp_set T l hi n a f).2.1 ≤ l := by
  unfold tp_set at h ⊢
  by_cases c : n = 4
  · rw [if_pos c] at h; cases h
  · rw [if_neg c] at h ⊢
    exact ⟨c, tp_ks_ok _ _ _ h⟩
theorem tp_kind_le (c : Int32) : tp_kind c ≤ 0 ↔ tp_kind c = 0 := by
  unfold tp_kind
  repeat' split
  all_goals decide
theorem tp_sets_set {T : Nat → Int32} {l hi g n a : Nat} {f : Nat → Int32} (h : a < l ∧ ¬ tp_kind (T a) = 0) (h2 : (tp_set T l hi n a f).1 = 0) : tp_sets T l hi (g + 1) n a f = tp_sets T l hi g (n + 1) (tp_set T l hi n a f).2.1 (upd (tp_set T l hi n a f).2.2 0 (nI (n + 1))) := by rw [tp_sets, if_pos h, if_pos h2]
theorem tp_sets_bad {T : Nat → Int32} {l hi g n a : Nat} {f : Nat → Int32} (h : a < l ∧ ¬ tp_kind (T a) = 0) (h2 : ¬ (tp_set T l hi n a f).1 = 0) : tp_sets T l hi (g + 1) n a f = tp_set T l hi n a f := by rw [tp_sets, if_pos h, if_neg h2]
theorem tp_sets_end {T : Nat → Int32} {l hi g n a : Nat} {f : Nat → Int32} (h : a = l) : tp_sets T l hi (g + 1) n a f = (0, a, f) := by rw [tp_sets, if_neg (fun z => absurd z.1 (by omega)), if_pos h]
theorem tp_sets_no {T : Nat → Int32} {l hi g n a : Nat} {f : Nat → Int32} (h : a < l) (h2 : tp_kind (T a) = 0) : tp_sets T l hi (g + 1) n a f = (1, a, f) := by rw [tp_sets, if_neg (fun z => z.2 h2), if_neg (by omega)]
theorem tp_all_bad {T : Nat → Int32} {l : Nat} (h : ¬ (tp_lw T l).1 = 0) : tp_all T l = ((tp_lw T l).1, (tp_lw T l).2, fun _ => 0) := by
  unfold tp_all
  unfold tp_lw at h ⊢
  by_cases h1 : tp_is T l 0 117
  · rw [if_pos h1] at h ⊢
    rw [if_pos h1]
    by_cases h2 : tp_f T l 1 2 10 = 0
    · rw [if_pos h2] at h ⊢
      rw [if_pos h2]
      by_cases h3 : tp_is T l (tp_end T l 1) 59
      · rw [if_pos h3] at h; exact absurd rfl h
      · rw [if_neg h3, if_neg h3]
    · rw [if_neg h2, if_neg h2]
  · rw [if_neg h1, if_neg h1]
theorem tp_all_ok {T : Nat → Int32} {l : Nat} (h : (tp_lw T l).1 = 0) : tp_all T l = (if (tp_lw T l).2 = l ∨ tp_kind (T (tp_lw T l).2) = 0 then (1, (tp_lw T l).2, fun _ => 0) else tp_sets T l (2 ^ tp_num T l 1 - 1) (l + 1) 0 (tp_lw T l).2 (upd (fun _ => 0) 1 (nI (tp_num T l 1)))) ∧ (tp_lw T l).2 ≤ l ∧ 2 ≤ tp_num T l 1 ∧ tp_num T l 1 ≤ 10 := by
  unfold tp_all
  unfold tp_lw at h ⊢
  by_cases h1 : tp_is T l 0 117
  · rw [if_pos h1] at h ⊢
    rw [if_pos h1]
    by_cases h2 : tp_f T l 1 2 10 = 0
    · rw [if_pos h2] at h ⊢
      rw [if_pos h2]
      by_cases h3 : tp_is T l (tp_end T l 1) 59
      · rw [if_pos h3, if_pos h3]
        have h4 := tp_f_one h2
        have h5 := h3.1
        refine ⟨rfl, ?_, h4.2⟩
        show tp_end T l 1 + 1 ≤ l
        omega
      · rw [if_neg h3] at h; cases h
    · rw [if_neg h2] at h; exact absurd h h2
  · rw [if_neg h1] at h; cases h
theorem i3_s5 (I : Nat → Int32) (x : Int32) : va_up I 5 x = i3 I x (I 6) (I 7) := by
  have h := i3_5 I (I 5) (I 6) (I 7) x
  rw [i3_self] at h
  exact h
theorem i3_lo {I : Nat → Int32} {x y z w : Int32} {j : Nat} (h : j < 5) : va_up (i3 I x y z) j w = i3 (va_up I j w) x y z := by
  funext k
  unfold va_up i3
  by_cases e : k = j
  · rw [if_pos e, if_neg (by omega), if_neg (by omega), if_neg (by omega)]
    exact (if_pos e).symm
  · rw [if_neg e]
    by_cases e5 : k = 5
    · rw [if_pos e5, if_pos e5]
    · by_cases e6 : k = 6
      · rw [if_neg e5, if_pos e6, if_neg e5, if_pos e6]
      · by_cases e7 : k = 7
        · rw [if_neg e5, if_neg e6, if_pos e7, if_neg e5, if_neg e6, if_pos e7]
        · rw [if_neg e5, if_neg e6, if_neg e7, if_neg e5, if_neg e6, if_neg e7]
          exact (if_neg e).symm
def sh_I (ok : Nat) (I : Nat → Int32) : Nat → Int32 := if ok = 0 then va_up (va_up I 1 0) 0 0 else va_up (va_up I 1 0) 2 (nI ok)
def sh_A (ok : Nat) (f : Nat → Int32) (A : Nat → Nat → Int32) : Nat → Nat → Int32 := va_up A 0 (if ok = 0 then va_cpy (tz (A 0) f) (tz (A 0) f) 3618 0 134 else tz (A 0) f)
def ph_sh (ad : Nat → Nat) (A : Nat → Nat → Int32) (I : Nat → Int32) (R : Nat × Nat × (Nat → Int32)) : Option Value → nk_AH → Prop := fun r H' => ∃ (x y z : Int32) (f : Nat → Int32), r = some (.int (if R.1 = 0 then R.2.2 0 else -1000100 - nI R.2.1)) ∧ H' = mh ad (sh_A R.1 f A) (i3 (sh_I R.1 I) x y z) ∧ (R.1 = 0 → f = R.2.2)

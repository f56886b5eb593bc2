/-! pure: what the tape tells. T: its bytes, l: how many; (fault, place, cells of the shelf) -/
def tp_fig (T : Nat → Int32) (l i : Nat) : Bool := decide (i < l ∧ 48 ≤ (T i).toInt ∧ (T i).toInt ≤ 57)
def tp_num (T : Nat → Int32) (l a : Nat) : Nat := if tp_fig T l (a + 1) = true then 10 * ((T a).toInt - 48).toNat + ((T (a + 1)).toInt - 48).toNat else ((T a).toInt - 48).toNat
def tp_end (T : Nat → Int32) (l a : Nat) : Nat := if tp_fig T l (a + 1) = true then a + 2 else a + 1
abbrev tp_one (T : Nat → Int32) (l a : Nat) : Prop := tp_fig T l a = true ∧ ¬ (tp_fig T l (a + 1) = true ∧ tp_fig T l (a + 2) = true)
def tp_f (T : Nat → Int32) (l a lo hi : Nat) : Nat := if tp_one T l a then (if lo ≤ tp_num T l a ∧ tp_num T l a ≤ hi then 0 else 2) else 1
abbrev tp_is (T : Nat → Int32) (l a : Nat) (c : Int32) : Prop := a < l ∧ T a = c
def tp_kind (c : Int32) : Int32 := if c = 97 then 1 else if c = 114 then 2 else if c = 99 then 3 else if c = 98 then 4 else if c = 100 then 5 else 0
def tp_or (f : Nat → Int32) (n k : Nat) : Nat → Int32 := upd f (6 + 32 * n + k / 32) (f (6 + 32 * n + k / 32) ||| pf_b1 (k % 32))
def tp_ks (T : Nat → Int32) (l hi n : Nat) : Nat → Nat → (Nat → Int32) → Nat × Nat × (Nat → Int32)
  | 0, a, f => (1, a, f)
  | g + 1, a, f => if tp_f T l (a + 1) 0 hi = 0 then (if tp_is T l (tp_end T l (a + 1)) 44 then tp_ks T l hi n g (tp_end T l (a + 1)) (tp_or f n (tp_num T l (a + 1))) else if tp_is T l (tp_end T l (a + 1)) 59 then (0, tp_end T l (a + 1) + 1, tp_or f n (tp_num T l (a + 1))) else (1, tp_end T l (a + 1), tp_or f n (tp_num T l (a + 1)))) else (tp_f T l (a + 1) 0 hi, a + 1, f)
def tp_set (T : Nat → Int32) (l hi n a : Nat) (f : Nat → Int32) : Nat × Nat × (Nat → Int32) := if n = 4 then (3, a, f) else tp_ks T l hi n (l + 1) a (upd f (2 + n) (tp_kind (T a)))
def tp_sets (T : Nat → Int32) (l hi : Nat) : Nat → Nat → Nat → (Nat → Int32) → Nat × Nat × (Nat → Int32)
  | 0, _, a, f => (1, a, f)
  | g + 1, n, a, f => if a < l ∧ ¬ tp_kind (T a) = 0 then (if (tp_set T l hi n a f).1 = 0 then tp_sets T l hi g (n + 1) (tp_set T l hi n a f).2.1 (upd (tp_set T l hi n a f).2.2 0 (nI (n + 1))) else tp_set T l hi n a f) else if a = l then (0, a, f) else (1, a, f)
def tp_all (T : Nat → Int32) (l : Nat) : Nat × Nat × (Nat → Int32) := if tp_is T l 0 117 then (if tp_f T l 1 2 10 = 0 then (if tp_is T l (tp_end T l 1) 59 then (if tp_end T l 1 + 1 = l ∨ tp_kind (T (tp_end T l 1 + 1)) = 0 then (1, tp_end T l 1 + 1, fun _ => 0) else tp_sets T l (2 ^ tp_num T l 1 - 1) (l + 1) 0 (tp_end T l 1 + 1) (upd (fun _ => 0) 1 (nI (tp_num T l 1)))) else (1, tp_end T l 1, fun _ => 0)) else (tp_f T l 1 2 10, 1, fun _ => 0)) else (1, 0, fun _ => 0)
theorem tp_fig_iff {T : Nat → Int32} {l i : Nat} : tp_fig T l i = true ↔ (i < l ∧ 48 ≤ (T i).toInt ∧ (T i).toInt ≤ 57) := by unfold tp_fig; exact decide_eq_true_iff
theorem tp_num_le {T : Nat → Int32} {l a : Nat} (h : tp_one T l a) : tp_num T l a ≤ 99 := by
  have h1 := tp_fig_iff.mp h.1
  unfold tp_num
  split
  · rename_i h2
    have h3 := tp_fig_iff.mp h2
    omega
  · omega
theorem tp_end_le {T : Nat → Int32} {l a : Nat} (h : tp_one T l a) : tp_end T l a ≤ l ∧ a < tp_end T l a := by
  have h1 := tp_fig_iff.mp h.1
  unfold tp_end
  split
  · rename_i h2
    have h3 := tp_fig_iff.mp h2
    omega
  · omega
theorem tp_f_one {T : Nat → Int32} {l a lo hi : Nat} (h : tp_f T l a lo hi = 0) : tp_one T l a ∧ lo ≤ tp_num T l a ∧ tp_num T l a ≤ hi := by
  unfold tp_f at h
  split at h
  · rename_i h1
    split at h
    · rename_i h2; exact ⟨h1, h2⟩
    · cases h
  · cases h
theorem nk_fg {x : Int32} (h : 48 ≤ x.toInt ∧ x.toInt ≤ 57) : x - 48 = nI (x.toInt - 48).toNat := by
  rw [fa_eq, fb_subI (y := 48) (by show _ ≤ x.toInt - 48; omega) (by show x.toInt - 48 < _; omega), nI_toInt (by omega)]
  show x.toInt - 48 = _
  omega
theorem nk_fg2 {x y : Int32} (h : 48 ≤ x.toInt ∧ x.toInt ≤ 57) (h2 : 48 ≤ y.toInt ∧ y.toInt ≤ 57) : 10 * nI (x.toInt - 48).toNat + y - 48 = nI (10 * (x.toInt - 48).toNat + (y.toInt - 48).toNat) := by
  have e : 10 * nI (x.toInt - 48).toNat + y - 48 = 10 * nI (x.toInt - 48).toNat + (y - 48) := by
    rw [Int32.sub_eq_add_neg, Int32.sub_eq_add_neg, Int32.add_assoc]
  rw [e, nk_fg h2, show (10 : Int32) = nI 10 from rfl, pk_mul, nI_add]
/-- the row with the cells of what is tried laid over it -/
def tz (F f : Nat → Int32) : Nat → Int32 := fun j => if 3618 ≤ j ∧ j < 3752 then f (j - 3618) else F j
theorem tz_at {F f : Nat → Int32} {k : Nat} (h : k < 134) : tz F f (3618 + k) = f k := by
  unfold tz; rw [if_pos (by omega), Nat.add_sub_cancel_left]
theorem tz_lo {F f : Nat → Int32} {j : Nat} (h : j < 3618) : tz F f j = F j := by unfold tz; rw [if_neg (by omega)]
theorem tz_upd {F f : Nat → Int32} {k : Nat} {x : Int32} (h : k < 134) : upd (tz F f) (3618 + k) x = tz F (upd f k x) := by
  funext j
  unfold upd tz
  by_cases q : j = 3618 + k
  · rw [if_pos q, if_pos (by omega)]
    exact (if_pos (by omega)).symm
  · rw [if_neg q]
    by_cases z : 3618 ≤ j ∧ j < 3752
    · rw [if_pos z, if_pos z]
      exact (if_neg (by omega)).symm
    · rw [if_neg z, if_neg z]
theorem tz_zero {F : Nat → Int32} : pf_zf F 3618 134 = tz F (fun _ => 0) := by
  funext j
  unfold pf_zf tz
  rfl

/-! pure: telling into rows, draws -/
def sp_tl (p : Nat → Bool) (t : Nat) (lane : Int32) (size i a : Nat) : Nat → Nat → Option Nat → (Nat → Int32) → (Nat → Int32) × Nat
  | 0, n, _, f => (f, n)
  | _ + 1, n, none, f => (f, n)
  | g + 1, n, some k, f => if i + n < size then sp_tl p t lane size i a g (n + 1) (sp_abv p t k) (upd f (a + n) (pf_nar (nI k) lane)) else (f, n)
theorem sp_tl_none {p : Nat → Bool} {t : Nat} {lane : Int32} {size i a n : Nat} {f : Nat → Int32} : ∀ g, sp_tl p t lane size i a g n none f = (f, n)
  | 0 => rfl
  | _ + 1 => rfl
theorem sp_tl_full {p : Nat → Bool} {t : Nat} {lane : Int32} {size i a n k : Nat} {f : Nat → Int32} (h : ¬ i + n < size) : ∀ g, sp_tl p t lane size i a g n (some k) f = (f, n)
  | 0 => rfl
  | g + 1 => by rw [sp_tl, if_neg h]
def f_tell (A : Nat → Nat → Int32) (m b : Nat) (s k r i : Int32) : Int32 := if sp_S m s then (if sp_K b k then (if sp_R r 0 7 then (if 0 ≤ A 3 (sp_n r) then (if 0 ≤ i.toInt ∧ i.toInt ≤ (A 3 (sp_n r)).toInt then 0 else 2) else 1) else -1) else -1) else -1
def sp_tl0 (A : Nat → Nat → Int32) (b s k r i : Nat) (p : Nat → Bool) : (Nat → Int32) × Nat := sp_tl p (nk_tp b) (A 2 r) (sp_n (A 3 r)) i (40 * r + i) 41 0 (if p k = true then some k else sp_abv p (nk_tp b) k) (A 4)
def dr_x (x : Nat) : Nat := x * 16807 % 2147483647
def dr_f (m t : Nat) : Nat → Nat → (Nat → Int32) → Nat → Int32
  | 0, _, f => f
  | n + 1, x, f => dr_f m t n (dr_x x) (a_tk f (dr_x x % m) (dr_x x / 8 % t))
theorem a_tk_hi {f : Nat → Int32} {s k j : Nat} (hs : s < 4) (hk : k < 1024) (h : 134 ≤ j) : a_tk f s k j = f j := by unfold a_tk upd; rw [if_neg (by omega)]
theorem dr_f_hi {m t j : Nat} (hm : 0 < m) (hm4 : m ≤ 4) (ht : 0 < t) (ht2 : t ≤ 1024) (h : 134 ≤ j) : ∀ (n x : Nat) (f : Nat → Int32), dr_f m t n x f j = f j
  | 0, _, _ => rfl
  | n + 1, x, f => by
    rw [dr_f, dr_f_hi hm hm4 ht ht2 h n, a_tk_hi (Nat.lt_of_lt_of_le (Nat.mod_lt _ hm) hm4) (Nat.lt_of_lt_of_le (Nat.mod_lt _ ht) ht2) h]
theorem dr_f_lo {m t j : Nat} (h : j < 6) : ∀ (n x : Nat) (f : Nat → Int32), dr_f m t n x f j = f j
  | 0, _, _ => rfl
  | n + 1, x, f => by rw [dr_f, dr_f_lo h n, a_tk_lo h]
theorem dr_back {F G : Nat → Int32} (h : ∀ j, 134 ≤ j → G j = va_cpy F F 0 3618 134 j) : va_cpy G G 3618 0 134 = va_cpy F F 0 3618 134 := by
  funext j
  by_cases q : j < 134
  · rw [pk_cpy_in (by omega) (by omega), h _ (by omega), pk_cpy_in (by omega) (by omega), va_cpy_out (by omega)]
    exact congrArg F (by omega)
  · rw [va_cpy_out (by omega), h j (by omega)]
abbrev c_drawn (b : Nat) (n x w : Int32) : Prop := 0 < b ∧ sp_R n 0 200 ∧ sp_R x 1 999999 ∧ sp_R w 0 1
def sp_drawn (m b : Nat) (F : Nat → Int32) (n x w : Int32) : Int32 := if 0 < b then (if c_drawn b n x w then (if w = 0 then nI (sp_allk (nk_mem (dr_f m (nk_tp b) (sp_n n) (sp_n x) F) 0) m) else sp_alln (nk_mem (dr_f m (nk_tp b) (sp_n n) (sp_n x) F) 0) b m) else -1000001) else -1000002
theorem sp_allk_cong {p q : Nat → Nat → Bool} : ∀ {m : Nat}, (∀ s, s < m → ∀ k, k < 1024 → p s k = q s k) → sp_allk p m = sp_allk q m
  | 0, _ => rfl
  | m + 1, h => by rw [sp_allk, sp_allk, sp_allk_cong (fun s hs => h s (by omega)), fb_ct_cong (h m (by omega))]
theorem nk_lne0 {m : Nat} (h : 0 < m) (h2 : m < 2 ^ 31) : ¬ lN m = 0 := fun z => by
  have := (pk_lEQ (a := m) (b := 0) (by omega) (by omega)).mp z
  omega
theorem dr_x_lt (x : Nat) : dr_x x < 2147483647 := Nat.mod_lt _ (by omega)
theorem dr_f_step {m t N k x : Nat} {F : Nat → Int32} (h : k < N) : dr_f m t (N - k) x F = dr_f m t (N - (k + 1)) (dr_x x) (a_tk F (dr_x x % m) (dr_x x / 8 % t)) := by
  rw [show N - k = (N - (k + 1)) + 1 by omega]; rfl

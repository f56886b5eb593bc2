/-! pure: what the reference's calls that change make of its row of numbers -/
def u_kp (u : Nat) : Nat := if u = 24 then 23 else u
def a_sh (f : Nat → Int32) (u : Nat) : Nat → Int32 := if u = 24 then va_cpy f f 268 134 3082 else f
def a_kp (f : Nat → Int32) (u : Nat) : Nat → Int32 := va_cpy (a_sh f u) (a_sh f u) 0 (134 + 134 * u_kp u) 134
theorem u_kp_le {u : Nat} (h : u ≤ 24) : u_kp u ≤ 23 := by unfold u_kp; split <;> omega
theorem a_sh_lo {f : Nat → Int32} {u j : Nat} (h : j < 134) : a_sh f u j = f j := by
  unfold a_sh
  split
  · exact va_cpy_out (by omega)
  · rfl
theorem a_kp_lo {f : Nat → Int32} {u j : Nat} (h : j < 134) : a_kp f u j = f j := by
  unfold a_kp
  rw [va_cpy_out (by omega), a_sh_lo h]
theorem mSh_lo {f g : Nat → Int32} {m b : Nat} (h : mSh f 0 m b) (e : ∀ j, j < 2 → g j = f j) : mSh g 0 m b := ⟨(e 0 (by omega)).trans h.1, (e 1 (by omega)).trans h.2.1, h.2.2⟩
def a_tk (f : Nat → Int32) (s k : Nat) : Nat → Int32 := upd f (0 + 6 + 32 * s + k / 32) (f (0 + 6 + 32 * s + k / 32) ^^^ pf_b1 (k % 32))
theorem a_tk_lo {f : Nat → Int32} {s k j : Nat} (h : j < 6) : a_tk f s k j = f j := by unfold a_tk upd; rw [if_neg (by omega)]
/-- the turning of a span: n keys from a on -/
def a_fl (f : Nat → Int32) (s a : Nat) : Nat → Nat → Int32
  | 0 => f
  | n + 1 => a_tk (a_fl f s a n) s (a + n)
theorem a_fl_lo {f : Nat → Int32} {s a j : Nat} (h : j < 6) : ∀ n, a_fl f s a n j = f j
  | 0 => rfl
  | n + 1 => by rw [a_fl, a_tk_lo h, a_fl_lo h n]
def pf_op (how x y : Int32) : Int32 := if how = 0 then x &&& y else if how = 1 then x ||| y else if how = 2 then x ^^^ y else x &&& (y ^^^ (-1))
def a_jn (f : Nat → Int32) (how : Int32) (a b c : Nat) : Nat → Nat → Int32
  | 0 => f
  | w + 1 => upd (a_jn f how a b c w) (6 + 32 * c + w) (pf_op how (a_jn f how a b c w (6 + 32 * a + w)) (a_jn f how a b c w (6 + 32 * b + w)))
theorem a_jn_lo {f : Nat → Int32} {how : Int32} {a b c j : Nat} (h : j < 6) : ∀ n, a_jn f how a b c n j = f j
  | 0 => rfl
  | n + 1 => by rw [a_jn]; unfold upd; rw [if_neg (by omega), a_jn_lo h n]
/-- the shift: n keys from 0 on are looked at in the shelf that was kept at 3618 -/
def a_sf (f : Nat → Int32) (s : Nat) (t : Nat) (v : Int) : Nat → Nat → Int32
  | 0 => f
  | n + 1 => if nk_mem (a_sf f s t v n) 3618 s n = true ∧ 0 ≤ (n : Int) + v ∧ (n : Int) + v < t then a_tk (a_sf f s t v n) s ((n : Int) + v).toNat else a_sf f s t v n
def a_gt (f : Nat → Int32) (s : Nat) (g : Nat → Int32) (a : Nat) : Nat → Nat → Int32
  | 0 => f
  | n + 1 => if nk_mem (a_gt f s g a n) 0 s (sp_n (g (a + n))) = true then a_gt f s g a n else a_tk (a_gt f s g a n) s (sp_n (g (a + n)))
theorem a_gt_lo {f : Nat → Int32} {s : Nat} {g : Nat → Int32} {a j : Nat} (h : j < 6) : ∀ n, a_gt f s g a n j = f j
  | 0 => rfl
  | n + 1 => by
    rw [a_gt]
    split
    · exact a_gt_lo h n
    · rw [a_tk_lo h, a_gt_lo h n]
theorem a_sf_lo {f : Nat → Int32} {s t j : Nat} {v : Int} (h : j < 6) : ∀ n, a_sf f s t v n j = f j
  | 0 => rfl
  | n + 1 => by
    rw [a_sf]
    split
    · rw [a_tk_lo h, a_sf_lo h n]
    · exact a_sf_lo h n
/-- backwards: the last k of n -/
theorem va_cpy_back {f : Nat → Int32} {a b n k : Nat} (h : k < n) : upd (va_cpy f f (a + (n - k)) (b + (n - k)) k) (b + (n - 1 - k)) (f (a + (n - 1 - k))) = va_cpy f f (a + (n - (k + 1))) (b + (n - (k + 1))) (k + 1) := by
  funext j
  unfold upd va_cpy
  by_cases q : j = b + (n - 1 - k)
  · subst q
    rw [if_pos rfl, if_pos ⟨by omega, by omega⟩]
    congr 1; omega
  · rw [if_neg q]
    by_cases z : b + (n - k) ≤ j ∧ j < b + (n - k) + k
    · rw [if_pos z, if_pos ⟨by omega, by omega⟩]
      congr 1; omega
    · rw [if_neg z, if_neg (fun y => z ⟨by omega, by omega⟩)]
def sp_turn (A : Nat → Nat → Int32) (u m b : Nat) (s k : Int32) (had : Bool) : Int32 := if sp_S m s then (if sp_K b k then (if nk_mem (A 0) 0 (sp_n s) (sp_n k) = had then nI (fb_ct (nk_mem (a_tk (a_kp (A 0) u) (sp_n s) (sp_n k)) 0 (sp_n s)) 1024) else -1000002) else -1000001) else -1000001
abbrev c_turn (A : Nat → Nat → Int32) (m b : Nat) (s k : Int32) (had : Bool) : Prop := sp_S m s ∧ sp_K b k ∧ nk_mem (A 0) 0 (sp_n s) (sp_n k) = had
def g_A (c : Prop) [Decidable c] (A : Nat → Nat → Int32) (f : Nat → Int32) : Nat → Nat → Int32 := if c then va_up A 0 f else A
def g_I (c : Prop) [Decidable c] (I : Nat → Int32) (u : Nat) : Nat → Int32 := if c then va_up I 0 (nI (u_kp u + 1)) else I

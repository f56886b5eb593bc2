/-! pure: spans turned, sets joined, shifted, gathered -/
abbrev c_flip (m b : Nat) (s a c : Int32) : Prop := sp_S m s ∧ sp_K b a ∧ sp_K b c ∧ a ≤ c
def sp_flip (A : Nat → Nat → Int32) (u m b : Nat) (s a c : Int32) : Int32 := if c_flip m b s a c then nI (fb_ct (nk_mem (a_fl (a_kp (A 0) u) (sp_n s) (sp_n a) (sp_n c + 1 - sp_n a)) 0 (sp_n s)) 1024) else -1000001
abbrev c_join (m : Nat) (how a b c : Int32) : Prop := sp_R how 0 3 ∧ sp_S m a ∧ sp_S m b ∧ sp_S m c
def sp_join (A : Nat → Nat → Int32) (u m : Nat) (how a b c : Int32) : Int32 := if c_join m how a b c then nI (fb_ct (nk_mem (a_jn (a_kp (A 0) u) how (sp_n a) (sp_n b) (sp_n c) 32) 0 (sp_n c)) 1024) else -1000001
abbrev c_shift (m : Nat) (s v : Int32) : Prop := sp_S m s ∧ sp_R v (-9999) 9999
def a_sft (f : Nat → Int32) (s t : Nat) (v : Int) : Nat → Int32 := a_sf (pf_zf (va_cpy f f 0 3618 134) (6 + 32 * s) 32) s t v t
def sp_shift (A : Nat → Nat → Int32) (u m b : Nat) (s v : Int32) : Int32 := if c_shift m s v then nI (fb_ct (nk_mem (a_sft (a_kp (A 0) u) (sp_n s) (nk_tp b) v.toInt) 0 (sp_n s)) 1024) else -1000001
def sp_ak (g : Nat → Int32) (b a : Nat) : Nat → Bool
  | 0 => true
  | n + 1 => sp_ak g b a n && decide (sp_K b (g (a + n)))
def f_gather (A : Nat → Nat → Int32) (m b : Nat) (s r i n : Int32) : Int32 := if sp_S m s then (if sp_R r 0 7 then (if sp_R n 1 40 then (if 0 ≤ A 3 (sp_n r) then (if sp_sp A (sp_n r) i n then (if sp_ak (A 4) b (40 * sp_n r + sp_n i) (sp_n n) = true then 0 else 2) else 2) else 1) else -1) else -1) else -1
def a_gth (A : Nat → Nat → Int32) (u s r i n : Nat) : Nat → Int32 := a_gt (a_kp (A 0) u) s (A 4) (40 * r + i) n
def i_gth (f : Int32) (I : Nat → Int32) (u : Nat) : Nat → Int32 := if f = 0 then va_up (va_up I 0 (nI (u_kp u + 1))) 3 0 else sp_I f I
theorem i_gth_0 (I : Nat → Int32) (u : Nat) : i_gth 0 I u = va_up (va_up I 0 (nI (u_kp u + 1))) 3 0 := rfl
theorem i_gth_b (I : Nat → Int32) (u : Nat) : i_gth (-1) I u = I := rfl
theorem i_gth_1 (I : Nat → Int32) (u : Nat) : i_gth 1 I u = va_up I 3 1 := rfl
theorem i_gth_2 (I : Nat → Int32) (u : Nat) : i_gth 2 I u = va_up I 3 2 := rfl
theorem sp_ak_at {g : Nat → Int32} {b a : Nat} : ∀ {n : Nat}, sp_ak g b a n = true → ∀ q, q < n → sp_K b (g (a + q))
  | 0, _, q, hq => by omega
  | n + 1, h, q, hq => by
    rw [sp_ak, Bool.and_eq_true, decide_eq_true_eq] at h
    rcases Nat.eq_or_lt_of_le (Nat.le_of_lt_succ hq) with e | e
    · subst e; exact h.2
    · exact sp_ak_at h.1 q e
theorem sp_ak_of {g : Nat → Int32} {b a : Nat} : ∀ {n : Nat}, (∀ q, q < n → sp_K b (g (a + q))) → sp_ak g b a n = true
  | 0, _ => rfl
  | n + 1, h => by
    rw [sp_ak, Bool.and_eq_true, decide_eq_true_eq]
    exact ⟨sp_ak_of (fun q hq => h q (by omega)), h n (by omega)⟩
theorem nk_ixw1 (s w : Nat) : 6 + 32 * nI s + nI w = nI (6 + 32 * s + w) := by
  rw [show (6 : Int32) = nI 6 from rfl, show (32 : Int32) = nI 32 from rfl, pk_mul, nI_add, nI_add]
theorem nk_addv {i : Nat} {v : Int32} (hi : i < 2000) (h : -9999 ≤ v.toInt ∧ v.toInt ≤ 9999) : (nI i + v).toInt = i + v.toInt := by
  have h1 := nI_toInt (n := i) (by omega)
  rw [fb_addI (by rw [h1]; omega) (by rw [h1]; omega), h1]
theorem sp_n_toInt {x : Int32} (h : 0 ≤ x.toInt) : (sp_n x : Int) = x.toInt := by
  obtain ⟨j, hj, rfl⟩ := nI_of (x := x) (by rw [fa_lt]; show ¬ x.toInt < 0; omega)
  rw [sp_n_nI hj, nI_toInt hj]
theorem sp_n_self {x : Int32} (h : 0 ≤ x.toInt) : nI (sp_n x) = x := by
  obtain ⟨j, hj, rfl⟩ := nI_of (x := x) (by rw [fa_lt]; show ¬ x.toInt < 0; omega)
  rw [sp_n_nI hj]
theorem nk_zf_lo {f : Nat → Int32} {a k j : Nat} (h : j < a) : pf_zf f a k j = f j := by unfold pf_zf; rw [if_neg (by omega)]

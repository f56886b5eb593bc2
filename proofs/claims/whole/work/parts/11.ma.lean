/-! pure: what the answers are (both sides are held to these) -/
def mSh (r : Nat → Int32) (base m b : Nat) : Prop := r base = nI m ∧ r (base + 1) = nI b ∧ m ≤ 4 ∧ b ≤ 10
abbrev sp_S (m : Nat) (s : Int32) : Prop := 0 ≤ s.toInt ∧ s.toInt < m
abbrev sp_K (b : Nat) (k : Int32) : Prop := 0 ≤ k.toInt ∧ k.toInt < nk_tp b
abbrev sp_R (x : Int32) (l u : Int) : Prop := l ≤ x.toInt ∧ x.toInt ≤ u
abbrev sp_n (x : Int32) : Nat := x.toNatClampNeg
theorem sp_n_nI {j : Nat} (h : j < 2 ^ 31) : sp_n (nI j) = j := nI_clamp h
theorem nk_getN {x : Int32} {n : Nat} (h : 0 ≤ x.toInt ∧ x.toInt < n) : ∃ j, j < n ∧ x = nI j := by
  have hx := fb_rng x
  have h1 : x.toInt.toNat < 2 ^ 31 := by omega
  refine ⟨x.toInt.toNat, by omega, ?_⟩
  rw [fa_eq, nI_toInt h1]
  omega
theorem nk_getR {x : Int32} {n : Nat} (h : 0 ≤ x.toInt ∧ x.toInt ≤ n) : ∃ j, j ≤ n ∧ x = nI j := by
  obtain ⟨j, h1, h2⟩ := nk_getN (x := x) (n := n + 1) ⟨h.1, by omega⟩
  exact ⟨j, by omega, h2⟩
theorem va_cpy_step {f : Nat → Int32} {a b k : Nat} (h : a + k < b ∨ b + k ≤ a + k ∧ b + k < a + 1 ∨ b + k < a + k + 1) : upd (va_cpy f f a b k) (b + k) (f (a + k)) = va_cpy f f a b (k + 1) := by
  funext j
  unfold upd va_cpy
  by_cases q : j = b + k
  · subst q
    rw [if_pos rfl, if_pos ⟨by omega, by omega⟩, Nat.add_sub_cancel_left]
  · rw [if_neg q]
    by_cases z : b ≤ j ∧ j < b + k
    · rw [if_pos z, if_pos ⟨z.1, by omega⟩]
    · rw [if_neg z, if_neg (fun y => z ⟨y.1, by omega⟩)]
theorem va_cpy_out {f : Nat → Int32} {a b k j : Nat} (h : j < b ∨ b + k ≤ j) : va_cpy f f a b k j = f j := by
  unfold va_cpy
  rw [if_neg (by omega)]
theorem va_cpy_0 {f : Nat → Int32} {a b : Nat} : va_cpy f f a b 0 = f := by
  funext j; exact va_cpy_out (by omega)
theorem va_up_same {α : Type} (f : Nat → α) (k : Nat) : va_up f k (f k) = f := by
  funext j
  unfold va_up
  by_cases q : j = k
  · rw [if_pos q, q]
  · rw [if_neg q]
theorem nk_mem_w {r : Nat → Int32} {base s w k : Nat} (h : k < 32) : nk_mem r base s (32 * w + k) = bt (r (base + 6 + 32 * s + w)) k := by
  unfold nk_mem
  rw [show (32 * w + k) / 32 = w by omega, show (32 * w + k) % 32 = k by omega]
theorem nk_ct_w {r : Nat → Int32} {base s w : Nat} : fb_ct (nk_mem r base s) (32 * w) + fb_ct (bt (r (base + 6 + 32 * s + w))) 32 = fb_ct (nk_mem r base s) (32 * (w + 1)) := by
  rw [show 32 * (w + 1) = 32 * w + 32 by omega, fb_ct_split]
  congr 1
  exact fb_ct_cong (fun k hk => (nk_mem_w hk).symm)

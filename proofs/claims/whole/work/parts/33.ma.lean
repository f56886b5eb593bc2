/-! pure: floats, chances -/
def fl_i (a b : Nat) : Nat := fa_first (fun i => decide (b * 2 ^ 23 ≤ a * 2 ^ i)) 64
def fl_r (a b i : Nat) : Nat := if b < 2 * (a * 2 ^ i % b) ∨ (2 * (a * 2 ^ i % b) = b ∧ a * 2 ^ i / b % 2 = 1) then 1 else 0
def fl_v (a b i : Nat) : Nat := (149 - i) * 2 ^ 23 + (a * 2 ^ i / b + fl_r a b i)
def fl (a b : Nat) : Nat := if a = 0 then 0 else fl_v a b (fl_i a b)
theorem fl_i_eq {a b i : Nat} (h1 : b * 2 ^ 23 ≤ a * 2 ^ i) (h2 : ∀ j, j < i → a * 2 ^ j < b * 2 ^ 23) (h3 : i < 64) : fl_i a b = i := by
  unfold fl_i
  have hl := fa_first_le (fun i => decide (b * 2 ^ 23 ≤ a * 2 ^ i)) 64
  have hn := fa_first_no (fun i => decide (b * 2 ^ 23 ≤ a * 2 ^ i)) 64
  have hy := fa_first_yes (fun i => decide (b * 2 ^ 23 ≤ a * 2 ^ i)) 64
  generalize fa_first (fun i => decide (b * 2 ^ 23 ≤ a * 2 ^ i)) 64 = q at hl hn hy
  rcases Nat.lt_trichotomy q i with e | e | e
  · have h4 := of_decide_eq_true (hy (by omega))
    have h5 := h2 q e
    omega
  · exact e
  · have h4 := of_decide_eq_false (hn i e)
    exact absurd h1 h4
theorem fl_pow {a b i : Nat} (h : a * 2 ^ i < b * 2 ^ 24) : ∀ j, j < i → a * 2 ^ j < b * 2 ^ 23 := by
  intro j hj
  have h1 : 2 ^ (j + 1) ≤ 2 ^ i := Nat.pow_le_pow_right (by omega) hj
  have h2 : a * 2 ^ (j + 1) ≤ a * 2 ^ i := Nat.mul_le_mul_left a h1
  have h3 : a * 2 ^ (j + 1) = 2 * (a * 2 ^ j) := by rw [Nat.pow_succ]; ac_rfl
  omega
theorem fl_r_le (a b i : Nat) : fl_r a b i ≤ 1 := by unfold fl_r; split <;> omega
def pw (k : Nat) : Int32 := Int32.ofInt (-(k : Int))
theorem pw_s (k : Nat) : pw k + Int32.ofInt (-1) = pw (k + 1) := by
  unfold pw
  rw [← Int32.ofInt_add]
  congr 1
  omega
theorem pw_0 : ∀ k, k ≤ 40 → pw k + 0 + 150 = nI (150 - k) := by decide +kernel
theorem pw_1 : ∀ k, k ≤ 40 → pw k + 1 + 150 = nI (151 - k) := by decide +kernel
theorem nk_s23 : ∀ k, k ≤ 151 → nI k <<< ((23 : Int32) &&& 31) = nI (k * 8388608) := by decide +kernel
theorem nk_lne {m : Nat} (h : 0 < m) (h2 : m < 2 ^ 63) : ¬ lN m = 0 := fun z => by
  have := (pk_lEQ (b := 0) h2 (by omega)).mp z
  omega
theorem sp_sum_le2 (p : Nat → Bool) (n : Nat) (h : n ≤ 1024) : sp_sum p n ≤ 1024 * 1024 := Nat.le_trans (sp_sum_le p n) (Nat.mul_le_mul h h)
def sp_share (m b : Nat) (p : Nat → Nat → Bool) (s w : Int32) : Int32 := if sp_S m s then (if sp_R w 0 2 then (if w = 0 then nI (fl (fb_ct (p (sp_n s)) 1024) (nk_tp b)) else if fb_ct (p (sp_n s)) 1024 = 0 then 0 else if w = 1 then nI (fl (sp_sum (p (sp_n s)) (nk_tp b)) (fb_ct (p (sp_n s)) 1024)) else nI (sp_sum (p (sp_n s)) (nk_tp b) / fb_ct (p (sp_n s)) 1024)) else -1000001) else -1000001
abbrev c_lk (m b : Nat) (s k o pp w : Int32) : Prop := sp_S m s ∧ sp_K b k ∧ sp_K b o ∧ sp_R pp 0 10 ∧ sp_R w 0 1
def lk_n (p : Nat → Bool) (k o : Nat) : Nat := fb_ct (fun j => p (k + 1 + j)) (o - (k + 1))
abbrev c_lk2 (p : Nat → Bool) (k o : Nat) : Prop := p o = true ∧ k < o ∧ lk_n p k o ≤ 16
def lk_a (pp n : Nat) : Nat := (10 - pp) * pp ^ n
def lk_b (n : Nat) : Nat := 10 ^ (n + 1)
def lk_v (pp n : Nat) (w : Int32) : Int64 := lN ((if w = 0 then lk_a pp n else lk_b n) / Nat.gcd (lk_a pp n) (lk_b n))
def sp_likely (m b : Nat) (p : Nat → Nat → Bool) (s k o pp w : Int32) : Int64 := if c_lk m b s k o pp w then (if c_lk2 (p (sp_n s)) (sp_n k) (sp_n o) then lk_v (sp_n pp) (lk_n (p (sp_n s)) (sp_n k) (sp_n o)) w else -1000002) else -1000001
theorem lk_a_s (pp n : Nat) : lk_a pp n * pp = lk_a pp (n + 1) := by unfold lk_a; rw [Nat.pow_succ, Nat.mul_assoc]
theorem lk_b_s (n : Nat) : lk_b n * 10 = lk_b (n + 1) := by unfold lk_b; rw [Nat.pow_succ 10 (n + 1)]
theorem lk_b_pos (n : Nat) : 0 < lk_b n := Nat.pow_pos (by omega)
theorem lk_b_le {n : Nat} (h : n ≤ 16) : lk_b n ≤ 10 ^ 17 := Nat.pow_le_pow_right (n := 10) (by omega) (show n + 1 ≤ 17 by omega)
theorem lk_a_le {pp n : Nat} (h : pp ≤ 10) (hn : n ≤ 16) : lk_a pp n ≤ 10 ^ 17 := by
  unfold lk_a
  have h1 : pp ^ n ≤ 10 ^ n := Nat.pow_le_pow_left h n
  have h2 : 10 ^ n ≤ 10 ^ 16 := Nat.pow_le_pow_right (n := 10) (by omega) hn
  have h3 : (10 - pp) * pp ^ n ≤ 10 * 10 ^ 16 := Nat.mul_le_mul (by omega) (Nat.le_trans h1 h2)
  exact h3
theorem nk_J.mono {G : nk_EG} {μ : nk_MI} {d : Nat} {Φ Ψ : Option Value → nk_AH → Prop} {bc bs pc : Nat} {L : List (Option Value)} {st : List Value} {H : nk_AH} (h : nk_J G μ d Φ bc bs pc L st H) (hi : ∀ r H', Φ r H' → Ψ r H') : nk_J G μ d Ψ bc bs pc L st H := by
  intro p l e R s m args below meth c mc ms A Q C
  exact h p l e R s m args below meth c mc ms A Q ⟨C.1, C.2.1, C.2.2.1, C.2.2.2.1, C.2.2.2.2.1, C.2.2.2.2.2.1, C.2.2.2.2.2.2.1, C.2.2.2.2.2.2.2.1, C.2.2.2.2.2.2.2.2.1, C.2.2.2.2.2.2.2.2.2.1, C.2.2.2.2.2.2.2.2.2.2.1, fun pc ls Hc locs ins r H' h1 h2 h3 => C.2.2.2.2.2.2.2.2.2.2.2 pc ls Hc locs ins r H' h1 h2 (hi r H' h3)⟩
theorem fl_e0 {k qq o v : Nat} (hk : k ≤ 40) (h1 : 8388608 ≤ qq) (hv : (149 - k) * 8388608 + (qq + o) = v) : (150 - k) * 8388608 + (qq + o - 8388608) = v := by
  have e : 150 - k = 149 - k + 1 := by omega
  rw [e, Nat.add_mul, Nat.one_mul]
  generalize (149 - k) * 8388608 = M at hv
  omega
theorem fl_e1 {k x v : Nat} (hk : k ≤ 40) (hx : x = 16777216) (hv : (149 - k) * 8388608 + x = v) : (151 - k) * 8388608 + 0 = v := by
  have e : 151 - k = 149 - k + 2 := by omega
  rw [e, Nat.add_mul, show 2 * 8388608 = 16777216 from rfl]
  generalize (149 - k) * 8388608 = M at hv
  omega

/-! floats, factors, kinds of the class: pure -/
theorem lN_shl23 (a : Nat) : lN a <<< ((23 : Int32).toInt64 &&& 63) = lN (a * 8388608) := by
  rw [← lN_mul]
  apply Int64.toBitVec_inj.mp
  rw [Int64.toBitVec_shiftLeft, Int64.toBitVec_mul]
  exact BitVec.shiftLeft_eq_mul_twoPow _ 23
theorem fl_fin {a b i j : Nat} (ha : 0 < a) (hb : 0 < b) (h1 : b * 2 ^ j ≤ a * 2 ^ i) (h2 : a * 2 ^ i < b * 2 ^ j * 2) (hi : i ≤ 30) (hj : j ≤ 22) (hij : j ≤ i + 23) : fl a b = (149 - (23 + i - j)) * 2 ^ 23 + (a * 2 ^ i * 2 ^ 23 / (b * 2 ^ j) + (if b * 2 ^ j < 2 * (a * 2 ^ i * 2 ^ 23 % (b * 2 ^ j)) ∨ (2 * (a * 2 ^ i * 2 ^ 23 % (b * 2 ^ j)) = b * 2 ^ j ∧ a * 2 ^ i * 2 ^ 23 / (b * 2 ^ j) % 2 = 1) then 1 else 0)) := by
  have hp : 0 < 2 ^ j := Nat.pow_pos (by omega)
  have e : a * 2 ^ i * 2 ^ 23 = a * 2 ^ (23 + i - j) * 2 ^ j := by
    rw [Nat.mul_assoc, Nat.mul_assoc, ← Nat.pow_add, ← Nat.pow_add]
    exact congrArg (fun z => a * 2 ^ z) (by omega)
  generalize hI : 23 + i - j = I at *
  have g1 : b * 2 ^ 23 ≤ a * 2 ^ I := by
    have : b * 2 ^ 23 * 2 ^ j ≤ a * 2 ^ I * 2 ^ j := by
      rw [← e, Nat.mul_right_comm]
      exact Nat.mul_le_mul_right _ h1
    exact Nat.le_of_mul_le_mul_right this hp
  have g2 : a * 2 ^ I < b * 2 ^ 24 := by
    have : a * 2 ^ I * 2 ^ j < b * 2 ^ 24 * 2 ^ j := by
      rw [← e, Nat.mul_right_comm b]
      have h3 := Nat.mul_lt_mul_of_pos_right h2 (show 0 < 2 ^ 23 by decide)
      have h5 : (2 : Nat) * 2 ^ 23 = 2 ^ 24 := by decide
      rw [Nat.mul_assoc (b * 2 ^ j), h5] at h3
      exact h3
    exact Nat.lt_of_mul_lt_mul_right this
  have hf : fl a b = fl_v a b I := by unfold fl; rw [if_neg (by omega), fl_i_eq g1 (fl_pow g2) (by omega)]
  have d1 : a * 2 ^ i * 2 ^ 23 / (b * 2 ^ j) = a * 2 ^ I / b := by rw [e]; exact Nat.mul_div_mul_right _ _ hp
  have d2 : a * 2 ^ i * 2 ^ 23 % (b * 2 ^ j) = a * 2 ^ I % b * 2 ^ j := by rw [e]; exact Nat.mul_mod_mul_right _ _ _
  rw [hf, d1, d2]
  unfold fl_v fl_r
  have c : (b * 2 ^ j < 2 * (a * 2 ^ I % b * 2 ^ j) ∨ (2 * (a * 2 ^ I % b * 2 ^ j) = b * 2 ^ j ∧ a * 2 ^ I / b % 2 = 1)) ↔ (b < 2 * (a * 2 ^ I % b) ∨ (2 * (a * 2 ^ I % b) = b ∧ a * 2 ^ I / b % 2 = 1)) := by
    rw [← Nat.mul_assoc]
    constructor
    · rintro (z | ⟨z, y⟩)
      · exact Or.inl (Nat.lt_of_mul_lt_mul_right z)
      · exact Or.inr ⟨Nat.eq_of_mul_eq_mul_right hp z, y⟩
    · rintro (z | ⟨z, y⟩)
      · exact Or.inl (Nat.mul_lt_mul_of_pos_right z hp)
      · exact Or.inr ⟨by rw [z], y⟩
  by_cases z : b < 2 * (a * 2 ^ I % b) ∨ (2 * (a * 2 ^ I % b) = b ∧ a * 2 ^ I / b % 2 = 1)
  · rw [if_pos z, if_pos (c.mpr z)]
  · rw [if_neg z, if_neg (fun y => z (c.mp y))]
theorem gcd_half {u v k : Nat} (h : v ≤ u) (h0 : 0 < v) (hp : u * v < 2 ^ k) : 1 ≤ k ∧ v * (u % v) < 2 ^ (k - 1) := by
  have h1 : 0 < u * v := Nat.mul_pos (by omega) h0
  have hk : k ≠ 0 := fun z => by subst z; omega
  refine ⟨by omega, ?_⟩
  have h2 := Nat.mod_lt u h0
  have h3 : v * (u / v) + u % v = u := Nat.div_add_mod u v
  have h4 : 1 ≤ u / v := Nat.div_pos h h0
  have h5 : v * 1 ≤ v * (u / v) := Nat.mul_le_mul_left v h4
  have h6 : 2 * (u % v) ≤ u := by omega
  have h7 : v * (2 * (u % v)) ≤ v * u := Nat.mul_le_mul_left v h6
  have h8 : 2 ^ k = 2 * 2 ^ (k - 1) := by
    have e : k = k - 1 + 1 := by omega
    rw [e, Nat.pow_succ, Nat.add_sub_cancel]; omega
  have h9 : v * (2 * (u % v)) = 2 * (v * (u % v)) := by rw [Nat.mul_left_comm]
  have h10 : v * u = u * v := Nat.mul_comm _ _
  omega
theorem sf_pr {a b : Nat} (hb : 0 < b) (hb2 : b < 2 ^ 62) : b * (a % b) < 2 ^ 124 := by
  have hr := Nat.mod_lt a hb
  have z1 : b * (a % b) ≤ b * b := Nat.mul_le_mul_left b (by omega)
  have z2 := Nat.mul_lt_mul_of_lt_of_lt hb2 hb2
  rw [← Nat.pow_add] at z2
  exact Nat.lt_of_le_of_lt z1 z2
theorem sf_gc {a b : Nat} : Nat.gcd b (a % b) = Nat.gcd a b := by rw [Nat.gcd_comm a b, Nat.gcd_rec b a, Nat.gcd_comm]
def su : Nat → Nat → Bool
  | 0, x => decide (x = 0)
  | 1, x => decide (x = 1) || decide (x = 0)
  | 2, x => decide (x = 2) || (decide (x = 1) || decide (x = 0))
  | 3, x => decide (x = 3) || (decide (x = 1) || decide (x = 0))
  | 4, x => decide (x = 4) || decide (x = 0)
  | _, x => decide (x = 5) || (decide (x = 4) || decide (x = 0))
theorem su_of0 : ∀ e, e < 6 → ∀ x, x < 6 → e = 0 ∨ su e x = decide (sp_of (nI e) (nI x)) := by decide +kernel
theorem su_of (e : Nat) (h1 : 1 ≤ e) (h5 : e ≤ 5) (x : Nat) (hx : x ≤ 5) : su e x = true ↔ sp_of (nI e) (nI x) := by
  have h := (su_of0 e (by omega) x (by omega)).resolve_left (by omega)
  rw [h]
  exact decide_eq_true_iff
theorem sp_ak_no {g : Nat → Int32} {b a t : Nat} (h : sp_ak g b a t = false) : ∀ n, t ≤ n → sp_ak g b a n = false
  | 0, hn => by rw [show t = 0 by omega] at h; exact h
  | n + 1, hn => by
    by_cases z : t = n + 1
    · rw [← z]; exact h
    · rw [sp_ak, sp_ak_no h n (by omega)]; rfl
theorem sp_ak_cg {g g' : Nat → Int32} {b a a' : Nat} : ∀ n, (∀ t, t < n → g (a + t) = g' (a' + t)) → sp_ak g b a n = sp_ak g' b a' n
  | 0, _ => rfl
  | n + 1, h => by rw [sp_ak, sp_ak, sp_ak_cg n (fun t ht => h t (by omega)), h n (by omega)]
theorem nk_ifr {p q : Prop} [Decidable p] [Decidable q] (h : q ↔ p) : (if p then (1 : Int32) else 0) = if q then 1 else 0 := by
  by_cases z : p
  · rw [if_pos z, if_pos (h.mpr z)]
  · rw [if_neg z, if_neg (fun y => z (h.mp y))]
/-- how many of the first n references there are -/
def cnq (z : Nat → Option Nat) : Nat → Nat
  | 0 => 0
  | n + 1 => cnq z n + (if (z n).isSome = true then 1 else 0)
theorem cnq_le (z : Nat → Option Nat) : ∀ n, cnq z n ≤ n
  | 0 => Nat.le_refl _
  | n + 1 => by have := cnq_le z n; rw [cnq]; split <;> omega

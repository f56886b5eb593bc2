/-! pure: more of words -/
theorem wf_f : ∀ b, b ≤ 10 → 2 ≤ b → (b ≤ 5 → nk_wm b = 1) ∧ (¬ b ≤ 5 → nk_wm b = 2 ^ (b - 5)) := by decide +kernel
theorem nk_len (n : Nat) : Int32.ofNat n = nI n := rfl
theorem ju_bit {x : Int32} {i : Nat} (hi : i < 32) : ju x i &&& 1 = if bt x i = true then 1 else 0 := by
  apply b_ext
  intro j hj
  have h1 : bt 1 j = decide (j = 0) := (by decide +kernel : ∀ i, i < 32 → bt 1 i = decide (i = 0)) j hj
  rw [b_and, b_ushr i hi, h1]
  by_cases e : j = 0
  · subst e
    rw [Nat.add_zero, decide_eq_true rfl, Bool.and_true]
    cases q : bt x i with
    | true => rw [if_pos rfl, h1]; rfl
    | false => rw [if_neg (by decide), b_0]
  · rw [decide_eq_false e, Bool.and_false]
    split
    · rw [h1, decide_eq_false e]
    · rw [b_0]
theorem ju_bit1 {x : Int32} {i : Nat} (hi : i < 32) : ju x i &&& 1 = 1 ↔ bt x i = true := by
  rw [ju_bit hi]
  by_cases q : bt x i = true
  · rw [if_pos q]; exact ⟨fun _ => q, fun _ => rfl⟩
  · rw [if_neg q]; exact ⟨fun z => absurd z (by decide), fun z => absurd z q⟩
theorem nk_x32 (w : Nat) : nI w * 32 = nI (w * 32) := pk_mul w 32
theorem nk_w32 {w t : Nat} : nI (w * 32) + nI t = nI (32 * w + t) := by rw [nI_add, Nat.mul_comm]
theorem nk_i1m (u : Nat) : nI u + Int32.ofInt (-1) = nI u - 1 := by
  rw [Int32.sub_eq_add_neg]; rfl
/-- one more than the word in which the last key below a is -/
def up_v (a : Nat) : Nat := (a + 31) / 32
theorem up_v2 (a : Nat) : a ≤ 32 * up_v a := by unfold up_v; omega
theorem up_v1 {a b : Nat} (hb2 : 2 ≤ b) (hb10 : b ≤ 10) (h : a ≤ nk_tp b) : up_v a ≤ nk_wm b := by
  have := wm_f b hb10 hb2
  unfold up_v; omega
theorem up_vs : ∀ a, a ≤ 1024 → (nI a - 1) >>> ((5 : Int32) &&& 31) = nI (up_v a) - 1 := by decide +kernel
theorem up_v0 {a b : Nat} (hb2 : 2 ≤ b) (hb10 : b ≤ 10) (h : a ≤ nk_tp b) : (if nI (nk_wm b) - 1 < (nI a - 1) >>> ((5 : Int32) &&& 31) then nI (nk_wm b) - 1 else (nI a - 1) >>> ((5 : Int32) &&& 31)) = nI (up_v a) - 1 := by
  have hw := wm_f b hb10 hb2
  have h1 := up_v1 hb2 hb10 h
  rw [up_vs a (by omega)]
  have c : ¬ nI (nk_wm b) - 1 < nI (up_v a) - 1 := fun q => by
    have := (fa_lt _ _).mp q
    rw [nk_m1 (by omega), nk_m1 (by omega)] at this
    omega
  rw [if_neg c]

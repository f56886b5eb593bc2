/-! pure: chases, covers, gaps -/
theorem sp_ch_none {nx : Nat → Nat → Option Nat} {a b : Nat} : ∀ (n q : Nat), sp_ch nx a b n q none = none
  | 0, _ => rfl
  | _ + 1, _ => rfl
theorem sp_ch_step {nx : Nat → Nat → Option Nat} {a b N i q : Nat} (h : i < N) : sp_ch nx a b (N - i) i (some q) = sp_ch nx a b (N - (i + 1)) (i + 1) (nx (if i % 2 = 0 then a else b) q) := by
  rw [show N - i = (N - (i + 1)) + 1 by omega]; rfl
theorem sp_cov_step {p : Nat → Nat → Bool} {m : Nat} {x : Int32} {a c : Nat} (h : a ≤ c) : sp_cov p m x a (c + 1 - a) = (sp_any p x a m && sp_cov p m x (a + 1) (c + 1 - (a + 1))) := by
  rw [show c + 1 - a = (c + 1 - (a + 1)) + 1 by omega]; rfl
theorem nk_b01 {x : Int32} {b : Bool} (h : x = if b = true then 1 else 0) : (x = 0 ↔ b = false) := by
  subst h
  cases b
  · exact ⟨fun _ => rfl, fun _ => rfl⟩
  · exact ⟨fun q => absurd q (by decide), fun q => by cases q⟩
theorem sp_cv_lt {cov : Nat → Bool} : ∀ {j q : Nat}, sp_cv cov j = some q → 1 ≤ q ∧ q ≤ j
  | 0, q, h => by cases h
  | j + 1, q, h => by
    rw [sp_cv] at h
    split at h
    · cases h; exact ⟨by omega, Nat.le_refl _⟩
    · have := sp_cv_lt h; omega
theorem sp_gp_none {p : Nat → Bool} {t most key : Nat} {l : Option Nat} (h : sp_abv p t key = none) : ∀ n, sp_gp p t n most l key = (most, l)
  | 0 => rfl
  | n + 1 => by rw [sp_gp, h]
theorem sp_gp_yes {p : Nat → Bool} {t most key n u : Nat} {l : Option Nat} (h : sp_abv p t key = some u) (c : most < u - key) : sp_gp p t (n + 1) most l key = sp_gp p t n (u - key) (some key) u := by rw [sp_gp, h]; exact if_pos c
theorem sp_gp_no {p : Nat → Bool} {t most key n u : Nat} {l : Option Nat} (h : sp_abv p t key = some u) (c : ¬ most < u - key) : sp_gp p t (n + 1) most l key = sp_gp p t n most l u := by rw [sp_gp, h]; exact if_neg c
theorem nk_2p {m : Nat} (h : m ≤ 4) : 2 ^ m ≤ 16 := Nat.pow_le_pow_right (n := 2) (by omega) h
theorem sp_gp_lt {p : Nat → Bool} {t : Nat} : ∀ {n most key : Nat} {l : Option Nat} {k : Nat}, key < t → (∀ k, l = some k → k < t) → (sp_gp p t n most l key).2 = some k → k < t
  | 0, _, _, _, k, _, hl, h => hl k h
  | n + 1, most, key, l, k, hk, hl, h => by
    cases ha : sp_abv p t key with
    | none => rw [sp_gp_none ha] at h; exact hl k h
    | some u =>
      have hu : u < t := by have := (nk_up_lt ha).2.1; omega
      by_cases c : most < u - key
      · rw [sp_gp_yes ha c] at h
        exact sp_gp_lt hu (fun k hk2 => by cases hk2; exact hk) h
      · rw [sp_gp_no ha c] at h
        exact sp_gp_lt hu hl h
theorem sp_gp0_lt {p : Nat → Bool} {t k : Nat} (h : (sp_gp0 p t).2 = some k) : k < t := by
  unfold sp_gp0 at h
  cases hu : nk_up p 0 t with
  | none => rw [hu] at h; cases h
  | some v =>
    rw [hu] at h
    exact sp_gp_lt (by have := (nk_up_lt hu).2.1; omega) (fun k hk => by cases hk) h
theorem nk_v1 {p : Prop} [Decidable p] (h : p) : some (Value.int 1) = some (Value.int (if p then 1 else 0)) := by rw [if_pos h]
theorem nk_v0 {p : Prop} [Decidable p] (h : ¬ p) : some (Value.int 0) = some (Value.int (if p then 1 else 0)) := by rw [if_neg h]

/-! a new object of the class: pure -/
theorem nk_le.new {H : nk_AH} {c : Nat} {e : nk_AC} (h : H c = none) : nk_le H (nk_u H c e) := fun x y hx => by rw [nk_u_ne (nk_ne hx h)]; exact hx
theorem nk_le.tr {H K L : nk_AH} (h1 : nk_le H K) (h2 : nk_le K L) : nk_le H L := fun x y hx => h2 x y (h1 x y hx)
theorem nk_le.mn {H : nk_AH} {q N M : Nat} (h : ∀ i, i ≤ N → H (q + i) = none) : nk_le H (mnh H q N M) := fun x y hx => by
  unfold mnh
  have h0 : x ≠ q := fun e => by have := h 0 (by omega); rw [Nat.add_zero, ← e, hx] at this; cases this
  have h1 : ¬ (q < x ∧ x ≤ q + N) := fun z => by
    have := h (x - q) (by omega)
    rw [show q + (x - q) = x by omega, hx] at this; cases this
  rw [if_neg h0, if_neg h1]; exact hx
theorem nk_two {H : nk_AH} {o c : Nat} {d : nk_AC} (h : nk_u H o d c = none) : c ≠ o ∧ H c = none := by
  have h0 : c ≠ o := fun e => by rw [e, nk_u_self] at h; cases h
  rw [nk_u_ne h0] at h
  exact ⟨h0, h⟩
theorem nk_sw2 {H : nk_AH} {o c : Nat} {d d' e : nk_AC} (h : c ≠ o) : nk_u (nk_u (nk_u H o d) c e) o d' = nk_u (nk_u H c e) o d' := by
  funext x
  unfold nk_u
  by_cases h1 : x = o <;> by_cases h2 : x = c <;> simp_all
theorem nk_sw3 {H : nk_AH} {o c y : Nat} {d e0 e1 e2 : nk_AC} (h : c ≠ o) (h2 : y ≠ o) (h3 : c ≠ y) : nk_u (nk_u (nk_u (nk_u H o d) c e0) y e1) c e2 = nk_u (nk_u (nk_u H y e1) c e2) o d := by
  funext x
  unfold nk_u
  by_cases k1 : x = o <;> by_cases k2 : x = c <;> by_cases k3 : x = y <;> simp_all
theorem nk_sw4 {H : nk_AH} {o c y b : Nat} {d e0 e1 e2 : nk_AC} (h : c ≠ o) (h2 : y ≠ o) (h3 : c ≠ y) (hb : ∀ i, i ≤ 24 → b + i ≠ o ∧ b + i ≠ c) : nk_u (mnh (nk_u (nk_u (nk_u H o d) c e0) y e1) b 24 32) c e2 = nk_u (nk_u (mnh (nk_u H y e1) b 24 32) c e2) o d := by
  have b0 := hb 0 (by omega)
  funext x
  by_cases k1 : x = o
  · subst k1
    have n1 : ¬ (b < x ∧ x ≤ b + 24) := fun z => (hb (x - b) (by omega)).1 (by omega)
    rw [nk_u_ne h.symm, nk_u_self]
    unfold mnh
    rw [if_neg (fun z => b0.1 (by omega)), if_neg n1, nk_u_ne h2.symm, nk_u_ne h.symm, nk_u_self]
  · by_cases k2 : x = c
    · subst k2
      rw [nk_u_self, nk_u_ne k1, nk_u_self]
    · rw [nk_u_ne k2, nk_u_ne k1, nk_u_ne k2]
      unfold mnh
      by_cases k3 : x = y
      · subst k3; rw [nk_u_self, nk_u_self]
      · rw [nk_u_ne k3, nk_u_ne k2, nk_u_ne k1, nk_u_ne k3]
theorem A0_3 : ∀ r, r < 8 → A0 3 r = -1 := by decide +kernel
/-- tags of a new object's cells -/
def g0 (K : nk_AH) (bq : Nat) : Nat → Nat := fun x => match K x with
  | some (.inr (n, _)) => if n = 6 then 0 else if n = 5 then 2 else if n = 0 then 5 else 8
  | some (.inl (.int, n, _)) => if n = 110 then 3 else if n = 16 then 9 else 30 + (x - (bq + 1))
  | some (.inl (.array _, _)) => 7
  | some (.inl (.object n, _)) => if n = RX2 then 6 else if n = RX4 then 1 else 4
  | _ => 99
theorem g0_at {K : nk_AH} {bq x t : Nat} {e : nk_AC} (h : K x = some e) (ht : (match some e with
  | some (.inr (n, _)) => if n = 6 then 0 else if n = 5 then 2 else if n = 0 then 5 else 8
  | some (.inl (.int, n, _)) => if n = 110 then 3 else if n = 16 then 9 else 30 + (x - (bq + 1))
  | some (.inl (.array _, _)) => 7
  | some (.inl (.object n, _)) => if n = RX2 then 6 else if n = RX4 then 1 else 4
  | _ => (99 : Nat)) = t) : rT K (g0 K bq) t x e := ⟨h, by unfold g0; rw [h]; exact ht⟩

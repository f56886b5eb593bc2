/-! acts -/
abbrev acc (a1 a2 c u : Nat) : nk_AC := .inr (0, [.ref a1, .ref a2, .int (nI c), .int (nI u)])
abbrev chc (z : Nat → Option Nat) : nk_AC := .inl (.object RX2, 24, .inr (.inr (.inr (.inr z))))
abbrev bfc (bf : Nat → Nat) : nk_AC := .inl (.array .int, 24, .inr (.inr (.inr (.inr (fun i => if i < 24 then some (bf i) else none)))))
def cA0 (H : nk_AH) (q a1 a2 : Nat) (z : Nat → Option Nat) (bf : Nat → Nat) (c u : Nat) : Prop := H q = some (acc a1 a2 c u) ∧ H a1 = some (chc z) ∧ H a2 = some (bfc bf)
theorem bf_at {bf : Nat → Nat} {i : Nat} (h : i < 24) : va_rf ((fun i => if i < 24 then some (bf i) else none) i) = .ref (bf i) := by
  show va_rf (if i < 24 then some (bf i) else none) = _
  rw [if_pos h]; rfl
theorem nk_min24 {u : Nat} (h : u ≤ 24) : (if (24 : Int32) < nI (u + 1) then 24 else nI (u + 1) : Int32) = nI (min (u + 1) 24) := by
  by_cases e : u = 24
  · subst e; rfl
  · rw [if_neg (fun z => by have := nk_ltI (a := 24) z (by omega) (by omega); omega), Nat.min_eq_left (by omega)]
theorem nk_r24 {c : Nat} (h : c < 24) : nI c + 1 - (nI c + 1) / 24 * 24 = nI ((c + 1) % 24) := by rw [nI_1]; exact pk_rem (d := 24) (by omega) (by omega) (by omega)
theorem nk_r23 {c : Nat} (h : c < 24) : nI c + 24 - 1 - (nI c + 24 - 1) / 24 * 24 = nI ((c + 23) % 24) := by
  rw [show nI c + 24 - 1 = nI (c + 23) from by rw [show (24 : Int32) = nI 24 from rfl, nI_add, show (1 : Int32) = nI 1 from rfl, pk_sub (by omega)]; rfl]
  exact pk_rem (d := 24) (by omega) (by omega) (by omega)
theorem nk_cdif {H : nk_AH} {a b : Nat} {e e' : nk_AC} (h : H a = some e) (h' : H b = some e') (n : e ≠ e') : a ≠ b := fun z => by
  rw [z, h'] at h
  exact n (Option.some.inj h).symm

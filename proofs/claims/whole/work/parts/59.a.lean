/-! draws, chances: pure -/
theorem gz_tk {r : Nat → Int32} {s k b s' : Nat} (hs : s < 4) (hs' : s' < 4) (hk : k < nk_tp b) (hb : b ≤ 10) (h : gz (shF r 0 s') b) : gz (shF (a_tk r s k) 0 s') b := fun x x1 x2 => by
  have ht := nk_tp_le hb
  have := h x x1 x2
  unfold gm at this ⊢
  show bt (a_tk r s k (0 + 6 + 32 * s' + x / 32)) (x % 32) = false
  by_cases e : s = s'
  · subst e
    unfold a_tk upd
    by_cases z : x / 32 = k / 32
    · rw [if_pos (by omega), b_xor, pf_b1_bt (Nat.mod_lt _ (by omega)) (Nat.mod_lt _ (by omega)), decide_eq_false (by omega), ← z]
      rw [show bt (r (0 + 6 + 32 * s + x / 32)) (x % 32) = false from this]; rfl
    · rw [if_neg (by omega)]; exact this
  · rw [a_tk_other e (by omega) (by omega)]; exact this
theorem gz_dr {m b : Nat} (hm : 0 < m) (hm4 : m ≤ 4) (hb2 : 2 ≤ b) (hb : b ≤ 10) {s' : Nat} (hs' : s' < 4) : ∀ (n x : Nat) (r : Nat → Int32), gz (shF r 0 s') b → gz (shF (dr_f m (nk_tp b) n x r) 0 s') b
  | 0, _, _, h => h
  | n + 1, x, r, h => by
    have hwm := wm_f b hb hb2
    exact gz_dr hm hm4 hb2 hb hs' n _ _ (gz_tk (by have := Nat.mod_lt (dr_x x) hm; omega) hs' (Nat.mod_lt _ (by omega)) hb h)
theorem shF_cpy {r : Nat → Int32} {d s v : Nat} (hd : 134 ≤ d) (hs : s < 4) (hv : v < 32) : shF r 0 s v = shF (va_cpy r r 0 d 134) 0 s v := by
  show r _ = va_cpy r r 0 d 134 _
  rw [va_cpy_out (by omega)]
theorem cS.wr {H : nk_AH} {q sa m b : Nat} {qs ws : Nat → Nat} {κ : Nat → Int32} {r r' : Nat → Int32} (h : cS H q sa m b qs ws κ (shF r 0)) (hm : m ≤ 4) (hb2 : 2 ≤ b) (hb : b ≤ 10) (hr : ∀ i, i < 134 → r i = r' i) : cS H q sa m b qs ws κ (shF r' 0) := by
  have hwm := wm_f b hb hb2
  exact h.cg (fun _ _ => rfl) (fun j hj v hv => hr _ (by omega))

/-! shelves made and changed -/
/-- a shelf's heap when a set is put behind the others -/
def ap (H : nk_AH) (q a m b : Nat) (qs : Nat → Nat) (κ : Int32) (q1 w1 : Nat) : nk_AH := nk_u (nk_u (nk_u (nk_u H w1 (inc (nk_wm b) (fun _ => 0))) q1 (kyc m κ b w1)) a (stc (m + 1) (va_up qs m q1))) q (shc b a (m + 1))
section SHL
variable {H : nk_AH} {q a m b : Nat} {qs ws : Nat → Nat} {κ : Nat → Int32} {F : Nat → Nat → Int32}
theorem cS.qa (h : cS H q a m b qs ws κ F) : q ≠ a := fun z => by
  have h1 := h.1
  rw [z, h.2.1] at h1
  cases h1
theorem cS.qq (h : cS H q a m b qs ws κ F) {s : Nat} (hs : s < m) : qs s ≠ q ∧ qs s ≠ a ∧ ws s ≠ q ∧ ws s ≠ a := by
  obtain ⟨f, h1, -⟩ := h.2.2 s hs
  refine ⟨fun z => ?_, fun z => ?_, fun z => ?_, fun z => ?_⟩
  · have h2 := h1.1; rw [z, h.1] at h2; simp at h2
  · have h2 := h1.1; rw [z, h.2.1] at h2; cases h2
  · have h2 := h1.2; rw [z, h.1] at h2; cases h2
  · have h2 := h1.2; rw [z, h.2.1] at h2; simp at h2
theorem ap_at (h : cS H q a m b qs ws κ F) {κ1 : Int32} {q1 w1 x : Nat} (hx : x ≠ q) (hx2 : x ≠ a) (hx3 : x ≠ q1) (hx4 : x ≠ w1) : ap H q a m b qs κ1 q1 w1 x = H x := by
  unfold ap
  rw [nk_u_ne hx, nk_u_ne hx2, nk_u_ne hx3, nk_u_ne hx4]
theorem ap_S (h : cS H q a m b qs ws κ F) {κ1 : Int32} {q1 w1 : Nat} (hq : H q1 = none) (hw : H w1 = none) (hn : q1 ≠ w1) : cS (ap H q a m b qs κ1 q1 w1) q a (m + 1) b (va_up qs m q1) (va_up ws m w1) (va_up κ m κ1) (va_up F m (fun _ => 0)) := by
  have n1 := nk_ne h.1 hq
  have n2 := nk_ne h.1 hw
  have n3 := nk_ne h.2.1 hq
  have n4 := nk_ne h.2.1 hw
  refine ⟨nk_u_self _ _ _, ?_, fun s hs => ?_⟩
  · unfold ap
    rw [nk_u_ne h.qa.symm, nk_u_self]
  · by_cases e : s = m
    · subst e
      simp only [va_up, if_pos]
      refine ⟨fun _ => 0, ⟨?_, ?_⟩, fun v _ => rfl⟩
      · unfold ap
        rw [nk_u_ne n1.symm, nk_u_ne n3.symm, nk_u_self]
      · unfold ap
        rw [nk_u_ne n2.symm, nk_u_ne n4.symm, nk_u_ne hn.symm, nk_u_self]
    · have hs2 : s < m := by omega
      simp only [va_up, if_neg e]
      obtain ⟨g1, g2, g3, g4⟩ := h.qq hs2
      obtain ⟨f, k1, k2⟩ := h.2.2 s hs2
      exact ⟨f, ⟨by rw [ap_at h g1 g2 (nk_ne k1.1 hq) (nk_ne k1.1 hw)]; exact k1.1, by rw [ap_at h g3 g4 (nk_ne k1.2 hq) (nk_ne k1.2 hw)]; exact k1.2⟩, k2⟩
end SHL
/-- a copy of a shelf, in a heap that keeps the one before -/
def tw (H H' : nk_AH) (q a m b : Nat) (qs ws : Nat → Nat) (κ : Nat → Int32) (F : Nat → Nat → Int32) : Prop := nk_le H H' ∧ cS H' q a m b qs ws κ F ∧ H q = none ∧ H a = none ∧ (∀ s, s < m → H (qs s) = none ∧ H (ws s) = none) ∧ ∀ s s', s < m → s' < m → ws s = ws s' → s = s'
theorem va_up_id {α : Type} {f : Nat → α} {i : Nat} {x : α} (h : x = f i) : va_up f i x = f := by
  funext j
  by_cases e : j = i
  · subst e; simp [va_up, h]
  · simp [va_up, e]
theorem tw_le {H H' : nk_AH} {q a m b : Nat} {qs ws : Nat → Nat} {κ : Nat → Int32} {F : Nat → Nat → Int32} (h : tw H H' q a m b qs ws κ F) {q1 w1 : Nat} {κ1 : Int32} (hq : H' q1 = none) (hw : H' w1 = none) : nk_le H (ap H' q a m b qs κ1 q1 w1) := fun x e hx => by
  have up : ∀ {x : Nat}, H' x = none → H x = none := fun {x} z => by
    cases y : H x with
    | none => rfl
    | some e => rw [h.1 x e y] at z; cases z
  rw [ap_at h.2.1 (nk_ne hx h.2.2.1) (nk_ne hx h.2.2.2.1) (nk_ne hx (up hq)) (nk_ne hx (up hw))]
  exact h.1 x e hx
/-- one set more is copied -/
theorem tw_step {H H' : nk_AH} {q a m b : Nat} {qs ws : Nat → Nat} {κ : Nat → Int32} {F : Nat → Nat → Int32} (h : tw H H' q a m b qs ws κ F) {q1 w1 : Nat} (hq : H' q1 = none) (hw : H' w1 = none) (hn : q1 ≠ w1) {g : Nat → Int32} (hg : ∀ v, v < nk_wm b → g v = F m v) : tw H (nk_u (ap H' q a m b qs (κ m) q1 w1) w1 (inc (nk_wm b) g)) q a (m + 1) b (va_up qs m q1) (va_up ws m w1) κ F := by
  obtain ⟨h1, h2, h3, h4, h5, h6⟩ := h
  have up : ∀ {x : Nat}, H' x = none → H x = none := fun {x} z => by
    cases y : H x with
    | none => rfl
    | some e => rw [h1 x e y] at z; cases z
  have n1 := nk_ne h2.1 hw
  have n2 := nk_ne h2.2.1 hw
  have hS := ap_S (κ1 := κ m) h2 hq hw hn
  refine ⟨fun x e hx => ?_, ⟨?_, ?_, fun s hs => ?_⟩, h3, h4, fun s hs => ?_, fun s s' hs hs' => ?_⟩
  · have nx : ∀ {y : Nat}, H y = none → x ≠ y := fun z => nk_ne hx z
    rw [nk_u_ne (nx (up hw)), ap_at h2 (nx h3) (nx h4) (nx (up hq)) (nx (up hw))]
    exact h1 x e hx
  · rw [nk_u_ne n1]; exact hS.1
  · rw [nk_u_ne n2]; exact hS.2.1
  · by_cases e : s = m
    · subst e
      have k := hS.2.2 s hs
      simp only [va_up, if_pos] at k ⊢
      obtain ⟨f, k1, -⟩ := k
      exact ⟨g, k1.u, hg⟩
    · have hs2 : s < m := by omega
      have k := hS.2.2 s hs
      simp only [va_up, if_neg e] at k ⊢
      obtain ⟨f, k1, k2⟩ := h2.2.2 s hs2
      exact k.at (nk_u_ne (nk_ne k1.1 hw)) (nk_u_ne (nk_ne k1.2 hw))
  · by_cases e : s = m
    · subst e
      simp only [va_up, if_pos]
      exact ⟨up hq, up hw⟩
    · simp only [va_up, if_neg e]
      exact h5 s (by omega)
  · have ne : ∀ {z : Nat}, z < m → ws z ≠ w1 := fun {z} hz => by
      obtain ⟨f, k1, k2⟩ := h2.2.2 z hz
      exact nk_ne k1.2 hw
    by_cases e : s = m <;> by_cases e' : s' = m
    · intro _; rw [e, e']
    · simp only [va_up, if_pos e, if_neg e']
      intro z
      exact absurd z.symm (ne (by omega))
    · simp only [va_up, if_neg e, if_pos e']
      intro z
      exact absurd z (ne (by omega))
    · simp only [va_up, if_neg e, if_neg e']
      exact h6 s s' (by omega) (by omega)
/-- the sets of a shelf that lies at a place of an array -/
abbrev shF (r : Nat → Int32) (base : Nat) : Nat → Nat → Int32 := fun s v => r (base + 6 + 32 * s + v)
abbrev shK (r : Nat → Int32) (base : Nat) : Nat → Int32 := fun s => r (base + 2 + s)
theorem sw_one {u k : Nat} : sw u (k : Int) (k : Int) = if u = k / 32 then pf_b1 (k % 32) else 0 := by
  by_cases e : u = k / 32
  · rw [if_pos e]
    refine b_ext (fun i hi => ?_)
    rw [bt_sw hi, pf_b1_bt (Nat.mod_lt _ (by omega)) hi]
    by_cases z : i = k % 32
    · rw [decide_eq_true (by omega), decide_eq_true z]
    · rw [decide_eq_false (by omega), decide_eq_false z]
  · rw [if_neg e]
    exact sw_0 (fun i hi => by omega)
theorem tnf_one {r : Nat → Int32} {s k v : Nat} : tnf (shF r 0 s) (k : Int) (k : Int) v = a_tk r s k (0 + 6 + 32 * s + v) := by
  unfold tnf a_tk upd
  rw [sw_one]
  by_cases e : v = k / 32
  · subst e
    rw [if_pos rfl, if_pos rfl]
  · rw [if_neg e, if_neg (by omega), b_x0]
theorem a_tk_other {r : Nat → Int32} {s s' k v : Nat} (hs : s ≠ s') (hk : k < 1024) (hv : v < 32) : a_tk r s k (0 + 6 + 32 * s' + v) = r (0 + 6 + 32 * s' + v) := by
  unfold a_tk upd
  rw [if_neg (by omega)]
/-- a set's words are written -/
theorem cS.put {H : nk_AH} {q a m b s : Nat} {qs ws : Nat → Nat} {κ : Nat → Int32} {F F' : Nat → Nat → Int32} (h : cS H q a m b qs ws κ F) (hi : ∀ s s', s < m → s' < m → ws s = ws s' → s = s') (hs : s < m) {g : Nat → Int32} (hg : ∀ v, v < nk_wm b → g v = F' s v) (ho : ∀ s', s' < m → s' ≠ s → ∀ v, v < nk_wm b → F s' v = F' s' v) : cS (nk_u H (ws s) (inc (nk_wm b) g)) q a m b qs ws κ F' := by
  obtain ⟨g1, g2, g3, g4⟩ := h.qq hs
  refine ⟨by rw [nk_u_ne g3.symm]; exact h.1, by rw [nk_u_ne g4.symm]; exact h.2.1, fun s' hs' => ?_⟩
  by_cases e : s' = s
  · subst e
    obtain ⟨f, k1, -⟩ := h.2.2 s' hs'
    exact ⟨g, k1.u, hg⟩
  · obtain ⟨f, k1, k2⟩ := h.2.2 s' hs'
    obtain ⟨f2, j1, j2⟩ := h.2.2 s hs
    refine ⟨f, ⟨?_, ?_⟩, fun v hv => (k2 v hv).trans (ho s' hs' e v hv)⟩
    · rw [nk_u_ne (fun z => ?_)]
      · exact k1.1
      · have := k1.1; rw [z, j1.2] at this; cases this
    · rw [nk_u_ne (fun z => e (hi _ _ hs' hs z))]; exact k1.2

/-! the tape of the class: sets read, pure -/
theorem tp_or_hi {f : Nat → Int32} {n k j : Nat} (hk : k < 1024) (h : 6 + 32 * (n + 1) ≤ j) : tp_or f n k j = f j := by
  unfold tp_or upd
  rw [if_neg (by omega)]
theorem tp_or_1 {f : Nat → Int32} {n k j : Nat} (h : j < 6 + 32 * n) : tp_or f n k j = f j := by
  unfold tp_or upd
  rw [if_neg (by omega)]
theorem gz_or {f : Nat → Int32} {n k b : Nat} (h : gz (shF f 0 n) b) (hk : k < nk_tp b) : gz (shF (tp_or f n k) 0 n) b := fun x x1 x2 => by
  have := h x x1 x2
  unfold gm at this ⊢
  show bt (tp_or f n k (0 + 6 + 32 * n + x / 32)) (x % 32) = false
  rw [tp_or_in]
  unfold upd
  by_cases e : x / 32 = k / 32
  · rw [if_pos e, b_or, ← e]
    rw [show bt (shF f 0 n (x / 32)) (x % 32) = false from this, pf_b1_bt (Nat.mod_lt _ (by omega)) (Nat.mod_lt _ (by omega)), decide_eq_false (by omega)]
    rfl
  · rw [if_neg e]; exact this
/-- what is read so far: n sets -/
def pinv (f : Nat → Int32) (n b : Nat) : Prop := f 1 = nI b ∧ (∀ s, s < n → (∃ kk, 1 ≤ kk ∧ kk ≤ 5 ∧ f (2 + s) = nI kk) ∧ gz (shF f 0 s) b) ∧ ∀ i, 6 + 32 * n ≤ i → f i = 0
theorem tp_kind_1 {x : Int32} (h : ¬ tp_kind x = 0) : ∃ kk, 1 ≤ kk ∧ kk ≤ 5 ∧ tp_kind x = nI kk := by
  unfold tp_kind at h ⊢
  by_cases h1 : x = 97
  · rw [if_pos h1]; exact ⟨1, by omega, by omega, rfl⟩
  · rw [if_neg h1] at h ⊢
    by_cases h2 : x = 114
    · rw [if_pos h2]; exact ⟨2, by omega, by omega, rfl⟩
    · rw [if_neg h2] at h ⊢
      by_cases h3 : x = 99
      · rw [if_pos h3]; exact ⟨3, by omega, by omega, rfl⟩
      · rw [if_neg h3] at h ⊢
        by_cases h4 : x = 98
        · rw [if_pos h4]; exact ⟨4, by omega, by omega, rfl⟩
        · rw [if_neg h4] at h ⊢
          by_cases h5 : x = 100
          · rw [if_pos h5]; exact ⟨5, by omega, by omega, rfl⟩
          · rw [if_neg h5] at h; exact absurd rfl h
theorem pinv.new {f : Nat → Int32} {n b : Nat} {x : Int32} (h : pinv f n b) (hn : n < 4) (hx : ¬ tp_kind x = 0) : pinv (upd f (2 + n) (tp_kind x)) (n + 1) b := by
  obtain ⟨h1, h2, h3⟩ := h
  have e : ∀ j, j ≠ 2 + n → upd f (2 + n) (tp_kind x) j = f j := fun j hj => by unfold upd; rw [if_neg hj]
  refine ⟨(e 1 (by omega)).trans h1, fun s hs => ⟨?_, fun k k1 k2 => ?_⟩, fun i hi => (e i (by omega)).trans (h3 i (by omega))⟩
  · by_cases z : s = n
    · subst z
      obtain ⟨kk, g1, g2, g3⟩ := tp_kind_1 hx
      exact ⟨kk, g1, g2, by unfold upd; rw [if_pos rfl]; exact g3⟩
    · rw [e _ (by omega)]
      exact (h2 s (by omega)).1
  · unfold gm
    show bt (upd f (2 + n) (tp_kind x) (0 + 6 + 32 * s + k / 32)) (k % 32) = false
    rw [e _ (by omega)]
    by_cases z : s = n
    · rw [h3 _ (by omega)]; exact b_0 _
    · exact (h2 s (by omega)).2 k k1 k2
theorem pinv.or {f : Nat → Int32} {n b k : Nat} (h : pinv f (n + 1) b) (hn : n < 4) (hb2 : 2 ≤ b) (hb : b ≤ 10) (hk : k < nk_tp b) : pinv (tp_or f n k) (n + 1) b := by
  obtain ⟨h1, h2, h3⟩ := h
  have hwm := wm_f b hb hb2
  refine ⟨(tp_or_1 (by omega)).trans h1, fun s hs => ⟨?_, ?_⟩, fun i hi => (tp_or_hi (by omega) (by omega)).trans (h3 i hi)⟩
  · rw [tp_or_1 (by omega)]; exact (h2 s hs).1
  · by_cases z : s = n
    · subst z; exact gz_or (h2 s hs).2 hk
    · intro x x1 x2
      have := (h2 s hs).2 x x1 x2
      unfold gm at this ⊢
      show bt (tp_or f n k (0 + 6 + 32 * s + x / 32)) (x % 32) = false
      rw [tp_or_out z (by omega) (by omega)]
      exact this
theorem pinv.ks {T : Nat → Int32} {l n b : Nat} (hn : n < 4) (hb2 : 2 ≤ b) (hb : b ≤ 10) : ∀ (g a : Nat) (f : Nat → Int32), pinv f (n + 1) b → pinv (tp_ks T l (2 ^ b - 1) n g a f).2.2 (n + 1) b
  | 0, a, f, h => h
  | g + 1, a, f, h => by
    have hwm := wm_f b hb hb2
    by_cases z : tp_f T l (a + 1) 0 (2 ^ b - 1) = 0
    · have h2 : pinv (tp_or f n (tp_num T l (a + 1))) (n + 1) b := h.or hn hb2 hb (by have := (tp_f_one z).2.2; omega)
      by_cases y : tp_is T l (tp_end T l (a + 1)) 44
      · rw [tp_ks_c z y]; exact pinv.ks hn hb2 hb g _ _ h2
      · by_cases x : tp_is T l (tp_end T l (a + 1)) 59
        · rw [tp_ks_s z y x]; exact h2
        · rw [tp_ks_x z y x]; exact h2
    · rw [tp_ks_0 z]; exact h
theorem pinv.z {f : Nat → Int32} {n b : Nat} {x : Int32} (h : pinv f n b) : pinv (upd f 0 x) n b := by
  have e : ∀ j, 0 < j → upd f 0 x j = f j := fun j hj => by unfold upd; rw [if_neg (by omega)]
  refine ⟨(e 1 (by omega)).trans h.1, fun s hs => ⟨?_, fun k k1 k2 => ?_⟩, fun i hi => (e i (by omega)).trans (h.2.2 i hi)⟩
  · rw [e _ (by omega)]; exact (h.2.1 s hs).1
  · unfold gm
    show bt (upd f 0 x (0 + 6 + 32 * s + k / 32)) (k % 32) = false
    rw [e _ (by omega)]; exact (h.2.1 s hs).2 k k1 k2
theorem prs.cg {H0 H : nk_AH} {T : Nat → Int32} {q y l k a s sa n b : Nat} {qs ws : Nat → Nat} {f f' : Nat → Int32} (h : prs H0 H T q y l k a s sa n b qs ws f) (hf : ∀ j, 0 < j → f j = f' j) : prs H0 H T q y l k a s sa n b qs ws f' := ⟨h.1.cg (fun j _ => hf _ (by omega)) (fun j _ v _ => hf _ (by omega)), h.2⟩
/-- a set is put behind the others, empty -/
theorem prs.new {H0 H : nk_AH} {T : Nat → Int32} {q y l k a s sa n b q1 w1 : Nat} {qs ws : Nat → Nat} {f : Nat → Int32} {κ : Int32} (h : prs H0 H T q y l k a s sa n b qs ws f) (hn : n < 4) (hb2 : 2 ≤ b) (hb : b ≤ 10) (hq1 : H q1 = none) (hw1 : H w1 = none) (hne : q1 ≠ w1) (hz : ∀ i, 6 + 32 * n ≤ i → f i = 0) : prs H0 (ap H s sa n b qs κ q1 w1) T q y l k a s sa (n + 1) b (va_up qs n q1) (va_up ws n w1) (upd f (2 + n) κ) := by
  obtain ⟨h1, h2⟩ := h
  have hwm := wm_f b hb hb2
  have e : ∀ j, j ≠ 2 + n → upd f (2 + n) κ j = f j := fun j hj => by unfold upd; rw [if_neg hj]
  have ek : shK (upd f (2 + n) κ) 0 n = κ := by show upd f (2 + n) κ (0 + 2 + n) = κ; unfold upd; rw [if_pos (by omega)]
  have t1 : tw (nk_d H0 q) H s sa n b qs ws (shK (upd f (2 + n) κ) 0) (shF (upd f (2 + n) κ) 0) := h1.cg (fun j hj => (e _ (by omega)).symm) (fun j hj v hv => (e _ (by omega)).symm)
  have t2 := tw_step (g := fun _ => 0) t1 hq1 hw1 hne (fun v hv => by show (0 : Int32) = upd f (2 + n) κ (0 + 6 + 32 * n + v); rw [e _ (by omega), hz _ (by omega)])
  rw [ek] at t2
  have hw : ap H s sa n b qs κ q1 w1 w1 = some (inc (nk_wm b) (fun _ => 0)) := by
    unfold ap
    rw [nk_u_ne (nk_ne h1.2.1.1 hw1).symm, nk_u_ne (nk_ne h1.2.1.2.1 hw1).symm, nk_u_ne hne.symm, nk_u_self]
  rw [nk_u_at hw] at t2
  refine ⟨t2, ?_⟩
  obtain ⟨⟨c, g1, g2⟩, f2, g3, g4⟩ := h2
  obtain ⟨bh, t, w, rfl, g5⟩ := g2
  refine ⟨⟨_, ?_, bh, t, w, rfl, g5⟩, f2, ?_, g4⟩
  · rw [ap_at h1.2.1 (nk_cdif g1 h1.2.1.1 (by intro z; simp at z)) (nk_cdif g1 h1.2.1.2.1 (by intro z; cases z)) (nk_ne g1 hq1) (nk_ne g1 hw1)]; exact g1
  · rw [ap_at h1.2.1 (nk_cdif g3 h1.2.1.1 (by intro z; cases z)) (nk_cdif g3 h1.2.1.2.1 (by intro z; simp at z)) (nk_ne g3 hq1) (nk_ne g3 hw1)]; exact g3

/-! the tape of the class: shelves read -/
theorem nk_k0 {k : Nat} (h : k ≤ 3) : nI k = 0 ↔ k = 0 := ⟨fun z => nk_eqI (b := 0) z (by omega) (by omega), fun z => by rw [z]; rfl⟩
def nk_d (H : nk_AH) (q : Nat) : nk_AH := fun x => if x = q then none else H x
theorem nk_d_le {H H' : nk_AH} {q : Nat} (h : ∀ x, x ≠ q → H' x = H x) : nk_le (nk_d H q) H' := fun x e hx => by
  unfold nk_d at hx
  by_cases z : x = q
  · rw [if_pos z] at hx; cases hx
  · rw [if_neg z] at hx; rw [h x z]; exact hx
theorem nk_d_no {H : nk_AH} {q x : Nat} (h : nk_d H q x = none) (hx : x ≠ q) : H x = none := by
  unfold nk_d at h
  rw [if_neg hx] at h
  exact h
section TWQ
variable {H0 H : nk_AH} {q s sa n b : Nat} {qs ws : Nat → Nat} {κ κ' : Nat → Int32} {F F' : Nat → Nat → Int32}
theorem cS.cg (h : cS H s sa n b qs ws κ F) (h1 : ∀ j, j < n → κ j = κ' j) (h2 : ∀ j, j < n → ∀ v, v < nk_wm b → F j v = F' j v) : cS H s sa n b qs ws κ' F' := by
  refine ⟨h.1, h.2.1, fun j hj => ?_⟩
  obtain ⟨f, k1, k2⟩ := h.2.2 j hj
  rw [h1 j hj] at k1
  exact ⟨f, k1, fun v hv => (k2 v hv).trans (h2 j hj v hv)⟩
theorem tw.cg (h : tw H0 H s sa n b qs ws κ F) (h1 : ∀ j, j < n → κ j = κ' j) (h2 : ∀ j, j < n → ∀ v, v < nk_wm b → F j v = F' j v) : tw H0 H s sa n b qs ws κ' F' := ⟨h.1, h.2.1.cg h1 h2, h.2.2⟩
/-- the tape's own cell is written -/
theorem tw.qx {e0 e : nk_AC} (h : tw (nk_d H0 q) H s sa n b qs ws κ F) (hq : H q = some e0) (he : ∃ y l x1 x2 x3 x4 x5, e0 = tpc y l x1 x2 x3 x4 x5) : tw (nk_d H0 q) (nk_u H q e) s sa n b qs ws κ F := by
  obtain ⟨y, l, x1, x2, x3, x4, x5, rfl⟩ := he
  obtain ⟨h1, h2, h3⟩ := h
  refine ⟨fun x c hx => ?_, ⟨?_, ?_, fun j hj => ?_⟩, h3⟩
  · have z : x ≠ q := fun z => by unfold nk_d at hx; rw [if_pos z] at hx; cases hx
    rw [nk_u_ne z]; exact h1 x c hx
  · rw [nk_u_ne (nk_cdif h2.1 hq (by intro z; simp at z))]; exact h2.1
  · rw [nk_u_ne (nk_cdif h2.2.1 hq (by intro z; cases z))]; exact h2.2.1
  · obtain ⟨f, k1, k2⟩ := h2.2.2 j hj
    exact cX.at ⟨f, k1, k2⟩ (nk_u_ne (nk_cdif k1.1 hq (by intro z; simp at z))) (nk_u_ne (nk_cdif k1.2 hq (by intro z; cases z)))
/-- a set's words are written -/
theorem tw.put (h : tw H0 H s sa n b qs ws κ F) {j : Nat} (hj : j < n) {g : Nat → Int32} (hg : ∀ v, v < nk_wm b → g v = F' j v) (ho : ∀ j', j' < n → j' ≠ j → ∀ v, v < nk_wm b → F j' v = F' j' v) : tw H0 (nk_u H (ws j) (inc (nk_wm b) g)) s sa n b qs ws κ F' := by
  obtain ⟨h1, h2, h3, h4, h5, h6⟩ := h
  refine ⟨fun x c hx => ?_, h2.put h6 hj hg ho, h3, h4, h5, h6⟩
  rw [nk_u_ne (nk_ne hx (h5 j hj).2)]
  exact h1 x c hx
end TWQ
/-- a shelf is being read: the heap ahead, without the tape's own cell, is kept -/
def prs (H0 H : nk_AH) (T : Nat → Int32) (q y l k a s sa n b : Nat) (qs ws : Nat → Nat) (f : Nat → Int32) : Prop := tw (nk_d H0 q) H s sa n b qs ws (shK f 0) (shF f 0) ∧ cTp H T q y l k a
theorem tS.c {T : Nat → Int32} {y l k a : Nat} {e : nk_AC} (h : tS T y l k a e) : ∃ y l x1 x2 x3 x4 x5, e = tpc y l x1 x2 x3 x4 x5 := by
  obtain ⟨bh, t, w, rfl, -⟩ := h
  exact ⟨_, _, _, _, _, _, _, rfl⟩
theorem prs.q {H0 H : nk_AH} {T : Nat → Int32} {q y l k a s sa n b k' a' : Nat} {qs ws : Nat → Nat} {f : Nat → Int32} {e : nk_AC} (h : prs H0 H T q y l k a s sa n b qs ws f) (he : tS T y l k' a' e) : prs H0 (nk_u H q e) T q y l k' a' s sa n b qs ws f := by
  obtain ⟨h1, h2⟩ := h
  obtain ⟨⟨e0, g1, g2⟩, -⟩ := id h2
  exact ⟨h1.qx g1 g2.c, h2.u he⟩
theorem tp_f_99 {T : Nat → Int32} {l a hi : Nat} : tp_f T l a 0 (min hi 99) = tp_f T l a 0 hi := by
  unfold tp_f
  by_cases h : tp_one T l a
  · rw [if_pos h, if_pos h]
    have := tp_num_le h
    by_cases z : tp_num T l a ≤ hi
    · rw [if_pos (by omega), if_pos (by omega)]
    · rw [if_neg (by omega), if_neg (by omega)]
  · rw [if_neg h, if_neg h]
theorem tp_f_le {T : Nat → Int32} {l a lo hi : Nat} : tp_f T l a lo hi ≤ 3 := by
  unfold tp_f
  split
  · split <;> omega
  · omega
theorem nk_min99 {n : Nat} (h1 : 1 ≤ n) (h : n ≤ 1024) : (if (99 : Int32) < nI n - 1 then 99 else nI n - 1 : Int32) = nI (min (n - 1) 99) := by
  rw [nk_pm1 h1]
  by_cases z : n - 1 ≤ 99
  · rw [if_neg (fun y => by have := nk_ltI (a := 99) y (by omega) (by omega); omega), Nat.min_eq_left z]
  · have y : (99 : Int32) < nI (n - 1) := (nI_ltI (a := 99) (b := n - 1) (by omega) (by omega)).mpr (by omega)
    rw [if_pos y, Nat.min_eq_right (by omega)]; rfl
theorem tp_or_in {f : Nat → Int32} {n k v : Nat} : tp_or f n k (0 + 6 + 32 * n + v) = upd (shF f 0 n) (k / 32) (shF f 0 n (k / 32) ||| pf_b1 (k % 32)) v := by
  unfold tp_or upd
  by_cases e : v = k / 32
  · subst e
    rw [if_pos (by omega), if_pos rfl, show 6 + 32 * n + k / 32 = 0 + 6 + 32 * n + k / 32 by omega]
  · rw [if_neg (by omega), if_neg e]
theorem tp_or_out {f : Nat → Int32} {n j k v : Nat} (h : j ≠ n) (hk : k < 1024) (hv : v < 32) : tp_or f n k (0 + 6 + 32 * j + v) = f (0 + 6 + 32 * j + v) := by
  unfold tp_or upd
  rw [if_neg (by omega)]
theorem tp_or_k {f : Nat → Int32} {n j k : Nat} (h : j < 4) : tp_or f n k (0 + 2 + j) = f (0 + 2 + j) := by
  unfold tp_or upd
  rw [if_neg (by omega)]
/-- a key read is put into the set that is read -/
theorem prs.put {H0 H : nk_AH} {T : Nat → Int32} {q y l k a s sa n b x : Nat} {qs ws : Nat → Nat} {f g : Nat → Int32} (h : prs H0 H T q y l k a s sa (n + 1) b qs ws f) (hn : n < 4) (hb2 : 2 ≤ b) (hb10 : b ≤ 10) (hx : x < nk_tp b) (hk : cK H (qs n) (ws n) n (shK f 0 n) b g) (hg : ∀ v, v < nk_wm b → g v = shF f 0 n v) (hy : ws n ≠ y) : prs H0 (nk_u H (ws n) (inc (nk_wm b) (upd g (x / 32) (g (x / 32) ||| pf_b1 (x % 32))))) T q y l k a s sa (n + 1) b qs ws (tp_or f n x) := by
  have hwm := wm_f b hb10 hb2
  obtain ⟨h1, h2⟩ := h
  refine ⟨(h1.put (j := n) (F' := shF (tp_or f n x) 0) (by omega) (fun v hv => ?_) (fun j hj hne v hv => ?_)).cg (fun j hj => (tp_or_k (by omega)).symm) (fun _ _ _ _ => rfl), ?_⟩
  · show _ = tp_or f n x (0 + 6 + 32 * n + v)
    rw [tp_or_in]
    unfold upd
    rw [hg _ (by omega), hg v hv]
  · exact (tp_or_out hne (by omega) (by omega)).symm
  · obtain ⟨⟨e, g1, g2⟩, f2, g3, g4⟩ := h2
    exact ⟨⟨e, by rw [nk_u_ne (nk_cdif g1 hk.2 g2.q)]; exact g1, g2⟩, f2, by rw [nk_u_ne hy.symm]; exact g3, g4⟩

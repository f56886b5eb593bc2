/-! the tape of the class: shelves read, pure -/
/-- what a set read at a comes to -/
def rsR (T : Nat → Int32) (l b n a : Nat) (f : Nat → Int32) : Nat × Nat × (Nat → Int32) := if a < l ∧ ¬ tp_kind (T a) = 0 then tp_set T l (2 ^ b - 1) n a f else (1, a, f)
theorem rsR_bad {T : Nat → Int32} {l b n a g : Nat} {f : Nat → Int32} (ha : a < l) (h : ¬ (rsR T l b n a f).1 = 0) : (tp_sets T l (2 ^ b - 1) (g + 1) n a f).1 = (rsR T l b n a f).1 ∧ (tp_sets T l (2 ^ b - 1) (g + 1) n a f).2.1 = (rsR T l b n a f).2.1 := by
  by_cases z : tp_kind (T a) = 0
  · have e : rsR T l b n a f = (1, a, f) := by unfold rsR; rw [if_neg (fun y => y.2 z)]
    rw [tp_sets_no ha z, e]; exact ⟨rfl, rfl⟩
  · have e : rsR T l b n a f = tp_set T l (2 ^ b - 1) n a f := by unfold rsR; rw [if_pos ⟨ha, z⟩]
    rw [e] at h ⊢
    rw [tp_sets_bad ⟨ha, z⟩ h]; exact ⟨rfl, rfl⟩
theorem rsR_set {T : Nat → Int32} {l b n a : Nat} {f : Nat → Int32} (h : (rsR T l b n a f).1 = 0) : (a < l ∧ ¬ tp_kind (T a) = 0) ∧ rsR T l b n a f = tp_set T l (2 ^ b - 1) n a f ∧ n ≠ 4 ∧ a < (rsR T l b n a f).2.1 ∧ (rsR T l b n a f).2.1 ≤ l := by
  by_cases z : a < l ∧ ¬ tp_kind (T a) = 0
  · have e : rsR T l b n a f = tp_set T l (2 ^ b - 1) n a f := by unfold rsR; rw [if_pos z]
    rw [e] at h ⊢
    exact ⟨z, rfl, tp_set_ok h⟩
  · unfold rsR at h; rw [if_neg z] at h; cases h
theorem rsR_ok {T : Nat → Int32} {l b n a g : Nat} {f : Nat → Int32} (h : (rsR T l b n a f).1 = 0) : tp_sets T l (2 ^ b - 1) (g + 1) n a f = tp_sets T l (2 ^ b - 1) g (n + 1) (rsR T l b n a f).2.1 (upd (rsR T l b n a f).2.2 0 (nI (n + 1))) := by
  obtain ⟨h1, h2, -⟩ := rsR_set h
  rw [h2] at h ⊢
  rw [tp_sets_set h1 h]
theorem rsR_inv {T : Nat → Int32} {l b n a : Nat} {f : Nat → Int32} (h : (rsR T l b n a f).1 = 0) (hp : pinv f n b) (hn : n ≤ 4) (hb2 : 2 ≤ b) (hb : b ≤ 10) : pinv (rsR T l b n a f).2.2 (n + 1) b := by
  obtain ⟨h1, h2, h3, -⟩ := rsR_set h
  rw [h2]
  unfold tp_set
  rw [if_neg h3]
  exact pinv.ks (by omega) hb2 hb _ _ _ (hp.new (by omega) h1.2)
theorem pinv.start {b : Nat} : pinv (upd (fun _ => 0) 1 (nI b)) 0 b := ⟨by unfold upd; rw [if_pos rfl], fun s hs => by omega, fun i hi => by unfold upd; rw [if_neg (by omega)]⟩
theorem tp_lw_3 {T : Nat → Int32} {l : Nat} : (tp_lw T l).1 ≤ 3 := by
  unfold tp_lw
  by_cases h1 : tp_is T l 0 117
  · rw [if_pos h1]
    by_cases h2 : tp_f T l 1 2 10 = 0
    · rw [if_pos h2]
      by_cases h3 : tp_is T l (tp_end T l 1) 59
      · rw [if_pos h3]; exact Nat.zero_le _
      · rw [if_neg h3]; show (1 : Nat) ≤ 3; omega
    · rw [if_neg h2]; exact tp_f_le
  · rw [if_neg h1]; show (1 : Nat) ≤ 3; omega
theorem tp_ks_3 {T : Nat → Int32} {l hi n : Nat} : ∀ (g a : Nat) (f : Nat → Int32), (tp_ks T l hi n g a f).1 ≤ 3
  | 0, a, f => by show (1 : Nat) ≤ 3; omega
  | g + 1, a, f => by
    by_cases z : tp_f T l (a + 1) 0 hi = 0
    · by_cases y : tp_is T l (tp_end T l (a + 1)) 44
      · rw [tp_ks_c z y]; exact tp_ks_3 g _ _
      · by_cases x : tp_is T l (tp_end T l (a + 1)) 59
        · rw [tp_ks_s z y x]; exact Nat.zero_le _
        · rw [tp_ks_x z y x]; show (1 : Nat) ≤ 3; omega
    · rw [tp_ks_0 z]; exact tp_f_le
theorem rsR_3 {T : Nat → Int32} {l b n a : Nat} {f : Nat → Int32} : (rsR T l b n a f).1 ≤ 3 := by
  unfold rsR
  by_cases z : a < l ∧ ¬ tp_kind (T a) = 0
  · rw [if_pos z]
    unfold tp_set
    by_cases y : n = 4
    · rw [if_pos y]; exact Nat.le_refl 3
    · rw [if_neg y]; exact tp_ks_3 _ _ _
  · rw [if_neg z]; show (1 : Nat) ≤ 3; omega
theorem nk_le_new {H0 : nk_AH} {q s sa : Nat} {e e1 e2 : nk_AC} (hs : H0 s = none) (hsa : H0 sa = none) : nk_le (nk_d H0 q) (nk_u (nk_u (nk_u H0 q e) sa e1) s e2) := fun x c hx => by
  unfold nk_d at hx
  by_cases z : x = q
  · rw [if_pos z] at hx; cases hx
  · rw [if_neg z] at hx
    rw [nk_u_ne (nk_ne hx hs), nk_u_ne (nk_ne hx hsa), nk_u_ne z]; exact hx
/-- a sign, a number, a sign -/
theorem tp_lw_is {T : Nat → Int32} {l k1 a1 k2 a2 k3 a3 : Nat} (e1 : k1 = if tp_is T l 0 117 then 0 else 1) (d1 : a1 = if tp_is T l 0 117 then 1 else 0) (e2 : k2 = if k1 = 0 then tp_f T l a1 2 10 else k1) (d2 : a2 = if k1 = 0 ∧ tp_f T l a1 2 10 = 0 then tp_end T l a1 else a1) (e3 : k3 = if k2 = 0 then (if tp_is T l a2 59 then 0 else 1) else k2) (d3 : a3 = if k2 = 0 ∧ tp_is T l a2 59 then a2 + 1 else a2) : tp_lw T l = (k3, a3) ∧ (k3 = 0 → k1 = 0 ∧ a1 = 1 ∧ tp_f T l a1 2 10 = 0) := by
  unfold tp_lw
  by_cases h1 : tp_is T l 0 117
  · rw [if_pos h1] at e1 d1 ⊢
    subst e1; subst d1
    rw [if_pos rfl] at e2
    by_cases h2 : tp_f T l 1 2 10 = 0
    · rw [if_pos h2]
      rw [h2] at e2
      subst e2
      rw [if_pos ⟨rfl, h2⟩] at d2
      subst d2
      rw [if_pos rfl] at e3
      by_cases h3 : tp_is T l (tp_end T l 1) 59
      · rw [if_pos h3] at e3 ⊢
        rw [if_pos ⟨rfl, h3⟩] at d3
        rw [e3, d3]; exact ⟨rfl, fun _ => ⟨rfl, rfl, h2⟩⟩
      · rw [if_neg h3] at e3 ⊢
        rw [if_neg (fun z => h3 z.2)] at d3
        rw [e3, d3]; exact ⟨rfl, fun z => by cases z⟩
    · rw [if_neg h2]
      rw [if_neg (fun z => h2 z.2)] at d2
      have hk : ¬ k2 = 0 := by rw [e2]; exact h2
      rw [if_neg hk] at e3
      rw [if_neg (fun z => hk z.1)] at d3
      rw [e3, d3, e2, d2]; exact ⟨rfl, fun z => absurd z h2⟩
  · rw [if_neg h1] at e1 d1 ⊢
    subst e1; subst d1
    rw [if_neg (by decide)] at e2
    rw [if_neg (fun z => absurd z.1 (by decide))] at d2
    subst e2; subst d2
    rw [if_neg (by decide)] at e3
    rw [if_neg (fun z => absurd z.1 (by decide))] at d3
    rw [e3, d3]; exact ⟨rfl, fun z => by cases z⟩

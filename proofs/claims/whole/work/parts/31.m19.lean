/-! the reference: the tape is read -/
set_option maxRecDepth 20000 in
theorem s_sign3 {G : nk_EG} {ad : Nat → Nat} {A : Nat → Nat → Int32} {I : Nat → Int32} (hi : mInj ad) {l : Nat} (hl : I 1 = nI l) (h110 : l ≤ 110) {a : Nat} (hal : a ≤ l) {c y z : Int32} : nk_Si G mX8_sign 2 [.ref (ad 0), .int c] (mh ad A (i3 I (nI a) y z)) (if tp_is (A 5) l a c then 1 else 0) (mh ad A (tp_sg I (A 5) l a c y z)) := by
  have h := s_X8_sign (G := G) (A := A) (I := i3 I (nI a) y z) hi hl h110 rfl hal (c := c)
  rw [i3_5, i3_6] at h
  exact h
set_option maxRecDepth 20000 in
theorem s_num3 {G : nk_EG} {ad : Nat → Nat} {A : Nat → Nat → Int32} {I : Nat → Int32} (hi : mInj ad) {l : Nat} (hl : I 1 = nI l) (h110 : l ≤ 110) {a : Nat} (hal : a ≤ l) {lo hi2 : Nat} (hlo : lo < 2000) (hhi : hi2 < 2000) {y z : Int32} : nk_Si G mX8_readsNumber 3 [.ref (ad 0), .int (nI lo), .int (nI hi2)] (mh ad A (i3 I (nI a) y z)) (if tp_f (A 5) l a lo hi2 = 0 then 1 else 0) (mh ad A (tp_rn I (A 5) l a lo hi2 y z)) := by
  have h := s_X8_readsNumber (G := G) (A := A) (I := i3 I (nI a) y z) hi hl h110 rfl hal hlo hhi
  rw [i3_7, i3_5, i3_6, i3_6] at h
  have e : tp_rn I (A 5) l a lo hi2 y z = (if tp_one (A 5) l a then (if lo ≤ tp_num (A 5) l a ∧ tp_num (A 5) l a ≤ hi2 then i3 I (nI (tp_end (A 5) l a)) y (nI (tp_num (A 5) l a)) else i3 I (nI a) 2 (nI (tp_num (A 5) l a))) else i3 I (nI a) 1 z) := by
    unfold tp_rn tp_f
    by_cases h1 : tp_one (A 5) l a
    · by_cases h2 : lo ≤ tp_num (A 5) l a ∧ tp_num (A 5) l a ≤ hi2
      · simp only [if_pos h1, if_pos h2, ↓reduceIte]
      · simp only [if_pos h1, if_neg h2]
        rw [if_neg (by decide)]; rfl
    · simp only [if_neg h1]
      rw [if_neg (by decide)]; rfl
  rw [e]
  exact h
set_option maxRecDepth 20000 in
theorem s_readsLaw {G : nk_EG} {ad : Nat → Nat} {A : Nat → Nat → Int32} {I : Nat → Int32} {F f : Nat → Int32} (hi : mInj ad) {l : Nat} (hl : I 1 = nI l) (h110 : l ≤ 110) (y z : Int32) : nk_S G mX8_readsLaw 4 0 0 [.ref (ad 0)] (mh ad (va_up A 0 (tz F f)) (i3 I (nI 0) y z)) (ph_rd ad A I F (tp_lw (A 5) l).1 (tp_lw (A 5) l).2 (fun f' => f' = upd f 1 (nI (tp_num (A 5) l 1)))) := by
  refine nk_S.of (by decide +kernel) (Nat.le_of_ble_eq_true rfl) rfl ?_
  refine nk_aload_n (i := 0) dX8_readsLaw_0 rfl rfl ?_
  refine nk_bipush (v := 117) dX8_readsLaw_1 (by decide) ?_
  refine nk_cVi kX8_93 (s_sign3 (A := (va_up A 0 (tz F f))) (I := I) hi hl h110 (a := 0) (by omega)) dX8_readsLaw_3 mh_0 rfl rfl (by decide) (Nat.le_of_ble_eq_true rfl) ?_
  refine nk_ifeq (tgt := 19) dX8_readsLaw_6 (by decide) (fun h6 => ?_) (fun h6 => ?_)
  · skip
    simp only [nk_b0, Classical.not_not] at h6
    refine nk_iconst (v := 0) dX8_readsLaw_19 (by decide) ?_
    refine nk_zreturn dX8_readsLaw_20 rfl rfl ?_
    first
    | (have h6 : ¬ tp_is (A 5) l 0 117 := h6
       have e : tp_lw (A 5) l = (1, 0) := by unfold tp_lw; rw [if_neg h6]
       rw [e]
       exact ⟨1, z, f, rfl, by unfold tp_sg; exact congrArg (mh ad _) (if_neg h6), fun _ => rfl, fun q => absurd q (by decide)⟩)
    | (have h16 : ¬ tp_f (A 5) l 1 2 10 = 0 := h16
       have e : tp_lw (A 5) l = (tp_f (A 5) l 1 2 10, 1) := by unfold tp_lw; rw [if_pos h6, if_neg h16]
       rw [e]
       exact ⟨_, _, f, by rw [if_neg h16], by unfold tp_rn; exact congrArg (mh ad _) (if_neg h16), fun _ => rfl, fun q => absurd q h16⟩)
  · skip
    simp only [nk_b0, Classical.not_not] at h6
    have h6 : tp_is (A 5) l 0 117 := h6
    have e1 : tp_sg I (va_up A 0 (tz F f) 5) l 0 117 y z = i3 I (nI 1) y z := by unfold tp_sg; exact if_pos h6
    rw [e1]
    have hl1 := h6.1
    refine nk_aload_n (i := 0) dX8_readsLaw_9 rfl rfl ?_
    refine nk_iconst (v := 2) dX8_readsLaw_10 (by decide) ?_
    refine nk_bipush (v := 10) dX8_readsLaw_11 (by decide) ?_
    refine nk_cVi kX8_96 (s_num3 (A := (va_up A 0 (tz F f))) (I := I) hi hl h110 (a := 1) (lo := 2) (hi2 := 10) (by omega) (by omega) (by omega)) dX8_readsLaw_13 mh_0 rfl rfl (by decide) (Nat.le_of_ble_eq_true rfl) ?_
    refine nk_ifne (tgt := 21) dX8_readsLaw_16 (by decide) (fun h16 => ?_) (fun h16 => ?_)
    · skip
      simp only [nk_b0, Classical.not_not] at h16
      have h16 : tp_f (A 5) l 1 2 10 = 0 := h16
      have e2 : tp_rn I (va_up A 0 (tz F f) 5) l 1 2 10 y z = i3 I (nI (tp_end (A 5) l 1)) y (nI (tp_num (A 5) l 1)) := by unfold tp_rn; exact if_pos h16
      rw [e2]
      have h1 := tp_f_one h16
      have he := tp_end_le h1.1
      refine nk_aload_n (i := 0) dX8_readsLaw_21 rfl rfl ?_
      refine nk_getf fX8_7 dX8_readsLaw_22 mh_0 rfl ?_
      refine nk_sipush (v := 3619) dX8_readsLaw_25 (by decide) ?_
      refine nk_aload_n (i := 0) dX8_readsLaw_28 rfl rfl ?_
      refine nk_getf fX8_90 dX8_readsLaw_29 mh_0 rfl ?_
      refine nk_iastN (j := 3618 + 1) dX8_readsLaw_32 (mh_1 hi) (rfl) (by omega) (by decide) ?_
      refine nk_J.to ?_ rfl rfl (mu_A0 hi)
      refine nk_aload_n (i := 0) dX8_readsLaw_33 rfl rfl ?_
      refine nk_bipush (v := 59) dX8_readsLaw_34 (by decide) ?_
      refine nk_cVi kX8_93 (s_sign3 (A := va_up (va_up A 0 (tz F f)) 0 (upd ((va_up A 0 (tz F f)) 0) (3618 + 1) (nI (tp_num (A 5) l 1)))) (I := I) hi hl h110 he.1) dX8_readsLaw_36 mh_0 rfl rfl (by decide) (Nat.le_of_ble_eq_true rfl) ?_
      refine nk_zreturn dX8_readsLaw_39 rfl (nk_bn _) ?_
      by_cases c : tp_is (A 5) l (tp_end (A 5) l 1) 59
      · have e : tp_lw (A 5) l = (0, tp_end (A 5) l 1 + 1) := by unfold tp_lw; rw [if_pos h6, if_pos h16, if_pos c]
        rw [e]
        exact ⟨y, nI (tp_num (A 5) l 1), _, (nk_ifc (p := tp_is (A 5) l (tp_end (A 5) l 1) 59) (q := (0 : Nat) = 0) ⟨fun _ => rfl, fun _ => c⟩), by rw [bx_uu, show (va_up A 0 (tz F f)) 0 = tz F f from rfl, tz_upd (by omega)]; unfold tp_sg; exact congrArg (mh ad _) (if_pos c), fun q => absurd rfl q, fun _ => rfl⟩
      · have e : tp_lw (A 5) l = (1, tp_end (A 5) l 1) := by unfold tp_lw; rw [if_pos h6, if_pos h16, if_neg c]
        rw [e]
        exact ⟨1, nI (tp_num (A 5) l 1), upd f 1 (nI (tp_num (A 5) l 1)), (nk_ifc (p := tp_is (A 5) l (tp_end (A 5) l 1) 59) (q := (1 : Nat) = 0) ⟨fun q => absurd q c, fun q => by cases q⟩), by rw [bx_uu, show (va_up A 0 (tz F f)) 0 = tz F f from rfl, tz_upd (by omega)]; unfold tp_sg; exact congrArg (mh ad _) (if_neg c), fun _ => rfl, fun q => by cases q⟩
    · skip
      simp only [nk_b0, Classical.not_not] at h16
      refine nk_iconst (v := 0) dX8_readsLaw_19 (by decide) ?_
      refine nk_zreturn dX8_readsLaw_20 rfl rfl ?_
      first
      | (have h6 : ¬ tp_is (A 5) l 0 117 := h6
         have e : tp_lw (A 5) l = (1, 0) := by unfold tp_lw; rw [if_neg h6]
         rw [e]
         exact ⟨1, z, f, rfl, by unfold tp_sg; exact congrArg (mh ad _) (if_neg h6), fun _ => rfl, fun q => absurd q (by decide)⟩)
      | (have h16 : ¬ tp_f (A 5) l 1 2 10 = 0 := h16
         have e : tp_lw (A 5) l = (tp_f (A 5) l 1 2 10, 1) := by unfold tp_lw; rw [if_pos h6, if_neg h16]
         rw [e]
         exact ⟨_, _, f, by rw [if_neg h16], by unfold tp_rn; exact congrArg (mh ad _) (if_neg h16), fun _ => rfl, fun q => absurd q h16⟩)

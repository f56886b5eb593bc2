/-! the class: rows set, copied, dropped -/
theorem cW.items {K : nk_AH} {g : Nat → Nat} {o m b u l t a1 a2 a3 a4 a5 : Nat} {A A' : Nat → Nat → Int32} {I I' : Nat → Int32} {sh : Option Nat} (hn : cWn A I u l t) (hx : cWx K g o A I l t a1 a2 a3 a4 a5 sh) (hs : cWs K g (A 0) m b u a4 sh) {z : Nat → Option Nat} (hz1 : rT K g 1 a1 (rwc z)) (hz2 : ∀ r, r < 8 → cRr K g r (z r) (A 2) (A 3) (A 4)) {j x0 y0 n : Nat} {f f' : Nat → Int32} (hj : j < 8) (e1 : z j = some x0) (e2 : A 3 j = nI n) (e3 : n ≤ 40) (e4 : rT K g (10 + j) x0 (roc (A 2 j) y0)) (e5 : rT K g (20 + j) y0 (inc n f)) (hf : ∀ i, i < n → f' i = A' 4 (40 * j + i)) (ho : ∀ r', r' < 8 → r' ≠ j → ∀ i, i < 40 → A 4 (40 * r' + i) = A' 4 (40 * r' + i)) (h0 : A' 0 = A 0) (h1 : A' 1 = A 1) (h2 : A' 2 = A 2) (h3 : A' 3 = A 3) (h5 : A' 5 = A 5) (h6 : A' 6 = A 6) (i0 : I' 0 = I 0) (i1 : I' 1 = I 1) (i2 : I' 2 = I 2) (i4 : I' 4 = I 4) : cW (nk_u (nk_u K y0 (inc n f')) o (obc (.ref a1) (.ref a2) (.ref a3) (.ref a4) (.ref a5) (va_rf sh) (.int (I' 2)) (.int (I' 3)))) g o A' I' m b u l t := by
  have k1 : rk (fun y => y ≠ 20 + j) K g (nk_u K y0 (inc n f')) g := rk.u e5.2
  have ho1 := hx.1.mv k1 (by omega)
  have k2 : rk (fun y => y ≠ 0) (nk_u K y0 (inc n f')) g (nk_u (nk_u K y0 (inc n f')) o (obc (.ref a1) (.ref a2) (.ref a3) (.ref a4) (.ref a5) (va_rf sh) (.int (I' 2)) (.int (I' 3)))) g := rk.u ho1.2
  have k12 := k1.tr k2
  refine cW.rows hn hx hs k12 (fun t z1 z2 z3 => ⟨by omega, z1⟩) ho1.u (cRw.chg (r := j) (z' := z) (hz1.mv k12 ⟨by omega, by omega⟩) (fun _ _ _ => rfl) hz2 k12 (fun t z1 z2 z3 z4 => ⟨z4, by omega⟩) hj (fun r' hr' hne => ⟨by rw [h2], by rw [h3], ho r' hr' hne⟩) (Or.inr ⟨x0, y0, n, f', e1, by rw [h3]; exact e2, e3, by rw [h2]; exact e4.mv k12 ⟨by omega, by omega⟩, (e5.u).mv k2 (by omega), hf⟩)) h0 h1 h5 h6 i0 i1 i4 (fun r' hr' => by rw [h3]; exact hn.1 r' hr')
set_option maxRecDepth 20000 in
theorem s_X7_set {G : nk_EG} {K : nk_AH} {g : Nat → Nat} {o m b u l t : Nat} {A : Nat → Nat → Int32} {I : Nat → Int32} (hW : cW K g o A I m b u l t) {r i x : Int32} : nk_S G mX7_set 15 0 0 [.ref o, .int r, .int i, .int x] K (pW o (sp_val (f_set A r i) (pf_nar x (A 2 (sp_n r)))) (sp_A (f_set A r i) A (a_set A (sp_n r) (sp_n i) x)) (sp_I (f_set A r i) I)) := by
  refine nk_S.of (by decide +kernel) (Nat.le_of_ble_eq_true rfl) rfl ?_
  obtain ⟨hn, a1, a2, a3, a4, a5, sh, hx, hs⟩ := id hW
  by_cases h1 : sp_R r 0 7
  · skip
    obtain ⟨hj, hje⟩ := sp_n_R7 h1
    obtain ⟨z, hz1, hz2⟩ := hx.2.1
    have hfs : f_set A r i = (if 0 ≤ A 3 (sp_n r) then (if 0 ≤ i.toInt ∧ i.toInt < (A 3 (sp_n r)).toInt then 0 else 2) else 1) := by unfold f_set; rw [if_pos h1]
    generalize hq6 : sp_n r = j at *
    subst hje
    rcases hz2 j hj with ⟨e1, e2⟩ | ⟨x0, y0, n, f, e1, e2, e3, e4, e5, e6⟩
    · rw [if_neg e2] at hfs
      refine nk_iload_n (i := 1) dX7_set_0 rfl rfl ?_
      refine nk_cSi kX7_53 (s_X7_isRow) dX7_set_1 rfl rfl (by decide) (Nat.le_of_ble_eq_true rfl) ?_
      refine nk_ifne (tgt := 10) dX7_set_4 (by decide) (fun _ => ?_) (fun h4 => by first | exact absurd (nk_y h1) h4 | exact absurd h4 (nk_y h1))
      refine nk_aload_n (i := 0) dX7_set_10 rfl rfl ?_
      refine nk_getf fX7_11 dX7_set_11 hx.1.1 rfl ?_
      refine nk_iload_n (i := 1) dX7_set_14 rfl rfl ?_
      refine nk_aaldN (j := j) 3 rfl rfl dX7_set_15 hz1.1 (rfl) (by omega) (by decide) (show va_rf (z j) = .null by rw [e1]; rfl) ?_
      refine nk_astoreNT dX7_set_16 (by decide) ?_
      refine nk_aloadN dX7_set_18 rfl ?_
      refine nk_ifnonnullN dX7_set_20 ?_
      refine nk_aload_n (i := 0) dX7_set_23 rfl rfl ?_
      refine nk_iconst (v := 1) dX7_set_24 (by decide) ?_
      refine nk_cVi kX7_62 (s_X7_found hx.1.1) dX7_set_25 hx.1.1 rfl rfl (by decide) (Nat.le_of_ble_eq_true rfl) ?_
      refine nk_ireturn dX7_set_28 rfl ?_
      exact pW.fnd 1 (by decide) (by decide) hfs hn hx hs
    · have hnn : (A 3 j).toInt = (n : Int) := by rw [e2]; exact nI_toInt (by omega)
      rw [if_pos (by rw [e2]; exact nk_0le e3), hnn] at hfs
      have hr : cRo K x0 y0 (A 2 j) n f := ⟨e4.1, e5.1⟩
      by_cases h2 : 0 ≤ i.toInt ∧ i.toInt < n
      · rw [if_pos h2] at hfs
        have hsp : (0 : Int32) ≤ i ∧ (0 : Int32) ≤ 1 ∧ i.toInt + (1 : Int32).toInt ≤ n := ⟨(fa_le _ _).mpr h2.1, by decide, by show i.toInt + 1 ≤ _; omega⟩
        obtain ⟨hi1, hie⟩ : sp_n i < n ∧ i = nI (sp_n i) := ⟨by unfold sp_n Int32.toNatClampNeg; omega, nI_ofI h2.1⟩
        generalize hq7 : sp_n i = i1 at *
        subst hie
        refine nk_iload_n (i := 1) dX7_set_0 rfl rfl ?_
        refine nk_cSi kX7_53 (s_X7_isRow) dX7_set_1 rfl rfl (by decide) (Nat.le_of_ble_eq_true rfl) ?_
        refine nk_ifne (tgt := 10) dX7_set_4 (by decide) (fun _ => ?_) (fun h4 => by first | exact absurd (nk_y h1) h4 | exact absurd h4 (nk_y h1))
        refine nk_aload_n (i := 0) dX7_set_10 rfl rfl ?_
        refine nk_getf fX7_11 dX7_set_11 hx.1.1 rfl ?_
        refine nk_iload_n (i := 1) dX7_set_14 rfl rfl ?_
        refine nk_aaldN (j := j) 3 rfl rfl dX7_set_15 hz1.1 (rfl) (by omega) (by decide) (show va_rf (z j) = .ref x0 by rw [e1]; rfl) ?_
        refine nk_astoreT dX7_set_16 (by decide) ?_
        refine nk_aload dX7_set_18 rfl ?_
        refine nk_ifnonnullR (tgt := 29) dX7_set_20 (by decide) ?_
        refine nk_aload dX7_set_29 rfl ?_
        refine nk_iload_n (i := 2) dX7_set_31 rfl rfl ?_
        refine nk_iconst (v := 1) dX7_set_32 (by decide) ?_
        refine nk_cVi kX7_72 (s_X4_spans hr e3) dX7_set_33 hr.1 rfl rfl (by decide) (Nat.le_of_ble_eq_true rfl) ?_
        refine nk_ifne (tgt := 45) dX7_set_36 (by decide) (fun _ => ?_) (fun h36 => by first | exact absurd (nk_y hsp) h36 | exact absurd h36 (nk_y hsp))
        have hoy : o ≠ y0 := nk_cdif hx.1.1 e5.1 (by intro z; cases z)
        refine nk_aload_n (i := 0) dX7_set_45 rfl rfl ?_
        refine nk_aload dX7_set_46 rfl ?_
        refine nk_iload_n (i := 2) dX7_set_48 rfl rfl ?_
        refine nk_iload_n (i := 3) dX7_set_49 rfl rfl ?_
        refine nk_cVi kX7_76 (s_X4_store hr e3 hi1) dX7_set_50 hr.1 rfl rfl (by decide) (Nat.le_of_ble_eq_true rfl) ?_
        refine nk_cVi kX7_69 (s_X7_fine ((nk_u_ne hoy).trans hx.1.1)) dX7_set_53 ((nk_u_ne hoy).trans hx.1.1) rfl rfl (by decide) (Nat.le_of_ble_eq_true rfl) ?_
        refine nk_ireturn dX7_set_56 rfl ?_
        exact pW.ok hfs (cW.items (A' := a_set A j i1 x) (I' := va_up I 3 0) hn hx hs hz1 hz2 hj e1 e2 e3 e4 e5 (fun i' hi' => by
          show upd f i1 _ i' = upd (A 4) (40 * j + i1) _ (40 * j + i')
          unfold upd
          by_cases q : i' = i1
          · rw [if_pos q, if_pos (by omega)]
          · rw [if_neg q, if_neg (by omega)]; exact e6 i' hi') (fun r' hr' hne i' hi' => (upd_ne (by omega)).symm) rfl rfl rfl rfl rfl rfl rfl rfl rfl rfl)
      · rw [if_neg h2] at hfs
        have hsp : ¬ ((0 : Int32) ≤ i ∧ (0 : Int32) ≤ 1 ∧ i.toInt + (1 : Int32).toInt ≤ n) := fun q => h2 ⟨(fa_le _ _).mp q.1, by have q2 : i.toInt + 1 ≤ n := q.2.2; omega⟩
        refine nk_iload_n (i := 1) dX7_set_0 rfl rfl ?_
        refine nk_cSi kX7_53 (s_X7_isRow) dX7_set_1 rfl rfl (by decide) (Nat.le_of_ble_eq_true rfl) ?_
        refine nk_ifne (tgt := 10) dX7_set_4 (by decide) (fun _ => ?_) (fun h4 => by first | exact absurd (nk_y h1) h4 | exact absurd h4 (nk_y h1))
        refine nk_aload_n (i := 0) dX7_set_10 rfl rfl ?_
        refine nk_getf fX7_11 dX7_set_11 hx.1.1 rfl ?_
        refine nk_iload_n (i := 1) dX7_set_14 rfl rfl ?_
        refine nk_aaldN (j := j) 3 rfl rfl dX7_set_15 hz1.1 (rfl) (by omega) (by decide) (show va_rf (z j) = .ref x0 by rw [e1]; rfl) ?_
        refine nk_astoreT dX7_set_16 (by decide) ?_
        refine nk_aload dX7_set_18 rfl ?_
        refine nk_ifnonnullR (tgt := 29) dX7_set_20 (by decide) ?_
        refine nk_aload dX7_set_29 rfl ?_
        refine nk_iload_n (i := 2) dX7_set_31 rfl rfl ?_
        refine nk_iconst (v := 1) dX7_set_32 (by decide) ?_
        refine nk_cVi kX7_72 (s_X4_spans hr e3) dX7_set_33 hr.1 rfl rfl (by decide) (Nat.le_of_ble_eq_true rfl) ?_
        refine nk_ifne (tgt := 45) dX7_set_36 (by decide) (fun h36 => by first | exact absurd h36 ((fun z => z (nk_n hsp))) | exact absurd ((fun z => z (nk_n hsp))) h36) (fun _ => ?_)
        refine nk_aload_n (i := 0) dX7_set_39 rfl rfl ?_
        refine nk_iconst (v := 2) dX7_set_40 (by decide) ?_
        refine nk_cVi kX7_62 (s_X7_found hx.1.1) dX7_set_41 hx.1.1 rfl rfl (by decide) (Nat.le_of_ble_eq_true rfl) ?_
        refine nk_ireturn dX7_set_44 rfl ?_
        exact pW.fnd 2 (by decide) (by decide) hfs hn hx hs
  · have hf : f_set A r i = -1 := by unfold f_set; rw [if_neg h1]
    refine nk_iload_n (i := 1) dX7_set_0 rfl rfl ?_
    refine nk_cSi kX7_53 (s_X7_isRow) dX7_set_1 rfl rfl (by decide) (Nat.le_of_ble_eq_true rfl) ?_
    refine nk_ifne (tgt := 10) dX7_set_4 (by decide) (fun h4 => by first | exact absurd h4 ((fun z => z (nk_n h1))) | exact absurd ((fun z => z (nk_n h1))) h4) (fun _ => ?_)
    refine nk_ldc qX7_61 dX7_set_7 ?_
    refine nk_ireturn dX7_set_9 rfl ?_
    exact pW.bad hf hW
set_option maxRecDepth 20000 in
theorem s_X7_drop {G : nk_EG} {K : nk_AH} {g : Nat → Nat} {o m b u l t : Nat} {A : Nat → Nat → Int32} {I : Nat → Int32} (hW : cW K g o A I m b u l t) {r : Int32} : nk_S G mX7_drop 15 0 0 [.ref o, .int r] K (pW o (sp_val (f_drop A r) (A 3 (sp_n r))) (sp_A (f_drop A r) A (va_up A 3 (upd (A 3) (sp_n r) (-1)))) (sp_I (f_drop A r) I)) := by
  refine nk_S.of (by decide +kernel) (Nat.le_of_ble_eq_true rfl) rfl ?_
  obtain ⟨hn, a1, a2, a3, a4, a5, sh, hx, hs⟩ := id hW
  by_cases h1 : sp_R r 0 7
  · skip
    obtain ⟨hj, hje⟩ := sp_n_R7 h1
    obtain ⟨z, hz1, hz2⟩ := hx.2.1
    have hfs : f_drop A r = (if 0 ≤ A 3 (sp_n r) then 0 else 1) := by unfold f_drop; rw [if_pos h1]
    generalize hq6 : sp_n r = j at *
    subst hje
    rcases hz2 j hj with ⟨e1, e2⟩ | ⟨x0, y0, n, f, e1, e2, e3, e4, e5, e6⟩
    · rw [if_neg e2] at hfs
      refine nk_iload_n (i := 1) dX7_drop_0 rfl rfl ?_
      refine nk_cSi kX7_53 (s_X7_isRow) dX7_drop_1 rfl rfl (by decide) (Nat.le_of_ble_eq_true rfl) ?_
      refine nk_ifne (tgt := 10) dX7_drop_4 (by decide) (fun _ => ?_) (fun h4 => by first | exact absurd (nk_y h1) h4 | exact absurd h4 (nk_y h1))
      refine nk_aload_n (i := 0) dX7_drop_10 rfl rfl ?_
      refine nk_getf fX7_11 dX7_drop_11 hx.1.1 rfl ?_
      refine nk_iload_n (i := 1) dX7_drop_14 rfl rfl ?_
      refine nk_aaldN (j := j) 3 rfl rfl dX7_drop_15 hz1.1 (rfl) (by omega) (by decide) (show va_rf (z j) = .null by rw [e1]; rfl) ?_
      refine nk_astore_nNT (i := 2) dX7_drop_16 rfl (by decide) ?_
      refine nk_aload_nN (i := 2) dX7_drop_17 rfl rfl ?_
      refine nk_ifnonnullN dX7_drop_18 ?_
      refine nk_aload_n (i := 0) dX7_drop_21 rfl rfl ?_
      refine nk_iconst (v := 1) dX7_drop_22 (by decide) ?_
      refine nk_cVi kX7_62 (s_X7_found hx.1.1) dX7_drop_23 hx.1.1 rfl rfl (by decide) (Nat.le_of_ble_eq_true rfl) ?_
      refine nk_ireturn dX7_drop_26 rfl ?_
      exact pW.fnd 1 (by decide) (by decide) hfs hn hx hs
    · rw [if_pos (by rw [e2]; exact nk_0le e3)] at hfs
      have k1 : rk (fun y => y ≠ 1) K g (nk_u K a1 (rwc (va_up z j none))) g := rk.u hz1.2
      have ho1 := hx.1.mv k1 (by omega)
      have k2 : rk (fun y => y ≠ 0) (nk_u K a1 (rwc (va_up z j none))) g (nk_u (nk_u K a1 (rwc (va_up z j none))) o (obc (.ref a1) (.ref a2) (.ref a3) (.ref a4) (.ref a5) (va_rf sh) (.int (I 2)) (.int 0))) g := rk.u ho1.2
      have k12 := k1.tr k2
      have e4' := e4.mv k1 (by omega)
      have e5' := e5.mv k1 (by omega)
      refine nk_iload_n (i := 1) dX7_drop_0 rfl rfl ?_
      refine nk_cSi kX7_53 (s_X7_isRow) dX7_drop_1 rfl rfl (by decide) (Nat.le_of_ble_eq_true rfl) ?_
      refine nk_ifne (tgt := 10) dX7_drop_4 (by decide) (fun _ => ?_) (fun h4 => by first | exact absurd (nk_y h1) h4 | exact absurd h4 (nk_y h1))
      refine nk_aload_n (i := 0) dX7_drop_10 rfl rfl ?_
      refine nk_getf fX7_11 dX7_drop_11 hx.1.1 rfl ?_
      refine nk_iload_n (i := 1) dX7_drop_14 rfl rfl ?_
      refine nk_aaldN (j := j) 3 rfl rfl dX7_drop_15 hz1.1 (rfl) (by omega) (by decide) (show va_rf (z j) = .ref x0 by rw [e1]; rfl) ?_
      refine nk_astore_nT (i := 2) dX7_drop_16 rfl (by decide) ?_
      refine nk_aload_n (i := 2) dX7_drop_17 rfl rfl ?_
      refine nk_ifnonnullR (tgt := 27) dX7_drop_18 (by decide) ?_
      refine nk_aload_n (i := 0) dX7_drop_27 rfl rfl ?_
      refine nk_getf fX7_11 dX7_drop_28 hx.1.1 rfl ?_
      refine nk_iload_n (i := 1) dX7_drop_31 rfl rfl ?_
      refine nk_null dX7_drop_32 ?_
      refine nk_aastNJ (j := j) 3 rfl dX7_drop_33 hz1.1 (rfl) (by omega) (by decide) ?_
      refine nk_aload_n (i := 0) dX7_drop_34 rfl rfl ?_
      refine nk_aload_n (i := 2) dX7_drop_35 rfl rfl ?_
      refine nk_getf fX7_83 dX7_drop_36 e4'.1 rfl ?_
      refine nk_alen 0 rfl dX7_drop_39 e5'.1 rfl ?_
      refine nk_top (y := A 3 j) (by rw [e2]; rfl) ?_
      refine nk_cVi kX7_69 (s_X7_fine ho1.1) dX7_drop_40 ho1.1 rfl rfl (by decide) (Nat.le_of_ble_eq_true rfl) ?_
      refine nk_ireturn dX7_drop_43 rfl ?_
      refine pW.ok hfs (cW.rows hn hx hs k12 (fun t z1 z2 z3 => ⟨z2, z1⟩) ho1.u (cRw.chg (r := j) ((hz1.u).mv k2 (by omega)) (fun r' _ hr' => by simp [va_up, hr']) hz2 k12 (fun t z1 z2 z3 z4 => ⟨by omega, by omega⟩) hj (fun r' h8 hr' => ⟨rfl, (upd_ne hr').symm, fun i hi => rfl⟩) (Or.inl ⟨by simp [va_up], ?_⟩)) rfl rfl rfl rfl rfl rfl rfl (mRw.up hn.1 rfl (by decide) (by decide)))
      show ¬ 0 ≤ upd (A 3) j (-1) j
      rw [upd_at]; decide
  · have hf : f_drop A r = -1 := by unfold f_drop; rw [if_neg h1]
    refine nk_iload_n (i := 1) dX7_drop_0 rfl rfl ?_
    refine nk_cSi kX7_53 (s_X7_isRow) dX7_drop_1 rfl rfl (by decide) (Nat.le_of_ble_eq_true rfl) ?_
    refine nk_ifne (tgt := 10) dX7_drop_4 (by decide) (fun h4 => by first | exact absurd h4 ((fun z => z (nk_n h1))) | exact absurd ((fun z => z (nk_n h1))) h4) (fun _ => ?_)
    refine nk_ldc qX7_61 dX7_drop_7 ?_
    refine nk_ireturn dX7_drop_9 rfl ?_
    exact pW.bad hf hW

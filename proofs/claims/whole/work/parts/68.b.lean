/-! the class: images, shelves told -/
set_option maxRecDepth 20000 in
theorem s_X7_image {G : nk_EG} {K : nk_AH} {g : Nat → Nat} {o m b u l t : Nat} {A : Nat → Nat → Int32} {I : Nat → Int32} (hW : cW K g o A I m b u l t) {x : Int32} : nk_S G mX7_image 15 10 160 [.ref o, .int x] K (pW o (sp_image b x) (a_image b x A) I) := by
  refine nk_S.of (by decide +kernel) (Nat.le_of_ble_eq_true rfl) rfl ?_
  obtain ⟨hn, a1, a2, a3, a4, a5, sh, hx, hs⟩ := id hW
  by_cases h1 : sp_R x 0 1
  · rcases id hs with ⟨rfl, rfl, rfl, rfl, r0, r1, c7⟩ | ⟨q, sa, qs, ws, rfl, s2, s3, s4, s5⟩
    · have e1 : a_image 0 x A = A := by unfold a_image; rw [if_neg (fun z => by have := z.2; omega)]
      have e3 : sp_image 0 x = -1000002 := by unfold sp_image; rw [if_pos h1, if_neg (by omega)]
      rw [e1, e3]
      refine nk_iload_n (i := 1) dX7_image_0 rfl rfl ?_
      refine nk_iconst (v := 0) dX7_image_1 (by decide) ?_
      refine nk_iconst (v := 1) dX7_image_2 (by decide) ?_
      refine nk_cSi kX7_57 (s_X7_within) dX7_image_3 rfl rfl (by decide) (Nat.le_of_ble_eq_true rfl) ?_
      refine nk_ifne (tgt := 12) dX7_image_6 (by decide) (fun _ => ?_) (fun h6 => by first | exact absurd (nk_y h1) h6 | exact absurd h6 (nk_y h1))
      refine nk_aload_n (i := 0) dX7_image_12 rfl rfl ?_
      refine nk_getf fX7_42 dX7_image_13 hx.1.1 rfl ?_
      refine nk_ifnonnullN dX7_image_16 ?_
      refine nk_ldc qX7_120 dX7_image_19 ?_
      refine nk_ireturn dX7_image_21 rfl ?_
      exact ⟨rfl, g, 0, 0, 0, l, t, hW⟩
    · have hm4 := s2.2.2.2.1
      have hb2 := s2.2.2.2.2.1
      have hb10 := s2.2.2.2.2.2.1
      have e1 : a_image b x A = va_up (va_up A 0 (va_cpy (A 0) (A 0) 0 (3350 + 134 * sp_n x) 134)) 1 (upd (A 1) (sp_n x) 1) := by unfold a_image; rw [if_pos ⟨h1, by omega⟩]
      have e3 : sp_image b x = 1 := by unfold sp_image; rw [if_pos h1, if_pos (by omega)]
      rw [e1, e3]
      obtain ⟨hk2, hke⟩ : sp_n x < 2 ∧ x = nI (sp_n x) := ⟨by have := h1.1; have := h1.2; unfold sp_n Int32.toNatClampNeg; omega, nI_ofI h1.1⟩
      generalize hqk : sp_n x = k at *
      subst hke
      obtain ⟨z, hz1, hz2⟩ := hx.2.2.2.1
      refine nk_iload_n (i := 1) dX7_image_0 rfl rfl ?_
      refine nk_iconst (v := 0) dX7_image_1 (by decide) ?_
      refine nk_iconst (v := 1) dX7_image_2 (by decide) ?_
      refine nk_cSi kX7_57 (s_X7_within) dX7_image_3 rfl rfl (by decide) (Nat.le_of_ble_eq_true rfl) ?_
      refine nk_ifne (tgt := 12) dX7_image_6 (by decide) (fun _ => ?_) (fun h6 => by first | exact absurd (nk_y h1) h6 | exact absurd h6 (nk_y h1))
      refine nk_aload_n (i := 0) dX7_image_12 rfl rfl ?_
      refine nk_getf fX7_42 dX7_image_13 hx.1.1 rfl ?_
      refine nk_ifnonnullR (tgt := 22) dX7_image_16 (by decide) ?_
      refine nk_aload_n (i := 0) dX7_image_22 rfl rfl ?_
      refine nk_getf fX7_24 dX7_image_23 hx.1.1 rfl ?_
      refine nk_iload_n (i := 1) dX7_image_26 rfl rfl ?_
      refine nk_aload_n (i := 0) dX7_image_27 rfl rfl ?_
      refine nk_getf fX7_42 dX7_image_28 hx.1.1 rfl ?_
      refine nk_cV (bc' := 0) (bs' := 0) kX7_269 (s_X5_twin s3.1 hm4 hb2 hb10) dX7_image_31 s3.1.1 rfl rfl (by decide) (Nat.le_of_ble_eq_true rfl) ⟨Nat.le_refl _, Nat.le_refl _⟩ (fun rr H2 hr => ?_)
      obtain ⟨q2, sa2, qs2, ws2, rfl, ht⟩ := hr
      refine nk_aastJ (j := k) 4 rfl rfl dX7_image_34 (ht.1 _ _ hz1.1) ht.2.1.1 (rfl) (by omega) (by decide) ?_
      refine nk_iconst (v := 1) dX7_image_35 (by decide) ?_
      refine nk_ireturn dX7_image_36 rfl ?_
      have hrt : rk (fun _ => True) K g H2 (tgn K g q2 sa2 m qs2 ws2 (k + 1)) := tgn_rk (fun x e hx _ => ht.1 x e hx)
      obtain ⟨g1, g2, g3⟩ := tgn_new (g := g) (c := k + 1) ht.2.1 hm4 ht.2.2.1 ht.2.2.2.1 ht.2.2.2.2.1 ht.2.2.2.2.2
      have hz1' := hz1.mv hrt trivial
      have hr2 : rk (fun y => y ≠ 4) H2 (tgn K g q2 sa2 m qs2 ws2 (k + 1)) (nk_u H2 a3 (imc (va_up z k (some q2)))) (tgn K g q2 sa2 m qs2 ws2 (k + 1)) := rk.u hz1'.2
      have hr12 := hrt.tr hr2
      have hcp : ∀ i, ¬ (3350 + 134 * k ≤ i ∧ i < 3350 + 134 * k + 134) → va_cpy (A 0) (A 0) 0 (3350 + 134 * k) 134 i = A 0 i := fun i hi => va_cpy_out (by omega)
      have hci : ∀ i, i < 134 → A 0 (0 + i) = va_cpy (A 0) (A 0) 0 (3350 + 134 * k) 134 (3350 + 134 * k + i) := fun i hi => by unfold va_cpy; rw [if_pos (by omega)]; exact congrArg (A 0) (by omega)
      have hSn : cSw H2 (tgn K g q2 sa2 m qs2 ws2 (k + 1)) (k + 1) q2 sa2 m b qs2 ws2 (A 0) 0 := ⟨ht.2.1, g1, g2, g3⟩
      obtain ⟨w1, w2, w3, w4, w5⟩ := hx
      refine ⟨rfl, tgn K g q2 sa2 m qs2 ws2 (k + 1), m, b, u, l, t, ⟨hn.1, hn.2⟩, a1, a2, a3, a4, a5, some q, ⟨w1.mv hr12 ⟨trivial, by omega⟩, w2.mv hr12 (fun t z => ⟨trivial, by omega⟩), w3.mv hr12 (fun t z => ⟨trivial, by omega⟩), ⟨va_up z k (some q2), hz1'.u, fun k' hk' => ?_⟩, w5.mv hr12 (fun t z => ⟨trivial, by omega⟩)⟩, Or.inr ⟨q, sa, qs, ws, rfl, s2.cg (fun i hi => (hcp _ (by omega)).symm), (s3.mv hm4 hr12 (fun t z1 z2 => ⟨trivial, by omega⟩)).cg s2 (fun i hi => (hcp _ (by omega)).symm), ?_, fun j hj s hs => gz_cg (s5 j hj s hs) (fun v hv => (hcp _ (by have := hn.2.2.1; omega)).symm)⟩⟩
      · by_cases e : k' = k
        · subst e
          have hv : va_up z k' (some q2) k' = some q2 := by simp [va_up]
          rw [hv]
          refine Or.inr ⟨?_, q2, sa2, m, b, qs2, ws2, rfl, s2.cg hci, (hSn.mv hm4 hr2 (fun t z1 z2 => by omega)).cg s2 hci⟩
          show ¬ upd (A 1) k' 1 k' = 0
          rw [upd_at]; decide
        · have hv : va_up z k (some q2) k' = z k' := by simp [va_up, e]
          rw [hv]
          have hi := (hz2 k' hk').mv hr12 (fun t z1 z2 => ⟨trivial, by omega⟩)
          rcases hi with ⟨y1, y2⟩ | ⟨y0, qq, ss, mm, bb, qqs, wws, y1, y2, y3⟩
          · exact Or.inl ⟨y1, by show upd (A 1) k 1 k' = 0; rw [upd_ne e]; exact y2⟩
          · exact Or.inr ⟨by show ¬ upd (A 1) k 1 k' = 0; rw [upd_ne e]; exact y0, qq, ss, mm, bb, qqs, wws, y1, y2.cg (fun i hi => (hcp _ (by omega)).symm), y3.cg y2 (fun i hi => (hcp _ (by omega)).symm)⟩
      · obtain ⟨b1, b2, zz, bf, c, c1, c2, c3, hc, hu, c6, c7⟩ := s4
        refine ⟨b1, b2, zz, bf, c, c1.mv hr12 ⟨trivial, by omega⟩, c2.mv hr12 ⟨trivial, by omega⟩, c3.mv hr12 ⟨trivial, by omega⟩, hc, hu, fun i hi => ?_, fun j hj => ?_⟩
        · obtain ⟨fi, hfi⟩ := c6 i hi
          exact ⟨fi, hfi.mv hr12 ⟨trivial, by omega⟩⟩
        · obtain ⟨sj, fj, p1, p2, p3, p4⟩ := c7 j hj
          have hlt : (c + 24 - u + j) % 24 < 24 := Nat.mod_lt _ (by omega)
          obtain ⟨fi, hfi⟩ := c6 _ hlt
          refine ⟨sj, fj, p1, p2, (hr12 _ _ p3 ⟨trivial, by rw [hfi.2]; omega⟩).1, fun i hi => ?_⟩
          have q1 : nxp u j + i < 3350 := by unfold nxp; split <;> omega
          show va_cpy (A 0) (A 0) 0 (3350 + 134 * k) 134 _ = _
          rw [hcp _ (by omega), p4 i hi]
          by_cases y : 6 + 32 * sj ≤ i ∧ i < 6 + 32 * sj + nk_wm b
          · rw [if_pos y, if_pos y]
          · rw [if_neg y, if_neg y]
            exact (hcp _ (by omega)).symm
  · have e1 : a_image b x A = A := by unfold a_image; rw [if_neg (fun z => h1 z.1)]
    have e3 : sp_image b x = -1000001 := by unfold sp_image; rw [if_neg h1]
    rw [e1, e3]
    refine nk_iload_n (i := 1) dX7_image_0 rfl rfl ?_
    refine nk_iconst (v := 0) dX7_image_1 (by decide) ?_
    refine nk_iconst (v := 1) dX7_image_2 (by decide) ?_
    refine nk_cSi kX7_57 (s_X7_within) dX7_image_3 rfl rfl (by decide) (Nat.le_of_ble_eq_true rfl) ?_
    refine nk_ifne (tgt := 12) dX7_image_6 (by decide) (fun h6 => by first | exact absurd h6 ((fun z => z (nk_n h1))) | exact absurd ((fun z => z (nk_n h1))) h6) (fun _ => ?_)
    refine nk_ldc qX7_61 dX7_image_9 ?_
    refine nk_ireturn dX7_image_11 rfl ?_
    exact ⟨rfl, g, m, b, u, l, t, hW⟩
set_option maxRecDepth 20000 in
theorem s_X7_restore {G : nk_EG} {K : nk_AH} {g : Nat → Nat} {o m b u l t : Nat} {A : Nat → Nat → Int32} {I : Nat → Int32} (hW : cW K g o A I m b u l t) {x : Int32} : nk_S G mX7_restore 15 10 160 [.ref o, .int x] K (pW o (sp_restore A x) (a_restore x A) (i_restore A x I)) := by
  refine nk_S.of (by decide +kernel) (Nat.le_of_ble_eq_true rfl) rfl ?_
  obtain ⟨hn, a1, a2, a3, a4, a5, sh, hx, hs⟩ := id hW
  by_cases h1 : sp_R x 0 1
  · obtain ⟨hk2, hke⟩ : sp_n x < 2 ∧ x = nI (sp_n x) := ⟨by have := h1.1; have := h1.2; unfold sp_n Int32.toNatClampNeg; omega, nI_ofI h1.1⟩
    obtain ⟨z, hz1, hz2⟩ := hx.2.2.2.1
    rcases hz2 (sp_n x) hk2 with ⟨y1, y2⟩ | ⟨y0, q, sa, m', b', qs, ws, y1, y2, y3⟩
    · have hno : ¬ (sp_R x 0 1 ∧ ¬ A 1 (sp_n x) = 0) := fun q => q.2 y2
      have e1 : a_restore x A = A := by unfold a_restore; rw [if_neg hno]
      have e2 : i_restore A x I = I := by unfold i_restore; rw [if_neg hno]
      have e3 : sp_restore A x = -1000002 := by unfold sp_restore; rw [if_pos h1, if_pos y2]
      rw [e1, e2, e3]
      clear e1 e2 e3 hno
      generalize hqk : sp_n x = k at *
      subst hke
      refine nk_iload_n (i := 1) dX7_restore_0 rfl rfl ?_
      refine nk_iconst (v := 0) dX7_restore_1 (by decide) ?_
      refine nk_iconst (v := 1) dX7_restore_2 (by decide) ?_
      refine nk_cSi kX7_57 (s_X7_within) dX7_restore_3 rfl rfl (by decide) (Nat.le_of_ble_eq_true rfl) ?_
      refine nk_ifne (tgt := 12) dX7_restore_6 (by decide) (fun _ => ?_) (fun h6 => by first | exact absurd (nk_y h1) h6 | exact absurd h6 (nk_y h1))
      refine nk_aload_n (i := 0) dX7_restore_12 rfl rfl ?_
      refine nk_getf fX7_24 dX7_restore_13 hx.1.1 rfl ?_
      refine nk_iload_n (i := 1) dX7_restore_16 rfl rfl ?_
      refine nk_aaldN (j := k) 4 rfl rfl dX7_restore_17 hz1.1 (rfl) (by omega) (by decide) (show va_rf (z k) = .null by rw [y1]; rfl) ?_
      refine nk_astore_nNT (i := 2) dX7_restore_18 rfl (by decide) ?_
      refine nk_aload_nN (i := 2) dX7_restore_19 rfl rfl ?_
      refine nk_ifnonnullN dX7_restore_20 ?_
      refine nk_ldc qX7_120 dX7_restore_23 ?_
      refine nk_ireturn dX7_restore_25 rfl ?_
      exact ⟨rfl, g, m, b, u, l, t, hW⟩
    · have hyes : sp_R x 0 1 ∧ ¬ A 1 (sp_n x) = 0 := ⟨h1, y0⟩
      have e1 : a_restore x A = va_up A 0 (va_cpy (A 0) (A 0) (3350 + 134 * sp_n x) 0 134) := by unfold a_restore; rw [if_pos hyes]
      have e2 : i_restore A x I = va_up I 0 0 := by unfold i_restore; rw [if_pos hyes]
      have e3 : sp_restore A x = 1 := by unfold sp_restore; rw [if_pos h1, if_neg y0]
      rw [e1, e2, e3]
      clear e1 e2 e3 hyes
      generalize hqk : sp_n x = k at *
      subst hke
      have hm4 := y2.2.2.2.1
      have hb2 := y2.2.2.2.2.1
      have hb10 := y2.2.2.2.2.2.1
      obtain ⟨b1, b2, zz, bf, c, c1, c2, c3, hc, c6⟩ := hs.ac
      have ho4 : o ≠ a4 := fun e => by have t1 := hx.1.2; rw [e, c1.2] at t1; omega
      refine nk_iload_n (i := 1) dX7_restore_0 rfl rfl ?_
      refine nk_iconst (v := 0) dX7_restore_1 (by decide) ?_
      refine nk_iconst (v := 1) dX7_restore_2 (by decide) ?_
      refine nk_cSi kX7_57 (s_X7_within) dX7_restore_3 rfl rfl (by decide) (Nat.le_of_ble_eq_true rfl) ?_
      refine nk_ifne (tgt := 12) dX7_restore_6 (by decide) (fun _ => ?_) (fun h6 => by first | exact absurd (nk_y h1) h6 | exact absurd h6 (nk_y h1))
      refine nk_aload_n (i := 0) dX7_restore_12 rfl rfl ?_
      refine nk_getf fX7_24 dX7_restore_13 hx.1.1 rfl ?_
      refine nk_iload_n (i := 1) dX7_restore_16 rfl rfl ?_
      refine nk_aaldN (j := k) 4 rfl rfl dX7_restore_17 hz1.1 (rfl) (by omega) (by decide) (show va_rf (z k) = .ref q by rw [y1]; rfl) ?_
      refine nk_astore_nT (i := 2) dX7_restore_18 rfl (by decide) ?_
      refine nk_aload_n (i := 2) dX7_restore_19 rfl rfl ?_
      refine nk_ifnonnullR (tgt := 26) dX7_restore_20 (by decide) ?_
      refine nk_aload_n (i := 0) dX7_restore_26 rfl rfl ?_
      refine nk_aload_n (i := 2) dX7_restore_27 rfl rfl ?_
      refine nk_cV (bc' := 0) (bs' := 0) kX7_269 (s_X5_twin y3.1 hm4 hb2 hb10) dX7_restore_28 y3.1.1 rfl rfl (by decide) (Nat.le_of_ble_eq_true rfl) ⟨Nat.le_refl _, Nat.le_refl _⟩ (fun rr H2 hr => ?_)
      obtain ⟨q2, sa2, qs2, ws2, rfl, ht⟩ := hr
      have hac : ∀ {e}, nk_u H2 o e a4 = some (acc b1 b2 c u) := fun {e} => (nk_u_ne ho4.symm).trans (ht.1 _ _ c1.1)
      refine nk_putf pX7_42 dX7_restore_31 (ht.1 _ _ hx.1.1) rfl rfl (Nat.le_of_ble_eq_true rfl) rfl ?_
      have hb1o : b1 ≠ o := fun e => by have t1 := hx.1.2; rw [← e, c2.2] at t1; omega
      have hb2o : b2 ≠ o := fun e => by have t1 := hx.1.2; rw [← e, c3.2] at t1; omega
      refine nk_aload_n (i := 0) dX7_restore_34 rfl rfl ?_
      refine nk_getf fX7_31 dX7_restore_35 (nk_u_self _ _ _) rfl ?_
      refine nk_cVv kX7_111 (s_X0_forget (z := zz) (bf := bf) ⟨hac, (nk_u_ne hb1o).trans (ht.1 _ _ c2.1), (nk_u_ne hb2o).trans (ht.1 _ _ c3.1)⟩) dX7_restore_38 hac rfl rfl (by decide) (Nat.le_of_ble_eq_true rfl) ?_
      refine nk_iconst (v := 1) dX7_restore_41 (by decide) ?_
      refine nk_ireturn dX7_restore_42 rfl ?_
      have hrt : rk (fun _ => True) K g H2 (tgn K g q2 sa2 m' qs2 ws2 0) := tgn_rk (fun x e hx _ => ht.1 x e hx)
      obtain ⟨g1, g2, g3⟩ := tgn_new (g := g) (c := 0) ht.2.1 hm4 ht.2.2.1 ht.2.2.2.1 ht.2.2.2.2.1 ht.2.2.2.2.2
      have o1 := hx.1.mv hrt trivial
      have k2 : ∀ e, rk (fun y => y ≠ 0) H2 (tgn K g q2 sa2 m' qs2 ws2 0) (nk_u H2 o e) (tgn K g q2 sa2 m' qs2 ws2 0) := fun e => rk.u o1.2
      have c1' := fun e => (c1.mv hrt trivial).mv (k2 e) (by omega)
      have k3 : ∀ e e', rk (fun y => y ≠ 5) (nk_u H2 o e) (tgn K g q2 sa2 m' qs2 ws2 0) (nk_u (nk_u H2 o e) a4 e') (tgn K g q2 sa2 m' qs2 ws2 0) := fun e e' => rk.u (c1' e).2
      have k123 := fun e e' => (hrt.tr (k2 e)).tr (k3 e e')
      have hci : ∀ i, i < 134 → A 0 (3350 + 134 * k + i) = va_cpy (A 0) (A 0) (3350 + 134 * k) 0 134 (0 + i) := fun i hi => by unfold va_cpy; rw [if_pos (by omega)]; exact congrArg (A 0) (by omega)
      have hSn : cSw H2 (tgn K g q2 sa2 m' qs2 ws2 0) 0 q2 sa2 m' b' qs2 ws2 (A 0) (3350 + 134 * k) := ⟨ht.2.1, g1, g2, g3⟩
      exact ⟨rfl, tgn K g q2 sa2 m' qs2 ws2 0, m', b', 0, l, t, cW.cur (A' := va_up A 0 (va_cpy (A 0) (A 0) (3350 + 134 * k) 0 134)) (I' := va_up I 0 0) hn hx (k123 _ _) (fun t z0 z2 z3 z5 => ⟨⟨trivial, z0⟩, z5⟩) ((o1.u).mv (k3 _ _) (by omega)) (hx.2.2.1.mv (k123 _ _) (fun t z => ⟨⟨trivial, by omega⟩, by omega⟩)) hn.2.2.2.2.1 ((c1' _).u) c2 c3 hc c6 ((hSn.mv hm4 ((k2 _).tr (k3 _ _)) (fun t z1 z2 => ⟨by omega, by omega⟩)).cg y2 hci) (y2.cg hci) (fun i hi1 hi2 => (va_cpy_out (by omega)).symm) rfl rfl rfl rfl rfl rfl hn.2.2.2.1 rfl⟩
  · have hno : ¬ (sp_R x 0 1 ∧ ¬ A 1 (sp_n x) = 0) := fun q => h1 q.1
    have e1 : a_restore x A = A := by unfold a_restore; rw [if_neg hno]
    have e2 : i_restore A x I = I := by unfold i_restore; rw [if_neg hno]
    have e3 : sp_restore A x = -1000001 := by unfold sp_restore; rw [if_neg h1]
    rw [e1, e2, e3]
    refine nk_iload_n (i := 1) dX7_restore_0 rfl rfl ?_
    refine nk_iconst (v := 0) dX7_restore_1 (by decide) ?_
    refine nk_iconst (v := 1) dX7_restore_2 (by decide) ?_
    refine nk_cSi kX7_57 (s_X7_within) dX7_restore_3 rfl rfl (by decide) (Nat.le_of_ble_eq_true rfl) ?_
    refine nk_ifne (tgt := 12) dX7_restore_6 (by decide) (fun h6 => by first | exact absurd h6 ((fun z => z (nk_n h1))) | exact absurd ((fun z => z (nk_n h1))) h6) (fun _ => ?_)
    refine nk_ldc qX7_61 dX7_restore_9 ?_
    refine nk_ireturn dX7_restore_11 rfl ?_
    exact ⟨rfl, g, m, b, u, l, t, hW⟩

/-! the class: kinds, the tape fed, asks, counts -/
set_option maxRecDepth 20000 in
theorem s_X7_as {G : nk_EG} (hG : nk_GS G) {K : nk_AH} {g : Nat → Nat} {o m b u l t : Nat} {A : Nat → Nat → Int32} {I : Nat → Int32} (hW : cW K g o A I m b u l t) {s x : Int32} : nk_S G mX7_as 15 0 0 [.ref o, .int s, .int x] K (pW o (sp_val (f_as m (shK (A 0) 0) s x) s) (sp_A (f_as m (shK (A 0) 0) s x) A A) (sp_I (f_as m (shK (A 0) 0) s x) I)) := by
  refine nk_S.of (by decide +kernel) (Nat.le_of_ble_eq_true rfl) rfl ?_
  obtain ⟨hn, a1, a2, a3, a4, a5, sh, hx, hs⟩ := id hW
  have hV := hW.V
  obtain ⟨fs, hfs⟩ := hV.o
  by_cases h1 : sp_S m s
  · have hfa : f_as m (shK (A 0) 0) s x = (if sp_R x 0 5 then (if sp_of (shK (A 0) 0 (sp_n s)) x then 0 else 3) else -1) := by unfold f_as; rw [if_pos h1]
    obtain ⟨v1, v2, v3, v4, v5, f1, f2, q, sa, qs, ws, hV2⟩ := hV.S h1
    have hm4 := hV2.2.2.2.2.2.1
    have hb2 := hV2.2.2.2.2.2.2.1
    have hb10 := hV2.2.2.2.2.2.2.2.1
    have hV7 := hV2.2.2.2.2.2.2.2.2
    have hwm := wm_f b hb10 hb2
    obtain ⟨hj, hse⟩ := sp_n_S h1
    have hset := s_setAt_s (G := G) hV2 h1
    have hX := hV2.2.1.2.2 _ hj
    obtain ⟨hκ, hz⟩ := hV7 _ hj
    generalize hje : sp_n s = j at *
    subst hse
    by_cases h2 : sp_R x 0 5
    · rw [if_pos h2] at hfa
      obtain ⟨kk, q1, q2, q3⟩ := hκ
      obtain ⟨hx5, hxe⟩ : sp_n x ≤ 5 ∧ x = nI (sp_n x) := ⟨by have := h2.1; have := h2.2; unfold sp_n Int32.toNatClampNeg; omega, nI_ofI h2.1⟩
      generalize hq8 : sp_n x = x1 at *
      subst hxe
      have hsu := s_X7_isSuch (G := G) hG (H := K) q1 q2 hx5
      by_cases h3 : sp_of (shK (A 0) 0 j) (nI x1)
      · rw [if_pos h3] at hfa
        have h3' : sp_of (nI kk) (nI x1) := by rw [← q3]; exact h3
        refine nk_aload_n (i := 0) dX7_as_0 rfl rfl ?_
        refine nk_iload_n (i := 1) dX7_as_1 rfl rfl ?_
        refine nk_cVq kX7_140 hset dX7_as_2 hfs rfl rfl (by decide) (Nat.le_of_ble_eq_true rfl) ?_
        refine nk_J.to (st' := [.ref (qs j)]) ?_ rfl rfl rfl
        refine nk_astore_nT (i := 3) dX7_as_5 rfl (by decide) ?_
        refine nk_aload_n (i := 3) dX7_as_6 rfl rfl ?_
        refine nk_ifnullR dX7_as_7 ?_
        refine nk_iload_n (i := 2) dX7_as_10 rfl rfl ?_
        refine nk_iconst (v := 0) dX7_as_11 (by decide) ?_
        refine nk_iconst (v := 5) dX7_as_12 (by decide) ?_
        refine nk_cSi kX7_57 (s_X7_within) dX7_as_13 rfl rfl (by decide) (Nat.le_of_ble_eq_true rfl) ?_
        refine nk_ifne (tgt := 22) dX7_as_16 (by decide) (fun _ => ?_) (fun h16 => by first | exact absurd (nk_y h2) h16 | exact absurd h16 (nk_y h2))
        refine nk_aload_n (i := 3) dX7_as_22 rfl rfl ?_
        refine nk_getf fX7_281 dX7_as_23 hX.o rfl ?_
        refine nk_top (y := nI kk) (q3) ?_
        refine nk_iload_n (i := 2) dX7_as_26 rfl rfl ?_
        refine nk_cSi kX7_284 (hsu) dX7_as_27 rfl rfl (by decide) (Nat.le_of_ble_eq_true rfl) ?_
        refine nk_ifeq (tgt := 41) dX7_as_30 (by decide) (fun h30 => by first | exact absurd h30 (nk_y h3') | exact absurd (nk_y h3') h30) (fun _ => ?_)
        refine nk_aload_n (i := 0) dX7_as_33 rfl rfl ?_
        refine nk_iload_n (i := 1) dX7_as_34 rfl rfl ?_
        refine nk_cVi kX7_69 (s_X7_fine hx.1.1) dX7_as_35 hx.1.1 rfl rfl (by decide) (Nat.le_of_ble_eq_true rfl) ?_
        refine nk_goto (tgt := 46) dX7_as_38 (by decide) ?_
        refine nk_ireturn dX7_as_46 rfl ?_
        exact pW.ok hfa (cW.fnd hn hx hs 0)
      · rw [if_neg h3] at hfa
        have h3' : ¬ sp_of (nI kk) (nI x1) := by rw [← q3]; exact h3
        refine nk_aload_n (i := 0) dX7_as_0 rfl rfl ?_
        refine nk_iload_n (i := 1) dX7_as_1 rfl rfl ?_
        refine nk_cVq kX7_140 hset dX7_as_2 hfs rfl rfl (by decide) (Nat.le_of_ble_eq_true rfl) ?_
        refine nk_J.to (st' := [.ref (qs j)]) ?_ rfl rfl rfl
        refine nk_astore_nT (i := 3) dX7_as_5 rfl (by decide) ?_
        refine nk_aload_n (i := 3) dX7_as_6 rfl rfl ?_
        refine nk_ifnullR dX7_as_7 ?_
        refine nk_iload_n (i := 2) dX7_as_10 rfl rfl ?_
        refine nk_iconst (v := 0) dX7_as_11 (by decide) ?_
        refine nk_iconst (v := 5) dX7_as_12 (by decide) ?_
        refine nk_cSi kX7_57 (s_X7_within) dX7_as_13 rfl rfl (by decide) (Nat.le_of_ble_eq_true rfl) ?_
        refine nk_ifne (tgt := 22) dX7_as_16 (by decide) (fun _ => ?_) (fun h16 => by first | exact absurd (nk_y h2) h16 | exact absurd h16 (nk_y h2))
        refine nk_aload_n (i := 3) dX7_as_22 rfl rfl ?_
        refine nk_getf fX7_281 dX7_as_23 hX.o rfl ?_
        refine nk_top (y := nI kk) (q3) ?_
        refine nk_iload_n (i := 2) dX7_as_26 rfl rfl ?_
        refine nk_cSi kX7_284 (hsu) dX7_as_27 rfl rfl (by decide) (Nat.le_of_ble_eq_true rfl) ?_
        refine nk_ifeq (tgt := 41) dX7_as_30 (by decide) (fun _ => ?_) (fun h30 => by first | exact absurd (nk_n h3') h30 | exact absurd h30 (nk_n h3'))
        refine nk_aload_n (i := 0) dX7_as_41 rfl rfl ?_
        refine nk_iconst (v := 3) dX7_as_42 (by decide) ?_
        refine nk_cVi kX7_62 (s_X7_found hx.1.1) dX7_as_43 hx.1.1 rfl rfl (by decide) (Nat.le_of_ble_eq_true rfl) ?_
        refine nk_ireturn dX7_as_46 rfl ?_
        exact pW.fnd 3 (by decide) (by decide) hfa hn hx hs
    · rw [if_neg h2] at hfa
      refine nk_aload_n (i := 0) dX7_as_0 rfl rfl ?_
      refine nk_iload_n (i := 1) dX7_as_1 rfl rfl ?_
      refine nk_cVq kX7_140 hset dX7_as_2 hfs rfl rfl (by decide) (Nat.le_of_ble_eq_true rfl) ?_
      refine nk_J.to (st' := [.ref (qs j)]) ?_ rfl rfl rfl
      refine nk_astore_nT (i := 3) dX7_as_5 rfl (by decide) ?_
      refine nk_aload_n (i := 3) dX7_as_6 rfl rfl ?_
      refine nk_ifnullR dX7_as_7 ?_
      refine nk_iload_n (i := 2) dX7_as_10 rfl rfl ?_
      refine nk_iconst (v := 0) dX7_as_11 (by decide) ?_
      refine nk_iconst (v := 5) dX7_as_12 (by decide) ?_
      refine nk_cSi kX7_57 (s_X7_within) dX7_as_13 rfl rfl (by decide) (Nat.le_of_ble_eq_true rfl) ?_
      refine nk_ifne (tgt := 22) dX7_as_16 (by decide) (fun h16 => by first | exact absurd h16 ((fun z => z (nk_n h2))) | exact absurd ((fun z => z (nk_n h2))) h16) (fun _ => ?_)
      refine nk_ldc qX7_61 dX7_as_19 ?_
      refine nk_ireturn dX7_as_21 rfl ?_
      exact pW.bad hfa hW
  · have hfa : f_as m (shK (A 0) 0) s x = -1 := by unfold f_as; rw [if_neg h1]
    have hset := s_setAt_n (G := G) hV (x := s) h1
    refine nk_aload_n (i := 0) dX7_as_0 rfl rfl ?_
    refine nk_iload_n (i := 1) dX7_as_1 rfl rfl ?_
    refine nk_cVq kX7_140 hset dX7_as_2 hfs rfl rfl (by decide) (Nat.le_of_ble_eq_true rfl) ?_
    refine nk_J.to (st' := [.null]) ?_ rfl rfl rfl
    refine nk_astore_nNT (i := 3) dX7_as_5 rfl (by decide) ?_
    refine nk_aload_nN (i := 3) dX7_as_6 rfl rfl ?_
    refine nk_ifnullN (tgt := 19) dX7_as_7 (by decide) ?_
    refine nk_ldc qX7_61 dX7_as_19 ?_
    refine nk_ireturn dX7_as_21 rfl ?_
    exact pW.bad hfa hW
set_option maxRecDepth 20000 in
theorem s_X7_feed {G : nk_EG} {K : nk_AH} {g : Nat → Nat} {o m b u l t : Nat} {A : Nat → Nat → Int32} {I : Nat → Int32} (hW : cW K g o A I m b u l t) {x : Int32} : nk_S G mX7_feed 15 0 0 [.ref o, .int x] K (pW o (sp_feed I l x) (a_feed l x A) (i_feed l x I)) := by
  refine nk_S.of (by decide +kernel) (Nat.le_of_ble_eq_true rfl) rfl ?_
  obtain ⟨hn, a1, a2, a3, a4, a5, sh, hx, hs⟩ := id hW
  obtain ⟨y, f, x1, x2, x3, x4, x5, q1, q2, q3⟩ := hx.2.2.1
  have hl := hn.2.2.2.2.1
  by_cases h1 : sp_R x 0 255
  · by_cases h2 : l = 110
    · have e1 : a_feed l x A = A := by unfold a_feed; rw [if_neg (fun z => z.2 h2)]
      have e2 : i_feed l x I = I := by unfold i_feed; rw [if_neg (fun z => z.2 h2)]
      have e3 : sp_feed I l x = -1000003 := by unfold sp_feed; rw [if_pos h1, if_pos h2]
      have hlt : ¬ nI l < 110 := fun z => by have := nk_ltI (b := 110) z (by omega) (by omega); omega
      rw [e1, e2, e3]
      refine nk_iload_n (i := 1) dX7_feed_0 rfl rfl ?_
      refine nk_iconst (v := 0) dX7_feed_1 (by decide) ?_
      refine nk_sipush (v := 255) dX7_feed_2 (by decide) ?_
      refine nk_cSi kX7_57 (s_X7_within) dX7_feed_5 rfl rfl (by decide) (Nat.le_of_ble_eq_true rfl) ?_
      refine nk_ifne (tgt := 14) dX7_feed_8 (by decide) (fun _ => ?_) (fun h8 => by first | exact absurd (nk_y h1) h8 | exact absurd h8 (nk_y h1))
      refine nk_aload_n (i := 0) dX7_feed_14 rfl rfl ?_
      refine nk_getf fX7_18 dX7_feed_15 hx.1.1 rfl ?_
      refine nk_getf fX7_93 dX7_feed_18 q1.1 rfl ?_
      refine nk_bipush (v := 110) dX7_feed_21 (by decide) ?_
      refine nk_icmplt (tgt := 29) dX7_feed_23 (by decide) (fun h23 => by first | exact absurd h23 (hlt) | exact absurd (hlt) h23) (fun _ => ?_)
      refine nk_ldc qX7_96 dX7_feed_26 ?_
      refine nk_ireturn dX7_feed_28 rfl ?_
      exact ⟨rfl, g, m, b, u, l, t, hW⟩
    · have e1 : a_feed l x A = va_up A 5 (upd (A 5) l x) := by unfold a_feed; rw [if_pos ⟨h1, h2⟩]
      have e2 : i_feed l x I = va_up I 1 (nI (l + 1)) := by unfold i_feed; rw [if_pos ⟨h1, h2⟩]
      have e3 : sp_feed I l x = nI (l + 1) := by unfold sp_feed; rw [if_pos h1, if_neg h2]
      have hlt : nI l < 110 := (nI_ltI (b := 110) (by omega) (by omega)).mpr (by omega)
      have hqy : a2 ≠ y := nk_cdif q1.1 q2.1 (by intro z; cases z)
      rw [e1, e2, e3]
      refine nk_iload_n (i := 1) dX7_feed_0 rfl rfl ?_
      refine nk_iconst (v := 0) dX7_feed_1 (by decide) ?_
      refine nk_sipush (v := 255) dX7_feed_2 (by decide) ?_
      refine nk_cSi kX7_57 (s_X7_within) dX7_feed_5 rfl rfl (by decide) (Nat.le_of_ble_eq_true rfl) ?_
      refine nk_ifne (tgt := 14) dX7_feed_8 (by decide) (fun _ => ?_) (fun h8 => by first | exact absurd (nk_y h1) h8 | exact absurd h8 (nk_y h1))
      refine nk_aload_n (i := 0) dX7_feed_14 rfl rfl ?_
      refine nk_getf fX7_18 dX7_feed_15 hx.1.1 rfl ?_
      refine nk_getf fX7_93 dX7_feed_18 q1.1 rfl ?_
      refine nk_bipush (v := 110) dX7_feed_21 (by decide) ?_
      refine nk_icmplt (tgt := 29) dX7_feed_23 (by decide) (fun _ => ?_) (fun h23 => by first | exact absurd (hlt) h23 | exact absurd h23 (hlt))
      refine nk_aload_n (i := 0) dX7_feed_29 rfl rfl ?_
      refine nk_getf fX7_18 dX7_feed_30 hx.1.1 rfl ?_
      refine nk_iload_n (i := 1) dX7_feed_33 rfl rfl ?_
      refine nk_cVi kX7_97 (s_X6_append q1.1 q2.1 (by omega)) dX7_feed_34 q1.1 rfl rfl (by decide) (Nat.le_of_ble_eq_true rfl) ?_
      refine nk_ireturn dX7_feed_37 rfl ?_
      have k1 : rk (fun y => y ≠ 3) K g (nk_u K y (inc 110 (upd f l x))) g := rk.u q2.2
      have q1' := q1.mv k1 (by omega)
      have k2 : rk (fun y => y ≠ 2) (nk_u K y (inc 110 (upd f l x))) g (nk_u (nk_u K y (inc 110 (upd f l x))) a2 (tpc y (l + 1) x1 x2 x3 x4 x5)) g := rk.u q1'.2
      refine ⟨rfl, g, m, b, u, l + 1, t, cW.tape hn hx hs (k1.tr k2) (fun t z1 z2 => ⟨z2, z1⟩) ⟨y, upd f l x, x1, x2, x3, x4, x5, q1'.u, (q2.u).mv k2 (by omega), fun i hi => ?_⟩ (by omega) rfl rfl rfl rfl rfl rfl rfl rfl rfl rfl rfl⟩
      show upd f l x i = upd (A 5) l x i
      unfold upd
      split
      · rfl
      · exact q3 i hi
  · have e1 : a_feed l x A = A := by unfold a_feed; rw [if_neg (fun z => h1 z.1)]
    have e2 : i_feed l x I = I := by unfold i_feed; rw [if_neg (fun z => h1 z.1)]
    have e3 : sp_feed I l x = -1000001 := by unfold sp_feed; rw [if_neg h1]
    rw [e1, e2, e3]
    refine nk_iload_n (i := 1) dX7_feed_0 rfl rfl ?_
    refine nk_iconst (v := 0) dX7_feed_1 (by decide) ?_
    refine nk_sipush (v := 255) dX7_feed_2 (by decide) ?_
    refine nk_cSi kX7_57 (s_X7_within) dX7_feed_5 rfl rfl (by decide) (Nat.le_of_ble_eq_true rfl) ?_
    refine nk_ifne (tgt := 14) dX7_feed_8 (by decide) (fun h8 => by first | exact absurd h8 ((fun z => z (nk_n h1))) | exact absurd ((fun z => z (nk_n h1))) h8) (fun _ => ?_)
    refine nk_ldc qX7_61 dX7_feed_11 ?_
    refine nk_ireturn dX7_feed_13 rfl ?_
    exact ⟨rfl, g, m, b, u, l, t, hW⟩
set_option maxRecDepth 20000 in
theorem s_X7_ask {G : nk_EG} (hG : nk_GS G) {K : nk_AH} {g : Nat → Nat} {o m b u l t : Nat} {A : Nat → Nat → Int32} {I : Nat → Int32} (hW : cW K g o A I m b u l t) {s x : Int32} : nk_S G mX7_ask 15 0 0 [.ref o, .int s, .int x] K (pW o (sp_ask m b (nk_mem (A 0) 0) (shK (A 0) 0) s x) (a_ask m (shK (A 0) 0) s x A) (i_ask m (shK (A 0) 0) s x I)) := by
  refine nk_S.of (by decide +kernel) (Nat.le_of_ble_eq_true rfl) rfl ?_
  obtain ⟨hn, a1, a2, a3, a4, a5, sh, hx, hs⟩ := id hW
  have hV := hW.V
  obtain ⟨fs, hfs⟩ := hV.o
  by_cases h1 : sp_S m s
  · by_cases h2 : sp_R x 0 1
    · have hc : c_ask m s x := ⟨h1, h2⟩
      have e1 : a_ask m (shK (A 0) 0) s x A = va_up A 6 (tr_a (A 6) 0 (tl_ask ((shK (A 0) 0) (sp_n s)) x)) := by unfold a_ask; rw [if_pos hc]
      have e2 : i_ask m (shK (A 0) 0) s x I = va_up I 4 (nI (tr_t 0 (tl_ask ((shK (A 0) 0) (sp_n s)) x))) := by unfold i_ask; rw [if_pos hc]
      have e3 : sp_ask m b (nk_mem (A 0) 0) (shK (A 0) 0) s x = av_ask (nk_mem (A 0) 0 (sp_n s)) (nk_tp b) (sp_n s) ((shK (A 0) 0) (sp_n s)) x := by unfold sp_ask; rw [if_pos hc]
      rw [e1, e2, e3]
      obtain ⟨q, sa, qs, ws, rfl, s2, s3, s4, s5⟩ := hs.S h1
      have hV2 : cVs K o m b (A 0) (.ref a1) (.ref a2) (.ref a3) (.ref a4) (.ref a5) (.int (I 2)) (.int (I 3)) q sa qs ws := ⟨hx.1.1, s3.1, s2⟩
      have hm4 := hV2.2.2.2.2.2.1
      have hb2 := hV2.2.2.2.2.2.2.1
      have hb10 := hV2.2.2.2.2.2.2.2.1
      have hV7 := hV2.2.2.2.2.2.2.2.2
      have hwm := wm_f b hb10 hb2
      obtain ⟨hj, hse⟩ := sp_n_S h1
      have hset := s_setAt_s (G := G) hV2 h1
      have hX := hV2.2.1.2.2 _ hj
      obtain ⟨hκ, hz⟩ := hV7 _ hj
      generalize hje : sp_n s = j at *
      subst hse
      obtain ⟨kk, q1, q2, q3⟩ := hκ
      obtain ⟨y, f, y1, y2, y3⟩ := hx.2.2.2.2
      have hQ : cQ K a5 y f t := ⟨y1.1, y2.1⟩
      have ht16 := hn.2.2.2.2.2.2
      have hwy : ws j ≠ y := fun z => by
        have t1 := (s3.2.2.2 j hj).2
        rw [z, y2.2] at t1
        omega
      have fin : pW o (av_ask (gm (shF (A 0) 0 j)) (nk_tp b) j (shK (A 0) 0 j) x) (va_up A 6 (tr_a (A 6) 0 (tl_ask (shK (A 0) 0 j) x))) (va_up I 4 (nI (tr_t 0 (tl_ask (shK (A 0) 0 j) x)))) (some (.int (av_ask (gm (shF (A 0) 0 j)) (nk_tp b) j (shK (A 0) 0 j) x))) (tk K a5 y f 0 (tl_ask (shK (A 0) 0 j) x)) := by
        generalize tl_ask (shK (A 0) 0 j) x = xs
        have k1 : rk (fun y => y ≠ 9) K g (nk_u K y (inc 16 (tr_a f 0 xs))) g := rk.u y2.2
        have y1' := y1.mv k1 (by omega)
        have k2 : rk (fun y => y ≠ 8) (nk_u K y (inc 16 (tr_a f 0 xs))) g (tk K a5 y f 0 xs) g := rk.u y1'.2
        refine ⟨rfl, g, m, b, u, l, tr_t 0 xs, cW.trace hn hx hs (k1.tr k2) (fun t z1 z2 => ⟨z2, z1⟩) ⟨y, tr_a f 0 xs, y1'.u, (y2.u).mv k2 (by omega), fun i hi => ?_⟩ (tr_t_le xs 0 (by omega)) rfl rfl rfl rfl rfl rfl rfl rfl rfl rfl rfl⟩
        exact tr_a_cg (f := f) (f' := f) xs 0 f (A 6) y3 i hi
      have hx01 : x = 0 ∨ x = 1 := by
        have z1 := h2.1
        have z2 := h2.2
        by_cases z3 : x.toInt = 0
        · exact Or.inl ((fa_eq _ _).mpr z3)
        · exact Or.inr ((fa_eq _ _).mpr (show x.toInt = 1 by omega))
      rcases hx01 with rfl | rfl
      · skip
        refine nk_aload_n (i := 0) dX7_ask_0 rfl rfl ?_
        refine nk_iload_n (i := 1) dX7_ask_1 rfl rfl ?_
        refine nk_cVq kX7_140 hset dX7_ask_2 hfs rfl rfl (by decide) (Nat.le_of_ble_eq_true rfl) ?_
        refine nk_J.to (st' := [.ref (qs j)]) ?_ rfl rfl rfl
        refine nk_astore_nT (i := 3) dX7_ask_5 rfl (by decide) ?_
        refine nk_aload_n (i := 3) dX7_ask_6 rfl rfl ?_
        refine nk_ifnullR dX7_ask_7 ?_
        refine nk_iload_n (i := 2) dX7_ask_10 rfl rfl ?_
        refine nk_iconst (v := 0) dX7_ask_11 (by decide) ?_
        refine nk_iconst (v := 1) dX7_ask_12 (by decide) ?_
        refine nk_cSi kX7_57 (s_X7_within) dX7_ask_13 rfl rfl (by decide) (Nat.le_of_ble_eq_true rfl) ?_
        refine nk_ifne (tgt := 22) dX7_ask_16 (by decide) (fun _ => ?_) (fun h16 => by first | exact absurd (nk_y h2) h16 | exact absurd h16 (nk_y h2))
        refine nk_aload_n (i := 0) dX7_ask_22 rfl rfl ?_
        refine nk_getf fX7_38 dX7_ask_23 hx.1.1 rfl ?_
        refine nk_aload_n (i := 3) dX7_ask_26 rfl rfl ?_
        refine nk_iload_n (i := 2) dX7_ask_27 rfl rfl ?_
        refine nk_cVi kX7_287 (s_X1_answerAnew0 hG hQ ht16 hX hwy hb2 hb10 hz q3 q1 q2) dX7_ask_28 y1.1 rfl rfl (by decide) (Nat.le_of_ble_eq_true rfl) ?_
        refine nk_ireturn dX7_ask_31 rfl ?_
        exact fin
      · skip
        refine nk_aload_n (i := 0) dX7_ask_0 rfl rfl ?_
        refine nk_iload_n (i := 1) dX7_ask_1 rfl rfl ?_
        refine nk_cVq kX7_140 hset dX7_ask_2 hfs rfl rfl (by decide) (Nat.le_of_ble_eq_true rfl) ?_
        refine nk_J.to (st' := [.ref (qs j)]) ?_ rfl rfl rfl
        refine nk_astore_nT (i := 3) dX7_ask_5 rfl (by decide) ?_
        refine nk_aload_n (i := 3) dX7_ask_6 rfl rfl ?_
        refine nk_ifnullR dX7_ask_7 ?_
        refine nk_iload_n (i := 2) dX7_ask_10 rfl rfl ?_
        refine nk_iconst (v := 0) dX7_ask_11 (by decide) ?_
        refine nk_iconst (v := 1) dX7_ask_12 (by decide) ?_
        refine nk_cSi kX7_57 (s_X7_within) dX7_ask_13 rfl rfl (by decide) (Nat.le_of_ble_eq_true rfl) ?_
        refine nk_ifne (tgt := 22) dX7_ask_16 (by decide) (fun _ => ?_) (fun h16 => by first | exact absurd (nk_y h2) h16 | exact absurd h16 (nk_y h2))
        refine nk_aload_n (i := 0) dX7_ask_22 rfl rfl ?_
        refine nk_getf fX7_38 dX7_ask_23 hx.1.1 rfl ?_
        refine nk_aload_n (i := 3) dX7_ask_26 rfl rfl ?_
        refine nk_iload_n (i := 2) dX7_ask_27 rfl rfl ?_
        refine nk_cVi kX7_287 (s_X1_answerAnew1 hG hQ ht16 hX hwy hb2 hb10 hz q3 q1 q2) dX7_ask_28 y1.1 rfl rfl (by decide) (Nat.le_of_ble_eq_true rfl) ?_
        refine nk_ireturn dX7_ask_31 rfl ?_
        exact fin
    · have hc : ¬ c_ask m s x := fun z => h2 z.2
      have e1 : a_ask m (shK (A 0) 0) s x A = A := by unfold a_ask; rw [if_neg hc]
      have e2 : i_ask m (shK (A 0) 0) s x I = I := by unfold i_ask; rw [if_neg hc]
      have e3 : sp_ask m b (nk_mem (A 0) 0) (shK (A 0) 0) s x = -1000001 := by unfold sp_ask; rw [if_neg hc]
      rw [e1, e2, e3]
      obtain ⟨v1, v2, v3, v4, v5, f1, f2, q, sa, qs, ws, hV2⟩ := hV.S h1
      have hm4 := hV2.2.2.2.2.2.1
      have hb2 := hV2.2.2.2.2.2.2.1
      have hb10 := hV2.2.2.2.2.2.2.2.1
      have hV7 := hV2.2.2.2.2.2.2.2.2
      have hwm := wm_f b hb10 hb2
      obtain ⟨hj, hse⟩ := sp_n_S h1
      have hset := s_setAt_s (G := G) hV2 h1
      have hX := hV2.2.1.2.2 _ hj
      obtain ⟨hκ, hz⟩ := hV7 _ hj
      generalize hje : sp_n s = j at *
      subst hse
      refine nk_aload_n (i := 0) dX7_ask_0 rfl rfl ?_
      refine nk_iload_n (i := 1) dX7_ask_1 rfl rfl ?_
      refine nk_cVq kX7_140 hset dX7_ask_2 hfs rfl rfl (by decide) (Nat.le_of_ble_eq_true rfl) ?_
      refine nk_J.to (st' := [.ref (qs j)]) ?_ rfl rfl rfl
      refine nk_astore_nT (i := 3) dX7_ask_5 rfl (by decide) ?_
      refine nk_aload_n (i := 3) dX7_ask_6 rfl rfl ?_
      refine nk_ifnullR dX7_ask_7 ?_
      refine nk_iload_n (i := 2) dX7_ask_10 rfl rfl ?_
      refine nk_iconst (v := 0) dX7_ask_11 (by decide) ?_
      refine nk_iconst (v := 1) dX7_ask_12 (by decide) ?_
      refine nk_cSi kX7_57 (s_X7_within) dX7_ask_13 rfl rfl (by decide) (Nat.le_of_ble_eq_true rfl) ?_
      refine nk_ifne (tgt := 22) dX7_ask_16 (by decide) (fun h16 => by first | exact absurd h16 ((fun z => z (nk_n h2))) | exact absurd ((fun z => z (nk_n h2))) h16) (fun _ => ?_)
      refine nk_ldc qX7_61 dX7_ask_19 ?_
      refine nk_ireturn dX7_ask_21 rfl ?_
      exact ⟨rfl, g, m, b, u, l, t, hW⟩
  · have hc : ¬ c_ask m s x := fun z => h1 z.1
    have e1 : a_ask m (shK (A 0) 0) s x A = A := by unfold a_ask; rw [if_neg hc]
    have e2 : i_ask m (shK (A 0) 0) s x I = I := by unfold i_ask; rw [if_neg hc]
    have e3 : sp_ask m b (nk_mem (A 0) 0) (shK (A 0) 0) s x = -1000001 := by unfold sp_ask; rw [if_neg hc]
    rw [e1, e2, e3]
    have hset := s_setAt_n (G := G) hV (x := s) h1
    refine nk_aload_n (i := 0) dX7_ask_0 rfl rfl ?_
    refine nk_iload_n (i := 1) dX7_ask_1 rfl rfl ?_
    refine nk_cVq kX7_140 hset dX7_ask_2 hfs rfl rfl (by decide) (Nat.le_of_ble_eq_true rfl) ?_
    refine nk_J.to (st' := [.null]) ?_ rfl rfl rfl
    refine nk_astore_nNT (i := 3) dX7_ask_5 rfl (by decide) ?_
    refine nk_aload_nN (i := 3) dX7_ask_6 rfl rfl ?_
    refine nk_ifnullN (tgt := 19) dX7_ask_7 (by decide) ?_
    refine nk_ldc qX7_61 dX7_ask_19 ?_
    refine nk_ireturn dX7_ask_21 rfl ?_
    exact ⟨rfl, g, m, b, u, l, t, hW⟩
set_option maxRecDepth 20000 in
theorem s_X7_status {G : nk_EG} {K : nk_AH} {g : Nat → Nat} {o m b u l t : Nat} {A : Nat → Nat → Int32} {I : Nat → Int32} (hW : cW K g o A I m b u l t) : nk_Si G mX7_status 15 [.ref o] K (I 3) K := by
  refine nk_S.of (by decide +kernel) (Nat.le_of_ble_eq_true rfl) rfl ?_
  obtain ⟨hn, a1, a2, a3, a4, a5, sh, hx, hs⟩ := id hW
  refine nk_aload_n (i := 0) dX7_status_0 rfl rfl ?_
  refine nk_getf fX7_50 dX7_status_1 hx.1.1 rfl ?_
  refine nk_ireturn dX7_status_4 rfl ?_
  exact ⟨rfl, rfl⟩
set_option maxRecDepth 20000 in
theorem s_X7_fault {G : nk_EG} {K : nk_AH} {g : Nat → Nat} {o m b u l t : Nat} {A : Nat → Nat → Int32} {I : Nat → Int32} (hW : cW K g o A I m b u l t) : nk_Si G mX7_fault 15 [.ref o] K (I 2) K := by
  refine nk_S.of (by decide +kernel) (Nat.le_of_ble_eq_true rfl) rfl ?_
  obtain ⟨hn, a1, a2, a3, a4, a5, sh, hx, hs⟩ := id hW
  refine nk_aload_n (i := 0) dX7_fault_0 rfl rfl ?_
  refine nk_getf fX7_46 dX7_fault_1 hx.1.1 rfl ?_
  refine nk_ireturn dX7_fault_4 rfl ?_
  exact ⟨rfl, rfl⟩
set_option maxRecDepth 20000 in
theorem s_X7_trace {G : nk_EG} {K : nk_AH} {g : Nat → Nat} {o m b u l t : Nat} {A : Nat → Nat → Int32} {I : Nat → Int32} (hW : cW K g o A I m b u l t) {i : Int32} : nk_Si G mX7_trace 15 [.ref o, .int i] K (sp_trace (A 6) t i) K := by
  refine nk_S.of (by decide +kernel) (Nat.le_of_ble_eq_true rfl) rfl ?_
  obtain ⟨hn, a1, a2, a3, a4, a5, sh, hx, hs⟩ := id hW
  obtain ⟨y, f, y1, y2, y3⟩ := hx.2.2.2.2
  have hQ : cQ K a5 y f t := ⟨y1.1, y2.1⟩
  refine nk_aload_n (i := 0) dX7_trace_0 rfl rfl ?_
  refine nk_getf fX7_38 dX7_trace_1 hx.1.1 rfl ?_
  refine nk_iload_n (i := 1) dX7_trace_4 rfl rfl ?_
  refine nk_cVi kX7_291 (s_X1_leftAt hQ hn.2.2.2.2.2.2) dX7_trace_5 y1.1 rfl rfl (by decide) (Nat.le_of_ble_eq_true rfl) ?_
  refine nk_ireturn dX7_trace_8 rfl ?_
  exact ⟨by rw [sp_trace_cg hn.2.2.2.2.2.2 y3], rfl⟩
set_option maxRecDepth 20000 in
theorem s_X7_count {G : nk_EG} {K : nk_AH} {g : Nat → Nat} {o m b u l t : Nat} {A : Nat → Nat → Int32} {I : Nat → Int32} (hW : cW K g o A I m b u l t) {x : Int32} : nk_Si G mX7_count 15 [.ref o, .int x] K (sp_count A I m b (nk_mem (A 0) 0) x) K := by
  refine nk_S.of (by decide +kernel) (Nat.le_of_ble_eq_true rfl) rfl ?_
  obtain ⟨hn, a1, a2, a3, a4, a5, sh, hx, hs⟩ := id hW
  obtain ⟨z, hz1, hz2⟩ := hx.2.1
  obtain ⟨y, f, x1, x2, x3, x4, x5, p1, p2, p3⟩ := hx.2.2.1
  rcases hs with ⟨rfl, rfl, rfl, rfl, s5, s6, s7⟩ | ⟨q, sa, qs, ws, rfl, s2, s3, s4, s5⟩
  · obtain ⟨b1, b2, zz, bf, c, c1, c2, c3⟩ := s7
    refine nk_iload_n (i := 1) dX7_count_0 rfl rfl ?_
    by_cases c1_0 : x = 0
    · skip
      refine nk_top (y := 0) c1_0 ?_
      refine nk_tableIn (tgt := 44) (off := 43) dX7_count_1 (by decide) (by decide) (by decide) (by decide) ?_
      refine nk_aload_n (i := 0) dX7_count_44 rfl rfl ?_
      refine nk_cVi kX7_294 (s_X7_rowsThere hx.1.1 hz1.1) dX7_count_45 hx.1.1 rfl rfl (by decide) (Nat.le_of_ble_eq_true rfl) ?_
      refine nk_ireturn dX7_count_48 rfl ?_
      exact ⟨by unfold sp_count; rw [if_pos c1_0, cnq_rows hz2 8 (Nat.le_refl _)], rfl⟩
    by_cases c1_1 : x = 1
    · skip
      refine nk_top (y := 1) c1_1 ?_
      refine nk_tableIn (tgt := 49) (off := 48) dX7_count_1 (by decide) (by decide) (by decide) (by decide) ?_
      refine nk_aload_n (i := 0) dX7_count_49 rfl rfl ?_
      refine nk_getf fX7_42 dX7_count_50 hx.1.1 rfl ?_
      refine nk_ifnonnullN dX7_count_53 ?_
      refine nk_iconst (v := 0) dX7_count_56 (by decide) ?_
      refine nk_goto (tgt := 67) dX7_count_57 (by decide) ?_
      refine nk_ireturn dX7_count_67 rfl ?_
      exact ⟨by unfold sp_count; rw [if_neg c1_0, if_pos c1_1] <;> rfl, rfl⟩
    by_cases c1_2 : x = 2
    · skip
      refine nk_top (y := 2) c1_2 ?_
      refine nk_tableIn (tgt := 68) (off := 67) dX7_count_1 (by decide) (by decide) (by decide) (by decide) ?_
      refine nk_aload_n (i := 0) dX7_count_68 rfl rfl ?_
      refine nk_getf fX7_42 dX7_count_69 hx.1.1 rfl ?_
      refine nk_ifnonnullN dX7_count_72 ?_
      refine nk_iconst (v := 0) dX7_count_75 (by decide) ?_
      refine nk_goto (tgt := 86) dX7_count_76 (by decide) ?_
      refine nk_ireturn dX7_count_86 rfl ?_
      exact ⟨by unfold sp_count; rw [if_neg c1_0, if_neg c1_1, if_pos c1_2] <;> rfl, rfl⟩
    by_cases c1_3 : x = 3
    · skip
      refine nk_top (y := 3) c1_3 ?_
      refine nk_tableIn (tgt := 87) (off := 86) dX7_count_1 (by decide) (by decide) (by decide) (by decide) ?_
      refine nk_aload_n (i := 0) dX7_count_87 rfl rfl ?_
      refine nk_getf fX7_42 dX7_count_88 hx.1.1 rfl ?_
      refine nk_ifnonnullN dX7_count_91 ?_
      refine nk_iconst (v := 0) dX7_count_94 (by decide) ?_
      refine nk_goto (tgt := 105) dX7_count_95 (by decide) ?_
      refine nk_ireturn dX7_count_105 rfl ?_
      exact ⟨by unfold sp_count; rw [if_neg c1_0, if_neg c1_1, if_neg c1_2, if_pos c1_3] <;> rfl, rfl⟩
    by_cases c1_4 : x = 4
    · skip
      refine nk_top (y := 4) c1_4 ?_
      refine nk_tableIn (tgt := 106) (off := 105) dX7_count_1 (by decide) (by decide) (by decide) (by decide) ?_
      refine nk_aload_n (i := 0) dX7_count_106 rfl rfl ?_
      refine nk_getf fX7_42 dX7_count_107 hx.1.1 rfl ?_
      refine nk_ifnonnullN dX7_count_110 ?_
      refine nk_iconst (v := 0) dX7_count_113 (by decide) ?_
      refine nk_goto (tgt := 124) dX7_count_114 (by decide) ?_
      refine nk_ireturn dX7_count_124 rfl ?_
      exact ⟨by unfold sp_count; rw [if_neg c1_0, if_neg c1_1, if_neg c1_2, if_neg c1_3, if_pos c1_4] <;> rfl, rfl⟩
    by_cases c1_5 : x = 5
    · skip
      refine nk_top (y := 5) c1_5 ?_
      refine nk_tableIn (tgt := 125) (off := 124) dX7_count_1 (by decide) (by decide) (by decide) (by decide) ?_
      refine nk_aload_n (i := 0) dX7_count_125 rfl rfl ?_
      refine nk_getf fX7_31 dX7_count_126 hx.1.1 rfl ?_
      refine nk_getf fX7_117 dX7_count_129 c1.1 rfl ?_
      refine nk_ireturn dX7_count_132 rfl ?_
      exact ⟨by unfold sp_count; rw [if_neg c1_0, if_neg c1_1, if_neg c1_2, if_neg c1_3, if_neg c1_4, if_pos c1_5, hn.2.1], rfl⟩
    by_cases c1_6 : x = 6
    · skip
      refine nk_top (y := 6) c1_6 ?_
      refine nk_tableIn (tgt := 133) (off := 132) dX7_count_1 (by decide) (by decide) (by decide) (by decide) ?_
      refine nk_aload_n (i := 0) dX7_count_133 rfl rfl ?_
      refine nk_getf fX7_18 dX7_count_134 hx.1.1 rfl ?_
      refine nk_getf fX7_93 dX7_count_137 p1.1 rfl ?_
      refine nk_ireturn dX7_count_140 rfl ?_
      exact ⟨by unfold sp_count; rw [if_neg c1_0, if_neg c1_1, if_neg c1_2, if_neg c1_3, if_neg c1_4, if_neg c1_5, if_pos c1_6, hn.2.2.2.1], rfl⟩
    have e1_0 : (x).toInt ≠ 0 := nk_neI c1_0
    have e1_1 : (x).toInt ≠ 1 := nk_neI c1_1
    have e1_2 : (x).toInt ≠ 2 := nk_neI c1_2
    have e1_3 : (x).toInt ≠ 3 := nk_neI c1_3
    have e1_4 : (x).toInt ≠ 4 := nk_neI c1_4
    have e1_5 : (x).toInt ≠ 5 := nk_neI c1_5
    have e1_6 : (x).toInt ≠ 6 := nk_neI c1_6
    refine nk_tableOut (tgt := 141) dX7_count_1 (by omega) (by decide) ?_
    refine nk_ldc qX7_61 dX7_count_141 ?_
    refine nk_ireturn dX7_count_143 rfl ?_
    exact ⟨by unfold sp_count; rw [if_neg c1_0, if_neg c1_1, if_neg c1_2, if_neg c1_3, if_neg c1_4, if_neg c1_5, if_neg c1_6], rfl⟩
  · obtain ⟨b1, b2, zz, bf, c, c1, c2, c3⟩ := s4
    refine nk_iload_n (i := 1) dX7_count_0 rfl rfl ?_
    by_cases c1_0 : x = 0
    · skip
      refine nk_top (y := 0) c1_0 ?_
      refine nk_tableIn (tgt := 44) (off := 43) dX7_count_1 (by decide) (by decide) (by decide) (by decide) ?_
      refine nk_aload_n (i := 0) dX7_count_44 rfl rfl ?_
      refine nk_cVi kX7_294 (s_X7_rowsThere hx.1.1 hz1.1) dX7_count_45 hx.1.1 rfl rfl (by decide) (Nat.le_of_ble_eq_true rfl) ?_
      refine nk_ireturn dX7_count_48 rfl ?_
      exact ⟨by unfold sp_count; rw [if_pos c1_0, cnq_rows hz2 8 (Nat.le_refl _)], rfl⟩
    by_cases c1_1 : x = 1
    · skip
      refine nk_top (y := 1) c1_1 ?_
      refine nk_tableIn (tgt := 49) (off := 48) dX7_count_1 (by decide) (by decide) (by decide) (by decide) ?_
      refine nk_aload_n (i := 0) dX7_count_49 rfl rfl ?_
      refine nk_getf fX7_42 dX7_count_50 hx.1.1 rfl ?_
      refine nk_ifnonnullR (tgt := 60) dX7_count_53 (by decide) ?_
      refine nk_aload_n (i := 0) dX7_count_60 rfl rfl ?_
      refine nk_getf fX7_42 dX7_count_61 hx.1.1 rfl ?_
      refine nk_getf fX7_114 dX7_count_64 s3.1.1 rfl ?_
      refine nk_ireturn dX7_count_67 rfl ?_
      exact ⟨by unfold sp_count; rw [if_neg c1_0, if_pos c1_1] <;> rfl, rfl⟩
    by_cases c1_2 : x = 2
    · skip
      refine nk_top (y := 2) c1_2 ?_
      refine nk_tableIn (tgt := 68) (off := 67) dX7_count_1 (by decide) (by decide) (by decide) (by decide) ?_
      refine nk_aload_n (i := 0) dX7_count_68 rfl rfl ?_
      refine nk_getf fX7_42 dX7_count_69 hx.1.1 rfl ?_
      refine nk_ifnonnullR (tgt := 79) dX7_count_72 (by decide) ?_
      refine nk_aload_n (i := 0) dX7_count_79 rfl rfl ?_
      refine nk_getf fX7_42 dX7_count_80 hx.1.1 rfl ?_
      refine nk_getf fX7_297 dX7_count_83 s3.1.1 rfl ?_
      refine nk_ireturn dX7_count_86 rfl ?_
      exact ⟨by unfold sp_count; rw [if_neg c1_0, if_neg c1_1, if_pos c1_2] <;> rfl, rfl⟩
    by_cases c1_3 : x = 3
    · skip
      refine nk_top (y := 3) c1_3 ?_
      refine nk_tableIn (tgt := 87) (off := 86) dX7_count_1 (by decide) (by decide) (by decide) (by decide) ?_
      refine nk_aload_n (i := 0) dX7_count_87 rfl rfl ?_
      refine nk_getf fX7_42 dX7_count_88 hx.1.1 rfl ?_
      refine nk_ifnonnullR (tgt := 98) dX7_count_91 (by decide) ?_
      refine nk_aload_n (i := 0) dX7_count_98 rfl rfl ?_
      refine nk_getf fX7_42 dX7_count_99 hx.1.1 rfl ?_
      refine nk_cVi kX7_275 (s_X5_sizeOfAll s3.1 s2.2.2.2.1 s2.2.2.2.2.1 s2.2.2.2.2.2.1 (fun s hs => (s2.2.2.2.2.2.2 s hs).2)) dX7_count_102 s3.1.1 rfl rfl (by decide) (Nat.le_of_ble_eq_true rfl) ?_
      refine nk_ireturn dX7_count_105 rfl ?_
      exact ⟨by unfold sp_count; rw [if_neg c1_0, if_neg c1_1, if_neg c1_2, if_pos c1_3] <;> rfl, rfl⟩
    by_cases c1_4 : x = 4
    · skip
      refine nk_top (y := 4) c1_4 ?_
      refine nk_tableIn (tgt := 106) (off := 105) dX7_count_1 (by decide) (by decide) (by decide) (by decide) ?_
      refine nk_aload_n (i := 0) dX7_count_106 rfl rfl ?_
      refine nk_getf fX7_42 dX7_count_107 hx.1.1 rfl ?_
      refine nk_ifnonnullR (tgt := 117) dX7_count_110 (by decide) ?_
      refine nk_aload_n (i := 0) dX7_count_117 rfl rfl ?_
      refine nk_getf fX7_42 dX7_count_118 hx.1.1 rfl ?_
      refine nk_cVi kX7_278 (s_X5_nodesOfAll s3.1 s2.2.2.2.1 s2.2.2.2.2.1 s2.2.2.2.2.2.1 (fun s hs => (s2.2.2.2.2.2.2 s hs).2)) dX7_count_121 s3.1.1 rfl rfl (by decide) (Nat.le_of_ble_eq_true rfl) ?_
      refine nk_ireturn dX7_count_124 rfl ?_
      exact ⟨by unfold sp_count; rw [if_neg c1_0, if_neg c1_1, if_neg c1_2, if_neg c1_3, if_pos c1_4] <;> rfl, rfl⟩
    by_cases c1_5 : x = 5
    · skip
      refine nk_top (y := 5) c1_5 ?_
      refine nk_tableIn (tgt := 125) (off := 124) dX7_count_1 (by decide) (by decide) (by decide) (by decide) ?_
      refine nk_aload_n (i := 0) dX7_count_125 rfl rfl ?_
      refine nk_getf fX7_31 dX7_count_126 hx.1.1 rfl ?_
      refine nk_getf fX7_117 dX7_count_129 c1.1 rfl ?_
      refine nk_ireturn dX7_count_132 rfl ?_
      exact ⟨by unfold sp_count; rw [if_neg c1_0, if_neg c1_1, if_neg c1_2, if_neg c1_3, if_neg c1_4, if_pos c1_5, hn.2.1], rfl⟩
    by_cases c1_6 : x = 6
    · skip
      refine nk_top (y := 6) c1_6 ?_
      refine nk_tableIn (tgt := 133) (off := 132) dX7_count_1 (by decide) (by decide) (by decide) (by decide) ?_
      refine nk_aload_n (i := 0) dX7_count_133 rfl rfl ?_
      refine nk_getf fX7_18 dX7_count_134 hx.1.1 rfl ?_
      refine nk_getf fX7_93 dX7_count_137 p1.1 rfl ?_
      refine nk_ireturn dX7_count_140 rfl ?_
      exact ⟨by unfold sp_count; rw [if_neg c1_0, if_neg c1_1, if_neg c1_2, if_neg c1_3, if_neg c1_4, if_neg c1_5, if_pos c1_6, hn.2.2.2.1], rfl⟩
    have e1_0 : (x).toInt ≠ 0 := nk_neI c1_0
    have e1_1 : (x).toInt ≠ 1 := nk_neI c1_1
    have e1_2 : (x).toInt ≠ 2 := nk_neI c1_2
    have e1_3 : (x).toInt ≠ 3 := nk_neI c1_3
    have e1_4 : (x).toInt ≠ 4 := nk_neI c1_4
    have e1_5 : (x).toInt ≠ 5 := nk_neI c1_5
    have e1_6 : (x).toInt ≠ 6 := nk_neI c1_6
    refine nk_tableOut (tgt := 141) dX7_count_1 (by omega) (by decide) ?_
    refine nk_ldc qX7_61 dX7_count_141 ?_
    refine nk_ireturn dX7_count_143 rfl ?_
    exact ⟨by unfold sp_count; rw [if_neg c1_0, if_neg c1_1, if_neg c1_2, if_neg c1_3, if_neg c1_4, if_neg c1_5, if_neg c1_6], rfl⟩

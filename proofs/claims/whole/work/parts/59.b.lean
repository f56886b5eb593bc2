/-! the class: words, shares, chases, draws -/
set_option maxRecDepth 20000 in
theorem s_X7_word {G : nk_EG} {K : nk_AH} {o m b : Nat} {r : Nat → Int32} (hV : cV K o m b r) {s l i : Int32} : nk_Si G mX7_word 15 [.ref o, .int s, .int l, .int i] K (sp_word m b (shF r 0) s l i) K := by
  refine nk_S.of (by decide +kernel) (Nat.le_of_ble_eq_true rfl) rfl ?_
  obtain ⟨fs, hfs⟩ := hV.o
  by_cases h1 : sp_S m s
  · skip
    obtain ⟨v1, v2, v3, v4, v5, f1, f2, q, sa, qs, ws, hV2⟩ := hV.S h1
    have hm4 := hV2.2.2.2.2.2.1
    have hb2 := hV2.2.2.2.2.2.2.1
    have hb10 := hV2.2.2.2.2.2.2.2.1
    have hV7 := hV2.2.2.2.2.2.2.2.2
    have hwm := wm_f b hb10 hb2
    obtain ⟨hj, hse⟩ := sp_n_S h1
    have hset := s_setAt_s (G := G) hV2 h1
    have hX := hV2.2.1.2.2 _ hj
    obtain ⟨hκ, hz⟩ := hV7 _ hj
    generalize hje : sp_n s = j at *
    subst hse
    refine nk_aload_n (i := 0) dX7_word_0 rfl rfl ?_
    refine nk_iload_n (i := 1) dX7_word_1 rfl rfl ?_
    refine nk_cVq kX7_140 hset dX7_word_2 hfs rfl rfl (by decide) (Nat.le_of_ble_eq_true rfl) ?_
    refine nk_J.to (st' := [.ref (qs j)]) ?_ rfl rfl rfl
    refine nk_astoreT dX7_word_5 (by decide) ?_
    refine nk_aload dX7_word_7 rfl ?_
    refine nk_ifnullR dX7_word_9 ?_
    refine nk_aload dX7_word_12 rfl ?_
    refine nk_iload_n (i := 2) dX7_word_14 rfl rfl ?_
    refine nk_iload_n (i := 3) dX7_word_15 rfl rfl ?_
    refine nk_cVi kX7_212 (hX.i (fun H' hk => s_X2_hasWord hk hb2 hb10)) dX7_word_16 hX.o rfl rfl (by decide) (Nat.le_of_ble_eq_true rfl) ?_
    refine nk_ifne (tgt := 27) dX7_word_19 (by decide) (fun h19 => ?_) (fun h19 => ?_)
    · skip
      simp only [ne_eq, nk_b0, Classical.not_not] at h19
      first | (have hW : (l = 0 ∧ 0 ≤ i.toInt ∧ i.toInt < nk_wm b) ∨ (l = 1 ∧ i = 0 ∧ 1 < nk_wm b) := h19) | (have hW : ¬ ((l = 0 ∧ 0 ≤ i.toInt ∧ i.toInt < nk_wm b) ∨ (l = 1 ∧ i = 0 ∧ 1 < nk_wm b)) := h19)
      have hB : sp_isW m b (nI j) l i := ⟨h1, hW⟩
      have hsw : sp_w b (shF r 0) (nI j) l i = (if l = 0 then shF r 0 j (sp_n i) else sp_uw (shF r 0 j) (nk_wm b)) := by unfold sp_w; rw [hje]
      refine nk_aload dX7_word_27 rfl ?_
      refine nk_iload_n (i := 2) dX7_word_29 rfl rfl ?_
      refine nk_iload_n (i := 3) dX7_word_30 rfl rfl ?_
      refine nk_cVi kX7_215 (hX.i (fun H' hk => s_X2_wordAt hk hb2 hb10 hW)) dX7_word_31 hX.o rfl rfl (by decide) (Nat.le_of_ble_eq_true rfl) ?_
      refine nk_ireturn dX7_word_34 rfl ?_
      first
      | exact ⟨by unfold sp_word; rw [if_neg hB], rfl⟩
      | exact ⟨by unfold sp_word; rw [if_pos hB, hsw], rfl⟩
    · skip
      simp only [ne_eq, nk_b0, Classical.not_not] at h19
      first | (have hW : (l = 0 ∧ 0 ≤ i.toInt ∧ i.toInt < nk_wm b) ∨ (l = 1 ∧ i = 0 ∧ 1 < nk_wm b) := h19) | (have hW : ¬ ((l = 0 ∧ 0 ≤ i.toInt ∧ i.toInt < nk_wm b) ∨ (l = 1 ∧ i = 0 ∧ 1 < nk_wm b)) := h19)
      have hB : ¬ sp_isW m b (nI j) l i := fun z => hW z.2
      refine nk_ldc qX7_61 dX7_word_22 ?_
      refine nk_goto (tgt := 34) dX7_word_24 (by decide) ?_
      refine nk_ireturn dX7_word_34 rfl ?_
      first
      | exact ⟨by unfold sp_word; rw [if_neg hB], rfl⟩
      | exact ⟨by unfold sp_word; rw [if_pos hB, hsw], rfl⟩
  · have hset := s_setAt_n (G := G) hV (x := s) h1
    refine nk_aload_n (i := 0) dX7_word_0 rfl rfl ?_
    refine nk_iload_n (i := 1) dX7_word_1 rfl rfl ?_
    refine nk_cVq kX7_140 hset dX7_word_2 hfs rfl rfl (by decide) (Nat.le_of_ble_eq_true rfl) ?_
    refine nk_J.to (st' := [.null]) ?_ rfl rfl rfl
    refine nk_astoreNT dX7_word_5 (by decide) ?_
    refine nk_aloadN dX7_word_7 rfl ?_
    refine nk_ifnullN (tgt := 22) dX7_word_9 (by decide) ?_
    refine nk_ldc qX7_61 dX7_word_22 ?_
    refine nk_goto (tgt := 34) dX7_word_24 (by decide) ?_
    refine nk_ireturn dX7_word_34 rfl ?_
    exact ⟨by unfold sp_word; rw [if_neg (fun z => h1 z.1)], rfl⟩
set_option maxRecDepth 20000 in
theorem s_X7_bits {G : nk_EG} {K : nk_AH} {o m b : Nat} {r : Nat → Int32} (hV : cV K o m b r) {s l i x : Int32} : nk_Si G mX7_bits 15 [.ref o, .int s, .int l, .int i, .int x] K (sp_bits m b (shF r 0) s l i x) K := by
  refine nk_S.of (by decide +kernel) (Nat.le_of_ble_eq_true rfl) rfl ?_
  obtain ⟨fs, hfs⟩ := hV.o
  by_cases h1 : sp_S m s
  · skip
    obtain ⟨v1, v2, v3, v4, v5, f1, f2, q, sa, qs, ws, hV2⟩ := hV.S h1
    have hm4 := hV2.2.2.2.2.2.1
    have hb2 := hV2.2.2.2.2.2.2.1
    have hb10 := hV2.2.2.2.2.2.2.2.1
    have hV7 := hV2.2.2.2.2.2.2.2.2
    have hwm := wm_f b hb10 hb2
    obtain ⟨hj, hse⟩ := sp_n_S h1
    have hset := s_setAt_s (G := G) hV2 h1
    have hX := hV2.2.1.2.2 _ hj
    obtain ⟨hκ, hz⟩ := hV7 _ hj
    generalize hje : sp_n s = j at *
    subst hse
    refine nk_aload_n (i := 0) dX7_bits_0 rfl rfl ?_
    refine nk_iload_n (i := 1) dX7_bits_1 rfl rfl ?_
    refine nk_cVq kX7_140 hset dX7_bits_2 hfs rfl rfl (by decide) (Nat.le_of_ble_eq_true rfl) ?_
    refine nk_J.to (st' := [.ref (qs j)]) ?_ rfl rfl rfl
    refine nk_astoreT dX7_bits_5 (by decide) ?_
    refine nk_aload dX7_bits_7 rfl ?_
    refine nk_ifnullR dX7_bits_9 ?_
    refine nk_aload dX7_bits_12 rfl ?_
    refine nk_iload_n (i := 2) dX7_bits_14 rfl rfl ?_
    refine nk_iload_n (i := 3) dX7_bits_15 rfl rfl ?_
    refine nk_cVi kX7_212 (hX.i (fun H' hk => s_X2_hasWord hk hb2 hb10)) dX7_bits_16 hX.o rfl rfl (by decide) (Nat.le_of_ble_eq_true rfl) ?_
    refine nk_ifeq (tgt := 32) dX7_bits_19 (by decide) (fun h19 => ?_) (fun h19 => ?_)
    · skip
      simp only [ne_eq, nk_b0, Classical.not_not] at h19
      first | (have hW : (l = 0 ∧ 0 ≤ i.toInt ∧ i.toInt < nk_wm b) ∨ (l = 1 ∧ i = 0 ∧ 1 < nk_wm b) := h19) | (have hW : ¬ ((l = 0 ∧ 0 ≤ i.toInt ∧ i.toInt < nk_wm b) ∨ (l = 1 ∧ i = 0 ∧ 1 < nk_wm b)) := h19)
      have hB : ¬ (sp_isW m b (nI j) l i ∧ sp_R x 0 2) := fun z => by first | exact hW z.1.2 | exact hR z.2
      refine nk_ldc qX7_61 dX7_bits_32 ?_
      refine nk_ireturn dX7_bits_34 rfl ?_
      by_cases hB2 : sp_isW m b (nI j) l i
      · have hB3 : ¬ sp_R x 0 2 := fun z => hB ⟨hB2, z⟩
        exact ⟨by unfold sp_bits; rw [if_pos hB2, if_neg hB3], rfl⟩
      · exact ⟨by unfold sp_bits; rw [if_neg hB2], rfl⟩
    · skip
      simp only [ne_eq, nk_b0, Classical.not_not] at h19
      first | (have hW : (l = 0 ∧ 0 ≤ i.toInt ∧ i.toInt < nk_wm b) ∨ (l = 1 ∧ i = 0 ∧ 1 < nk_wm b) := h19) | (have hW : ¬ ((l = 0 ∧ 0 ≤ i.toInt ∧ i.toInt < nk_wm b) ∨ (l = 1 ∧ i = 0 ∧ 1 < nk_wm b)) := h19)
      refine nk_iload dX7_bits_22 rfl ?_
      refine nk_iconst (v := 0) dX7_bits_24 (by decide) ?_
      refine nk_iconst (v := 2) dX7_bits_25 (by decide) ?_
      refine nk_cSi kX7_57 (s_X7_within) dX7_bits_26 rfl rfl (by decide) (Nat.le_of_ble_eq_true rfl) ?_
      refine nk_ifne (tgt := 35) dX7_bits_29 (by decide) (fun h29 => ?_) (fun h29 => ?_)
      · skip
        simp only [ne_eq, nk_b0, Classical.not_not] at h29
        first | (have hR : sp_R x 0 2 := h29) | (have hR : ¬ sp_R x 0 2 := h29)
        have hsw : sp_w b (shF r 0) (nI j) l i = (if l = 0 then shF r 0 j (sp_n i) else sp_uw (shF r 0 j) (nk_wm b)) := by unfold sp_w; rw [hje]
        unfold sp_bits
        rw [if_pos ⟨h1, hW⟩, if_pos hR, hsw]
        refine nk_aload dX7_bits_35 rfl ?_
        refine nk_iload_n (i := 2) dX7_bits_37 rfl rfl ?_
        refine nk_iload_n (i := 3) dX7_bits_38 rfl rfl ?_
        refine nk_cVi kX7_215 (hX.i (fun H' hk => s_X2_wordAt hk hb2 hb10 hW)) dX7_bits_39 hX.o rfl rfl (by decide) (Nat.le_of_ble_eq_true rfl) ?_
        refine nk_istoreT dX7_bits_42 (by decide) ?_
        refine nk_iload dX7_bits_44 rfl ?_
        refine nk_iconst (v := 2) dX7_bits_46 (by decide) ?_
        refine nk_icmpne (tgt := 56) dX7_bits_47 (by decide) (fun h47 => ?_) (fun h47 => ?_)
        · skip
          refine nk_iload dX7_bits_56 rfl ?_
          refine nk_ifne (tgt := 69) dX7_bits_58 (by decide) (fun h58 => ?_) (fun h58 => ?_)
          · skip
            refine nk_iload dX7_bits_69 rfl ?_
            refine nk_cSi kX7_226 (s_X3_leastOf) dX7_bits_71 rfl rfl (by decide) (Nat.le_of_ble_eq_true rfl) ?_
            refine nk_ireturn dX7_bits_74 rfl ?_
            first
            | exact ⟨by rw [if_pos h58], rfl⟩
            | exact ⟨by rw [if_pos (Classical.not_not.mp h58)], rfl⟩
            | (have hx1 : x = 1 := by
                 have a1 := hR.1
                 have a2 := hR.2
                 have a3 : x.toInt ≠ 0 := fun z => h58 ((fa_eq _ _).mpr z)
                 have a4 : x.toInt ≠ 2 := fun z => h47 ((fa_eq _ _).mpr z)
                 exact (fa_eq _ _).mpr (show x.toInt = 1 by omega)
               exact ⟨by rw [if_neg h58, if_pos hx1], rfl⟩)
          · skip
            refine nk_iload dX7_bits_61 rfl ?_
            refine nk_cSi kX7_223 (s_X3_greatestOf) dX7_bits_63 rfl rfl (by decide) (Nat.le_of_ble_eq_true rfl) ?_
            refine nk_goto (tgt := 74) dX7_bits_66 (by decide) ?_
            refine nk_ireturn dX7_bits_74 rfl ?_
            first
            | exact ⟨by rw [if_pos h58], rfl⟩
            | exact ⟨by rw [if_pos (Classical.not_not.mp h58)], rfl⟩
            | (have hx1 : x = 1 := by
                 have a1 := hR.1
                 have a2 := hR.2
                 have a3 : x.toInt ≠ 0 := fun z => h58 ((fa_eq _ _).mpr z)
                 have a4 : x.toInt ≠ 2 := fun z => h47 ((fa_eq _ _).mpr z)
                 exact (fa_eq _ _).mpr (show x.toInt = 1 by omega)
               exact ⟨by rw [if_neg h58, if_pos hx1], rfl⟩)
        · skip
          refine nk_iload dX7_bits_50 rfl ?_
          refine nk_cSi kX7_218 (s_J6_bitCount_0f7a4) dX7_bits_52 rfl rfl (by decide) (Nat.le_of_ble_eq_true rfl) ?_
          refine nk_ireturn dX7_bits_55 rfl ?_
          have hx2 : x = 2 := by first | exact h47 | exact Classical.not_not.mp h47
          have hn0 : ¬ x = 0 := by rw [hx2]; decide
          have hn1 : ¬ x = 1 := by rw [hx2]; decide
          exact ⟨by rw [if_neg hn0, if_neg hn1], rfl⟩
      · skip
        simp only [ne_eq, nk_b0, Classical.not_not] at h29
        first | (have hR : sp_R x 0 2 := h29) | (have hR : ¬ sp_R x 0 2 := h29)
        have hB : ¬ (sp_isW m b (nI j) l i ∧ sp_R x 0 2) := fun z => by first | exact hW z.1.2 | exact hR z.2
        refine nk_ldc qX7_61 dX7_bits_32 ?_
        refine nk_ireturn dX7_bits_34 rfl ?_
        by_cases hB2 : sp_isW m b (nI j) l i
        · have hB3 : ¬ sp_R x 0 2 := fun z => hB ⟨hB2, z⟩
          exact ⟨by unfold sp_bits; rw [if_pos hB2, if_neg hB3], rfl⟩
        · exact ⟨by unfold sp_bits; rw [if_neg hB2], rfl⟩
  · have hset := s_setAt_n (G := G) hV (x := s) h1
    refine nk_aload_n (i := 0) dX7_bits_0 rfl rfl ?_
    refine nk_iload_n (i := 1) dX7_bits_1 rfl rfl ?_
    refine nk_cVq kX7_140 hset dX7_bits_2 hfs rfl rfl (by decide) (Nat.le_of_ble_eq_true rfl) ?_
    refine nk_J.to (st' := [.null]) ?_ rfl rfl rfl
    refine nk_astoreNT dX7_bits_5 (by decide) ?_
    refine nk_aloadN dX7_bits_7 rfl ?_
    refine nk_ifnullN (tgt := 32) dX7_bits_9 (by decide) ?_
    refine nk_ldc qX7_61 dX7_bits_32 ?_
    refine nk_ireturn dX7_bits_34 rfl ?_
    exact ⟨by unfold sp_bits; rw [if_neg (fun z => h1 z.1)], rfl⟩
set_option maxRecDepth 20000 in
theorem s_X7_share {G : nk_EG} {K : nk_AH} {o m b : Nat} {r : Nat → Int32} (hV : cV K o m b r) {s x : Int32} : nk_Si G mX7_share 15 [.ref o, .int s, .int x] K (sp_share m b (nk_mem r 0) s x) K := by
  refine nk_S.of (by decide +kernel) (Nat.le_of_ble_eq_true rfl) rfl ?_
  obtain ⟨fs, hfs⟩ := hV.o
  by_cases h1 : sp_S m s
  · skip
    obtain ⟨v1, v2, v3, v4, v5, f1, f2, q, sa, qs, ws, hV2⟩ := hV.S h1
    have hm4 := hV2.2.2.2.2.2.1
    have hb2 := hV2.2.2.2.2.2.2.1
    have hb10 := hV2.2.2.2.2.2.2.2.1
    have hV7 := hV2.2.2.2.2.2.2.2.2
    have hwm := wm_f b hb10 hb2
    obtain ⟨hj, hse⟩ := sp_n_S h1
    have hset := s_setAt_s (G := G) hV2 h1
    have hX := hV2.2.1.2.2 _ hj
    obtain ⟨hκ, hz⟩ := hV7 _ hj
    unfold sp_share
    rw [if_pos h1]
    generalize hje : sp_n s = j at *
    subst hse
    refine nk_aload_n (i := 0) dX7_share_0 rfl rfl ?_
    refine nk_iload_n (i := 1) dX7_share_1 rfl rfl ?_
    refine nk_cVq kX7_140 hset dX7_share_2 hfs rfl rfl (by decide) (Nat.le_of_ble_eq_true rfl) ?_
    refine nk_J.to (st' := [.ref (qs j)]) ?_ rfl rfl rfl
    refine nk_astore_nT (i := 3) dX7_share_5 rfl (by decide) ?_
    refine nk_aload_n (i := 3) dX7_share_6 rfl rfl ?_
    refine nk_ifnullR dX7_share_7 ?_
    refine nk_iload_n (i := 2) dX7_share_10 rfl rfl ?_
    refine nk_iconst (v := 0) dX7_share_11 (by decide) ?_
    refine nk_iconst (v := 2) dX7_share_12 (by decide) ?_
    refine nk_cSi kX7_57 (s_X7_within) dX7_share_13 rfl rfl (by decide) (Nat.le_of_ble_eq_true rfl) ?_
    refine nk_ifne (tgt := 22) dX7_share_16 (by decide) (fun h16 => ?_) (fun h16 => ?_)
    · skip
      simp only [ne_eq, nk_b0, Classical.not_not] at h16
      first | (have hR : sp_R x 0 2 := h16) | (have hR : ¬ sp_R x 0 2 := h16)
      have hct := fb_ct_le (gm (shF r 0 j)) 1024
      have hsm := sp_sum_le2 (gm (shF r 0 j)) (nk_tp b) (by omega)
      rw [if_pos hR]
      change nk_J G mX7_share 15 (nk_ri (if x = 0 then nI (fl (fb_ct (gm (shF r 0 j)) 1024) (nk_tp b)) else if fb_ct (gm (shF r 0 j)) 1024 = 0 then 0 else if x = 1 then nI (fl (sp_sum (gm (shF r 0 j)) (nk_tp b)) (fb_ct (gm (shF r 0 j)) 1024)) else nI (sp_sum (gm (shF r 0 j)) (nk_tp b) / fb_ct (gm (shF r 0 j)) 1024)) K) 0 0 22 _ [] K
      refine nk_aload_n (i := 3) dX7_share_22 rfl rfl ?_
      refine nk_cVi kX7_152 (hX.i (fun H' hk => s_X2_size hk hb2 hb10 hz)) dX7_share_23 hX.o rfl rfl (by decide) (Nat.le_of_ble_eq_true rfl) ?_
      refine nk_istoreT dX7_share_26 (by decide) ?_
      refine nk_iload dX7_share_28 rfl ?_
      refine nk_ifne (tgt := 35) dX7_share_30 (by decide) (fun h30 => ?_) (fun h30 => ?_)
      · skip
        have hc0 : 0 < fb_ct (gm (shF r 0 j)) 1024 := Nat.pos_of_ne_zero (fun e => h30 (by rw [e]; rfl))
        refine nk_iload_n (i := 2) dX7_share_35 rfl rfl ?_
        refine nk_ifne (tgt := 49) dX7_share_36 (by decide) (fun h36 => ?_) (fun h36 => ?_)
        · skip
          refine nk_iload_n (i := 2) dX7_share_49 rfl rfl ?_
          refine nk_iconst (v := 1) dX7_share_50 (by decide) ?_
          refine nk_icmpne (tgt := 66) dX7_share_51 (by decide) (fun h51 => ?_) (fun h51 => ?_)
          · skip
            refine nk_aload_n (i := 3) dX7_share_66 rfl rfl ?_
            refine nk_cVi kX7_235 (hX.i (fun H' hk => s_X2_total hk hb2 hb10)) dX7_share_67 hX.o rfl rfl (by decide) (Nat.le_of_ble_eq_true rfl) ?_
            refine nk_iload dX7_share_70 rfl ?_
            refine nk_idiv dX7_share_72 (fun e => by have := nk_ct0.mp e; omega) ?_
            refine nk_ireturn dX7_share_73 rfl ?_
            first
            | exact ⟨by rw [if_neg h36, if_neg (by omega), if_pos h51], rfl⟩
            | exact ⟨by rw [if_neg h36, if_neg (by omega), if_pos (Classical.not_not.mp h51)], rfl⟩
            | exact ⟨by rw [if_neg h36, if_neg (by omega), if_neg h51, pk_div (by omega) hc0 (by omega)], rfl⟩
          · skip
            refine nk_aload_n (i := 3) dX7_share_54 rfl rfl ?_
            refine nk_cVi kX7_235 (hX.i (fun H' hk => s_X2_total hk hb2 hb10)) dX7_share_55 hX.o rfl rfl (by decide) (Nat.le_of_ble_eq_true rfl) ?_
            refine nk_iload dX7_share_58 rfl ?_
            refine nk_cSi kX7_232 (s_X7_floatBits (by omega) (by omega) (by omega)) dX7_share_60 rfl rfl (by decide) (Nat.le_of_ble_eq_true rfl) ?_
            refine nk_goto (tgt := 73) dX7_share_63 (by decide) ?_
            refine nk_ireturn dX7_share_73 rfl ?_
            first
            | exact ⟨by rw [if_neg h36, if_neg (by omega), if_pos h51], rfl⟩
            | exact ⟨by rw [if_neg h36, if_neg (by omega), if_pos (Classical.not_not.mp h51)], rfl⟩
            | exact ⟨by rw [if_neg h36, if_neg (by omega), if_neg h51, pk_div (by omega) hc0 (by omega)], rfl⟩
        · skip
          refine nk_iload dX7_share_39 rfl ?_
          refine nk_aload_n (i := 3) dX7_share_41 rfl rfl ?_
          refine nk_getf fX7_229 dX7_share_42 hX.o rfl ?_
          refine nk_cSi kX7_232 (s_X7_floatBits (by omega) (by omega) (by omega)) dX7_share_45 rfl rfl (by decide) (Nat.le_of_ble_eq_true rfl) ?_
          refine nk_ireturn dX7_share_48 rfl ?_
          first
          | exact ⟨by rw [if_pos h36], rfl⟩
          | exact ⟨by rw [if_pos (Classical.not_not.mp h36)], rfl⟩
      · skip
        refine nk_iconst (v := 0) dX7_share_33 (by decide) ?_
        refine nk_ireturn dX7_share_34 rfl ?_
        have hc : fb_ct (gm (shF r 0 j)) 1024 = 0 := by
          first
          | exact nk_ct0.mp h30
          | exact nk_ct0.mp (Classical.not_not.mp h30)
        exact ⟨by rw [hc]; by_cases z : x = 0 <;> simp [z, fl] <;> rfl, rfl⟩
    · skip
      simp only [ne_eq, nk_b0, Classical.not_not] at h16
      first | (have hR : sp_R x 0 2 := h16) | (have hR : ¬ sp_R x 0 2 := h16)
      refine nk_ldc qX7_61 dX7_share_19 ?_
      refine nk_ireturn dX7_share_21 rfl ?_
      exact ⟨by rw [if_neg hR], rfl⟩
  · have hset := s_setAt_n (G := G) hV (x := s) h1
    refine nk_aload_n (i := 0) dX7_share_0 rfl rfl ?_
    refine nk_iload_n (i := 1) dX7_share_1 rfl rfl ?_
    refine nk_cVq kX7_140 hset dX7_share_2 hfs rfl rfl (by decide) (Nat.le_of_ble_eq_true rfl) ?_
    refine nk_J.to (st' := [.null]) ?_ rfl rfl rfl
    refine nk_astore_nNT (i := 3) dX7_share_5 rfl (by decide) ?_
    refine nk_aload_nN (i := 3) dX7_share_6 rfl rfl ?_
    refine nk_ifnullN (tgt := 19) dX7_share_7 (by decide) ?_
    refine nk_ldc qX7_61 dX7_share_19 ?_
    refine nk_ireturn dX7_share_21 rfl ?_
    exact ⟨by unfold sp_share; rw [if_neg h1], rfl⟩
set_option maxRecDepth 20000 in
theorem s_X7_gap {G : nk_EG} {K : nk_AH} {o m b : Nat} {r : Nat → Int32} (hV : cV K o m b r) {s x : Int32} : nk_Si G mX7_gap 15 [.ref o, .int s, .int x] K (sp_gap m b (nk_mem r 0) s x) K := by
  refine nk_S.of (by decide +kernel) (Nat.le_of_ble_eq_true rfl) rfl ?_
  obtain ⟨fs, hfs⟩ := hV.o
  by_cases h1 : sp_S m s
  · skip
    obtain ⟨v1, v2, v3, v4, v5, f1, f2, q, sa, qs, ws, hV2⟩ := hV.S h1
    have hm4 := hV2.2.2.2.2.2.1
    have hb2 := hV2.2.2.2.2.2.2.1
    have hb10 := hV2.2.2.2.2.2.2.2.1
    have hV7 := hV2.2.2.2.2.2.2.2.2
    have hwm := wm_f b hb10 hb2
    obtain ⟨hj, hse⟩ := sp_n_S h1
    have hset := s_setAt_s (G := G) hV2 h1
    have hX := hV2.2.1.2.2 _ hj
    obtain ⟨hκ, hz⟩ := hV7 _ hj
    unfold sp_gap
    rw [if_pos h1]
    generalize hje : sp_n s = j at *
    subst hse
    refine nk_aload_n (i := 0) dX7_gap_0 rfl rfl ?_
    refine nk_iload_n (i := 1) dX7_gap_1 rfl rfl ?_
    refine nk_cVq kX7_140 hset dX7_gap_2 hfs rfl rfl (by decide) (Nat.le_of_ble_eq_true rfl) ?_
    refine nk_J.to (st' := [.ref (qs j)]) ?_ rfl rfl rfl
    refine nk_astore_nT (i := 3) dX7_gap_5 rfl (by decide) ?_
    refine nk_aload_n (i := 3) dX7_gap_6 rfl rfl ?_
    refine nk_ifnullR dX7_gap_7 ?_
    refine nk_iload_n (i := 2) dX7_gap_10 rfl rfl ?_
    refine nk_iconst (v := 0) dX7_gap_11 (by decide) ?_
    refine nk_iconst (v := 1) dX7_gap_12 (by decide) ?_
    refine nk_cSi kX7_57 (s_X7_within) dX7_gap_13 rfl rfl (by decide) (Nat.le_of_ble_eq_true rfl) ?_
    refine nk_ifne (tgt := 22) dX7_gap_16 (by decide) (fun h16 => ?_) (fun h16 => ?_)
    · skip
      simp only [ne_eq, nk_b0, Classical.not_not] at h16
      first | (have hR : sp_R x 0 1 := h16) | (have hR : ¬ sp_R x 0 1 := h16)
      rw [if_pos hR]
      change nk_J G mX7_gap 15 (nk_ri (if x = 0 ∨ (sp_gp0 (gm (shF r 0 j)) (nk_tp b)).2 = none then nk_rN (sp_gp0 (gm (shF r 0 j)) (nk_tp b)).2 else nI (sp_gp0 (gm (shF r 0 j)) (nk_tp b)).1) K) 0 0 22 _ [] K
      have hgl : ∀ g, (sp_gp0 (gm (shF r 0 j)) (nk_tp b)).2 = some g → g < nk_tp b ∧ ∃ u, sp_abv (gm (shF r 0 j)) (nk_tp b) g = some u ∧ (sp_gp0 (gm (shF r 0 j)) (nk_tp b)).1 = u - g ∧ g < u ∧ u < nk_tp b := fun g hg => by
        obtain ⟨u, e1, e2⟩ := sp_gp0_inv hg
        obtain ⟨z1, z2, -⟩ := nk_up_lt e1
        exact ⟨by omega, u, e1, e2, by omega, by omega⟩
      have hnn := nk_rN_none (r := (sp_gp0 (gm (shF r 0 j)) (nk_tp b)).2) (fun g hg => by have := (hgl g hg).1; omega)
      refine nk_aload_n (i := 3) dX7_gap_22 rfl rfl ?_
      refine nk_cVi kX7_255 (hX.i (fun H' hk => s_X2_widestFrom hk hb2 hb10 hz)) dX7_gap_23 hX.o rfl rfl (by decide) (Nat.le_of_ble_eq_true rfl) ?_
      refine nk_istoreT dX7_gap_26 (by decide) ?_
      refine nk_iload dX7_gap_28 rfl ?_
      refine nk_ldc qX7_247 dX7_gap_30 ?_
      refine nk_icmpeq (tgt := 39) dX7_gap_32 (by decide) (fun h32 => ?_) (fun h32 => ?_)
      · skip
        refine nk_iload dX7_gap_39 rfl ?_
        refine nk_goto (tgt := 55) dX7_gap_41 (by decide) ?_
        refine nk_ireturn dX7_gap_55 rfl ?_
        first
        | exact ⟨by rw [if_pos (Or.inr (hnn.mp h32))], rfl⟩
        | exact ⟨by rw [if_pos (Or.inl h36)], rfl⟩
        | exact ⟨by rw [if_pos (Or.inl (Classical.not_not.mp h36))], rfl⟩
        | (have ef : nk_up (gm (shF r 0 j)) (g + 1) (nk_tp b - (g + 1)) = some u := g2
           exact ⟨by rw [if_neg (fun z => z.elim h36 (fun y => by cases y)), ef, g3]; exact congrArg (fun z => some (Value.int z)) (pk_sub (by omega)), rfl⟩)
      · skip
        refine nk_iload_n (i := 2) dX7_gap_35 rfl rfl ?_
        refine nk_ifne (tgt := 44) dX7_gap_36 (by decide) (fun h36 => ?_) (fun h36 => ?_)
        · skip
          have hne : ¬ (sp_gp0 (gm (shF r 0 j)) (nk_tp b)).2 = none := fun z => h32 (hnn.mpr z)
          obtain ⟨g, hg⟩ := Option.ne_none_iff_exists'.mp hne
          obtain ⟨g1, u, g2, g3, g4, g5⟩ := hgl g hg
          rw [hg] at *
          show nk_J G mX7_gap 15 _ 0 0 44 _ [] K
          refine nk_aload_n (i := 3) dX7_gap_44 rfl rfl ?_
          refine nk_iload dX7_gap_45 rfl ?_
          refine nk_iconst (v := 1) dX7_gap_47 (by decide) ?_
          refine nk_iadd dX7_gap_48 ?_
          refine nk_top (y := nI (g + 1)) (nI_1 g) ?_
          refine nk_cVi kX7_176 (hX.i (fun H' hk => s_X2_from hk hb2 hb10 hz (k := g + 1) (by omega))) dX7_gap_49 hX.o rfl rfl (by decide) (Nat.le_of_ble_eq_true rfl) ?_
          refine nk_iload dX7_gap_52 rfl ?_
          refine nk_isub dX7_gap_54 ?_
          refine nk_ireturn dX7_gap_55 rfl ?_
          first
          | exact ⟨by rw [if_pos (Or.inr (hnn.mp h32))], rfl⟩
          | exact ⟨by rw [if_pos (Or.inl h36)], rfl⟩
          | exact ⟨by rw [if_pos (Or.inl (Classical.not_not.mp h36))], rfl⟩
          | (have ef : nk_up (gm (shF r 0 j)) (g + 1) (nk_tp b - (g + 1)) = some u := g2
             exact ⟨by rw [if_neg (fun z => z.elim h36 (fun y => by cases y)), ef, g3]; exact congrArg (fun z => some (Value.int z)) (pk_sub (by omega)), rfl⟩)
        · skip
          refine nk_iload dX7_gap_39 rfl ?_
          refine nk_goto (tgt := 55) dX7_gap_41 (by decide) ?_
          refine nk_ireturn dX7_gap_55 rfl ?_
          first
          | exact ⟨by rw [if_pos (Or.inr (hnn.mp h32))], rfl⟩
          | exact ⟨by rw [if_pos (Or.inl h36)], rfl⟩
          | exact ⟨by rw [if_pos (Or.inl (Classical.not_not.mp h36))], rfl⟩
          | (have ef : nk_up (gm (shF r 0 j)) (g + 1) (nk_tp b - (g + 1)) = some u := g2
             exact ⟨by rw [if_neg (fun z => z.elim h36 (fun y => by cases y)), ef, g3]; exact congrArg (fun z => some (Value.int z)) (pk_sub (by omega)), rfl⟩)
    · skip
      simp only [ne_eq, nk_b0, Classical.not_not] at h16
      first | (have hR : sp_R x 0 1 := h16) | (have hR : ¬ sp_R x 0 1 := h16)
      refine nk_ldc qX7_61 dX7_gap_19 ?_
      refine nk_ireturn dX7_gap_21 rfl ?_
      exact ⟨by rw [if_neg hR], rfl⟩
  · have hset := s_setAt_n (G := G) hV (x := s) h1
    refine nk_aload_n (i := 0) dX7_gap_0 rfl rfl ?_
    refine nk_iload_n (i := 1) dX7_gap_1 rfl rfl ?_
    refine nk_cVq kX7_140 hset dX7_gap_2 hfs rfl rfl (by decide) (Nat.le_of_ble_eq_true rfl) ?_
    refine nk_J.to (st' := [.null]) ?_ rfl rfl rfl
    refine nk_astore_nNT (i := 3) dX7_gap_5 rfl (by decide) ?_
    refine nk_aload_nN (i := 3) dX7_gap_6 rfl rfl ?_
    refine nk_ifnullN (tgt := 19) dX7_gap_7 (by decide) ?_
    refine nk_ldc qX7_61 dX7_gap_19 ?_
    refine nk_ireturn dX7_gap_21 rfl ?_
    exact ⟨by unfold sp_gap; rw [if_neg h1], rfl⟩

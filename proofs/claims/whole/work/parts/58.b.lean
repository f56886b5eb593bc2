/-! the class: what one set tells -/
set_option maxRecDepth 20000 in
theorem s_X7_contains {G : nk_EG} {K : nk_AH} {o m b : Nat} {r : Nat → Int32} (hV : cV K o m b r) {s k : Int32} : nk_Si G mX7_contains 15 [.ref o, .int s, .int k] K (sp_contains m b (nk_mem r 0) s k) K := by
  refine nk_S.of (by decide +kernel) (Nat.le_of_ble_eq_true rfl) rfl ?_
  obtain ⟨fs, hfs⟩ := hV.o
  by_cases h1 : sp_S m s
  · by_cases h2 : sp_K b k
    · skip
      obtain ⟨v1, v2, v3, v4, v5, f1, f2, q, sa, qs, ws, hV2⟩ := hV.S h1
      have hm4 := hV2.2.2.2.2.2.1
      have hb2 := hV2.2.2.2.2.2.2.1
      have hb10 := hV2.2.2.2.2.2.2.2.1
      have hV7 := hV2.2.2.2.2.2.2.2.2
      have hwm := wm_f b hb10 hb2
      obtain ⟨hj, hse⟩ := sp_n_S h1
      obtain ⟨hkt, hke⟩ := sp_n_K h2
      unfold sp_contains
      rw [if_pos h1, if_pos h2]
      have hset := s_setWith_s (G := G) hV2 h1 h2
      have hX := hV2.2.1.2.2 _ hj
      obtain ⟨hκ, hz⟩ := hV7 _ hj
      generalize hje : sp_n s = j at *
      generalize hk1 : sp_n k = k1 at *
      subst hse
      subst hke
      change nk_J G mX7_contains 15 (nk_ri (if gm (shF r 0 j) k1 = true then 1 else 0) K) 0 0 0 _ [] K
      refine nk_aload_n (i := 0) dX7_contains_0 rfl rfl ?_
      refine nk_iload_n (i := 1) dX7_contains_1 rfl rfl ?_
      refine nk_iload_n (i := 2) dX7_contains_2 rfl rfl ?_
      refine nk_cVq kX7_124 hset dX7_contains_3 hfs rfl rfl (by decide) (Nat.le_of_ble_eq_true rfl) ?_
      refine nk_J.to (st' := [.ref (qs j)]) ?_ rfl rfl rfl
      refine nk_astore_nT (i := 3) dX7_contains_6 rfl (by decide) ?_
      refine nk_aload_n (i := 3) dX7_contains_7 rfl rfl ?_
      refine nk_ifnonnullR (tgt := 14) dX7_contains_8 (by decide) ?_
      refine nk_aload_n (i := 3) dX7_contains_14 rfl rfl ?_
      refine nk_iload_n (i := 2) dX7_contains_15 rfl rfl ?_
      refine nk_cVi kX7_128 (hX.i (fun H' hk => s_X2_holds hk hb2 hb10 (k := k1) hkt)) dX7_contains_16 hX.o rfl rfl (by decide) (Nat.le_of_ble_eq_true rfl) ?_
      refine nk_ifeq (tgt := 26) dX7_contains_19 (by decide) (fun h19 => ?_) (fun h19 => ?_)
      · skip
        simp only [nk_b0, Classical.not_not] at h19
        refine nk_iconst (v := 0) dX7_contains_26 (by decide) ?_
        refine nk_ireturn dX7_contains_27 rfl ?_
        first
        | exact ⟨by rw [if_neg h19], rfl⟩
        | exact ⟨by rw [if_pos h19], rfl⟩
      · skip
        simp only [nk_b0, Classical.not_not] at h19
        refine nk_iconst (v := 1) dX7_contains_22 (by decide) ?_
        refine nk_goto (tgt := 27) dX7_contains_23 (by decide) ?_
        refine nk_ireturn dX7_contains_27 rfl ?_
        first
        | exact ⟨by rw [if_neg h19], rfl⟩
        | exact ⟨by rw [if_pos h19], rfl⟩
    · have hset := s_setWith_n (G := G) hV (x := s) (y := k) (fun z => h2 z.2)
      refine nk_aload_n (i := 0) dX7_contains_0 rfl rfl ?_
      refine nk_iload_n (i := 1) dX7_contains_1 rfl rfl ?_
      refine nk_iload_n (i := 2) dX7_contains_2 rfl rfl ?_
      refine nk_cVq kX7_124 hset dX7_contains_3 hfs rfl rfl (by decide) (Nat.le_of_ble_eq_true rfl) ?_
      refine nk_J.to (st' := [.null]) ?_ rfl rfl rfl
      refine nk_astore_nNT (i := 3) dX7_contains_6 rfl (by decide) ?_
      refine nk_aload_nN (i := 3) dX7_contains_7 rfl rfl ?_
      refine nk_ifnonnullN dX7_contains_8 ?_
      refine nk_ldc qX7_61 dX7_contains_11 ?_
      refine nk_ireturn dX7_contains_13 rfl ?_
      exact ⟨by unfold sp_contains; rw [if_pos h1, if_neg h2], rfl⟩
  · have hset := s_setWith_n (G := G) hV (x := s) (y := k) (fun z => h1 z.1)
    refine nk_aload_n (i := 0) dX7_contains_0 rfl rfl ?_
    refine nk_iload_n (i := 1) dX7_contains_1 rfl rfl ?_
    refine nk_iload_n (i := 2) dX7_contains_2 rfl rfl ?_
    refine nk_cVq kX7_124 hset dX7_contains_3 hfs rfl rfl (by decide) (Nat.le_of_ble_eq_true rfl) ?_
    refine nk_J.to (st' := [.null]) ?_ rfl rfl rfl
    refine nk_astore_nNT (i := 3) dX7_contains_6 rfl (by decide) ?_
    refine nk_aload_nN (i := 3) dX7_contains_7 rfl rfl ?_
    refine nk_ifnonnullN dX7_contains_8 ?_
    refine nk_ldc qX7_61 dX7_contains_11 ?_
    refine nk_ireturn dX7_contains_13 rfl ?_
    exact ⟨by unfold sp_contains; rw [if_neg h1], rfl⟩
set_option maxRecDepth 20000 in
theorem s_X7_keys {G : nk_EG} {K : nk_AH} {o m b : Nat} {r : Nat → Int32} (hV : cV K o m b r) {s : Int32} : nk_Si G mX7_keys 15 [.ref o, .int s] K (sp_keys m (nk_mem r 0) s) K := by
  refine nk_S.of (by decide +kernel) (Nat.le_of_ble_eq_true rfl) rfl ?_
  obtain ⟨fs, hfs⟩ := hV.o
  by_cases h1 : sp_S m s
  · skip
    obtain ⟨v1, v2, v3, v4, v5, f1, f2, q, sa, qs, ws, hV2⟩ := hV.S h1
    have hm4 := hV2.2.2.2.2.2.1
    have hb2 := hV2.2.2.2.2.2.2.1
    have hb10 := hV2.2.2.2.2.2.2.2.1
    have hV7 := hV2.2.2.2.2.2.2.2.2
    have hwm := wm_f b hb10 hb2
    obtain ⟨hj, hse⟩ := sp_n_S h1
    unfold sp_keys
    rw [if_pos h1]
    have hset := s_setAt_s (G := G) hV2 h1
    have hX := hV2.2.1.2.2 _ hj
    obtain ⟨hκ, hz⟩ := hV7 _ hj
    generalize hje : sp_n s = j at *
    subst hse
    refine nk_aload_n (i := 0) dX7_keys_0 rfl rfl ?_
    refine nk_iload_n (i := 1) dX7_keys_1 rfl rfl ?_
    refine nk_cVq kX7_140 hset dX7_keys_2 hfs rfl rfl (by decide) (Nat.le_of_ble_eq_true rfl) ?_
    refine nk_J.to (st' := [.ref (qs j)]) ?_ rfl rfl rfl
    refine nk_astore_nT (i := 2) dX7_keys_5 rfl (by decide) ?_
    refine nk_aload_n (i := 2) dX7_keys_6 rfl rfl ?_
    refine nk_ifnonnullR (tgt := 15) dX7_keys_7 (by decide) ?_
    refine nk_aload_n (i := 2) dX7_keys_15 rfl rfl ?_
    refine nk_cVi kX7_152 (hX.i (fun H' hk => s_X2_size hk hb2 hb10 hz)) dX7_keys_16 hX.o rfl rfl (by decide) (Nat.le_of_ble_eq_true rfl) ?_
    refine nk_ireturn dX7_keys_19 rfl ?_
    exact ⟨rfl, rfl⟩
  · have hset := s_setAt_n (G := G) hV (x := s) h1
    refine nk_aload_n (i := 0) dX7_keys_0 rfl rfl ?_
    refine nk_iload_n (i := 1) dX7_keys_1 rfl rfl ?_
    refine nk_cVq kX7_140 hset dX7_keys_2 hfs rfl rfl (by decide) (Nat.le_of_ble_eq_true rfl) ?_
    refine nk_J.to (st' := [.null]) ?_ rfl rfl rfl
    refine nk_astore_nNT (i := 2) dX7_keys_5 rfl (by decide) ?_
    refine nk_aload_nN (i := 2) dX7_keys_6 rfl rfl ?_
    refine nk_ifnonnullN dX7_keys_7 ?_
    refine nk_ldc qX7_61 dX7_keys_10 ?_
    refine nk_goto (tgt := 19) dX7_keys_12 (by decide) ?_
    refine nk_ireturn dX7_keys_19 rfl ?_
    exact ⟨by unfold sp_keys; rw [if_neg h1], rfl⟩
set_option maxRecDepth 20000 in
theorem s_X7_end {G : nk_EG} {K : nk_AH} {o m b : Nat} {r : Nat → Int32} (hV : cV K o m b r) {s x : Int32} : nk_Si G mX7_end 15 [.ref o, .int s, .int x] K (sp_end m b (nk_mem r 0) s x) K := by
  refine nk_S.of (by decide +kernel) (Nat.le_of_ble_eq_true rfl) rfl ?_
  obtain ⟨fs, hfs⟩ := hV.o
  by_cases h1 : sp_S m s
  · skip
    obtain ⟨v1, v2, v3, v4, v5, f1, f2, q, sa, qs, ws, hV2⟩ := hV.S h1
    have hm4 := hV2.2.2.2.2.2.1
    have hb2 := hV2.2.2.2.2.2.2.1
    have hb10 := hV2.2.2.2.2.2.2.2.1
    have hV7 := hV2.2.2.2.2.2.2.2.2
    have hwm := wm_f b hb10 hb2
    obtain ⟨hj, hse⟩ := sp_n_S h1
    unfold sp_end
    rw [if_pos h1]
    have hset := s_setAt_s (G := G) hV2 h1
    have hX := hV2.2.1.2.2 _ hj
    obtain ⟨hκ, hz⟩ := hV7 _ hj
    generalize hje : sp_n s = j at *
    subst hse
    refine nk_aload_n (i := 0) dX7_end_0 rfl rfl ?_
    refine nk_iload_n (i := 1) dX7_end_1 rfl rfl ?_
    refine nk_cVq kX7_140 hset dX7_end_2 hfs rfl rfl (by decide) (Nat.le_of_ble_eq_true rfl) ?_
    refine nk_J.to (st' := [.ref (qs j)]) ?_ rfl rfl rfl
    refine nk_astore_nT (i := 3) dX7_end_5 rfl (by decide) ?_
    refine nk_aload_n (i := 3) dX7_end_6 rfl rfl ?_
    refine nk_ifnullR dX7_end_7 ?_
    refine nk_iload_n (i := 2) dX7_end_10 rfl rfl ?_
    refine nk_iconst (v := 0) dX7_end_11 (by decide) ?_
    refine nk_iconst (v := 1) dX7_end_12 (by decide) ?_
    refine nk_cSi kX7_57 (s_X7_within) dX7_end_13 rfl rfl (by decide) (Nat.le_of_ble_eq_true rfl) ?_
    refine nk_ifne (tgt := 22) dX7_end_16 (by decide) (fun h16 => ?_) (fun h16 => ?_)
    · skip
      simp only [ne_eq, nk_b0, Classical.not_not] at h16
      first | (have hR : sp_R x 0 1 := h16) | (have hR : ¬ sp_R x 0 1 := h16)
      refine nk_iload_n (i := 2) dX7_end_22 rfl rfl ?_
      refine nk_ifne (tgt := 33) dX7_end_23 (by decide) (fun h23 => ?_) (fun h23 => ?_)
      · skip
        refine nk_aload_n (i := 3) dX7_end_33 rfl rfl ?_
        refine nk_cVi kX7_170 (hX.i (fun H' hk => s_X2_greatest hk hb2 hb10)) dX7_end_34 hX.o rfl rfl (by decide) (Nat.le_of_ble_eq_true rfl) ?_
        refine nk_ireturn dX7_end_37 rfl ?_
        first
        | exact ⟨by rw [if_neg hR], rfl⟩
        | exact ⟨by rw [if_pos hR, if_pos h23]; rfl, rfl⟩
        | exact ⟨by rw [if_pos hR, if_neg h23]; rfl, rfl⟩
        | exact ⟨by rw [if_pos hR, if_pos (Classical.not_not.mp h23)]; rfl, rfl⟩
      · skip
        refine nk_aload_n (i := 3) dX7_end_26 rfl rfl ?_
        refine nk_cVi kX7_167 (hX.i (fun H' hk => s_X2_least hk hb2 hb10 hz)) dX7_end_27 hX.o rfl rfl (by decide) (Nat.le_of_ble_eq_true rfl) ?_
        refine nk_goto (tgt := 37) dX7_end_30 (by decide) ?_
        refine nk_ireturn dX7_end_37 rfl ?_
        first
        | exact ⟨by rw [if_neg hR], rfl⟩
        | exact ⟨by rw [if_pos hR, if_pos h23]; rfl, rfl⟩
        | exact ⟨by rw [if_pos hR, if_neg h23]; rfl, rfl⟩
        | exact ⟨by rw [if_pos hR, if_pos (Classical.not_not.mp h23)]; rfl, rfl⟩
    · skip
      simp only [ne_eq, nk_b0, Classical.not_not] at h16
      first | (have hR : sp_R x 0 1 := h16) | (have hR : ¬ sp_R x 0 1 := h16)
      refine nk_ldc qX7_61 dX7_end_19 ?_
      refine nk_ireturn dX7_end_21 rfl ?_
      first
      | exact ⟨by rw [if_neg hR], rfl⟩
      | exact ⟨by rw [if_pos hR, if_pos h23]; rfl, rfl⟩
      | exact ⟨by rw [if_pos hR, if_neg h23]; rfl, rfl⟩
      | exact ⟨by rw [if_pos hR, if_pos (Classical.not_not.mp h23)]; rfl, rfl⟩
  · have hset := s_setAt_n (G := G) hV (x := s) h1
    refine nk_aload_n (i := 0) dX7_end_0 rfl rfl ?_
    refine nk_iload_n (i := 1) dX7_end_1 rfl rfl ?_
    refine nk_cVq kX7_140 hset dX7_end_2 hfs rfl rfl (by decide) (Nat.le_of_ble_eq_true rfl) ?_
    refine nk_J.to (st' := [.null]) ?_ rfl rfl rfl
    refine nk_astore_nNT (i := 3) dX7_end_5 rfl (by decide) ?_
    refine nk_aload_nN (i := 3) dX7_end_6 rfl rfl ?_
    refine nk_ifnullN (tgt := 19) dX7_end_7 (by decide) ?_
    refine nk_ldc qX7_61 dX7_end_19 ?_
    refine nk_ireturn dX7_end_21 rfl ?_
    exact ⟨by unfold sp_end; rw [if_neg h1], rfl⟩
set_option maxRecDepth 20000 in
theorem s_X7_next {G : nk_EG} {K : nk_AH} {o m b : Nat} {r : Nat → Int32} (hV : cV K o m b r) {s k : Int32} : nk_Si G mX7_next 15 [.ref o, .int s, .int k] K (sp_next m b (nk_mem r 0) (shK r 0) s k) K := by
  refine nk_S.of (by decide +kernel) (Nat.le_of_ble_eq_true rfl) rfl ?_
  obtain ⟨fs, hfs⟩ := hV.o
  by_cases h1 : sp_S m s
  · by_cases h2 : sp_K b k
    · skip
      obtain ⟨v1, v2, v3, v4, v5, f1, f2, q, sa, qs, ws, hV2⟩ := hV.S h1
      have hm4 := hV2.2.2.2.2.2.1
      have hb2 := hV2.2.2.2.2.2.2.1
      have hb10 := hV2.2.2.2.2.2.2.2.1
      have hV7 := hV2.2.2.2.2.2.2.2.2
      have hwm := wm_f b hb10 hb2
      obtain ⟨hj, hse⟩ := sp_n_S h1
      obtain ⟨hkt, hke⟩ := sp_n_K h2
      unfold sp_next
      rw [if_pos h1, if_pos h2]
      have hset := s_setWith_s (G := G) hV2 h1 h2
      have hX := hV2.2.1.2.2 _ hj
      obtain ⟨hκ, hz⟩ := hV7 _ hj
      generalize hje : sp_n s = j at *
      generalize hk1 : sp_n k = k1 at *
      subst hse
      subst hke
      refine nk_aload_n (i := 0) dX7_next_0 rfl rfl ?_
      refine nk_iload_n (i := 1) dX7_next_1 rfl rfl ?_
      refine nk_iload_n (i := 2) dX7_next_2 rfl rfl ?_
      refine nk_cVq kX7_124 hset dX7_next_3 hfs rfl rfl (by decide) (Nat.le_of_ble_eq_true rfl) ?_
      refine nk_J.to (st' := [.ref (qs j)]) ?_ rfl rfl rfl
      refine nk_astore_nT (i := 3) dX7_next_6 rfl (by decide) ?_
      refine nk_aload_n (i := 3) dX7_next_7 rfl rfl ?_
      refine nk_ifnonnullR (tgt := 16) dX7_next_8 (by decide) ?_
      refine nk_aload_n (i := 3) dX7_next_16 rfl rfl ?_
      refine nk_iload_n (i := 2) dX7_next_17 rfl rfl ?_
      refine nk_cVi kX7_173 (hX.i (fun H' hk => s_X2_following hk hb2 hb10 hz (k := k1) hkt)) dX7_next_18 hX.o rfl rfl (by decide) (Nat.le_of_ble_eq_true rfl) ?_
      refine nk_ireturn dX7_next_21 rfl ?_
      exact ⟨rfl, rfl⟩
    · have hset := s_setWith_n (G := G) hV (x := s) (y := k) (fun z => h2 z.2)
      refine nk_aload_n (i := 0) dX7_next_0 rfl rfl ?_
      refine nk_iload_n (i := 1) dX7_next_1 rfl rfl ?_
      refine nk_iload_n (i := 2) dX7_next_2 rfl rfl ?_
      refine nk_cVq kX7_124 hset dX7_next_3 hfs rfl rfl (by decide) (Nat.le_of_ble_eq_true rfl) ?_
      refine nk_J.to (st' := [.null]) ?_ rfl rfl rfl
      refine nk_astore_nNT (i := 3) dX7_next_6 rfl (by decide) ?_
      refine nk_aload_nN (i := 3) dX7_next_7 rfl rfl ?_
      refine nk_ifnonnullN dX7_next_8 ?_
      refine nk_ldc qX7_61 dX7_next_11 ?_
      refine nk_goto (tgt := 21) dX7_next_13 (by decide) ?_
      refine nk_ireturn dX7_next_21 rfl ?_
      exact ⟨by unfold sp_next; rw [if_pos h1, if_neg h2], rfl⟩
  · have hset := s_setWith_n (G := G) hV (x := s) (y := k) (fun z => h1 z.1)
    refine nk_aload_n (i := 0) dX7_next_0 rfl rfl ?_
    refine nk_iload_n (i := 1) dX7_next_1 rfl rfl ?_
    refine nk_iload_n (i := 2) dX7_next_2 rfl rfl ?_
    refine nk_cVq kX7_124 hset dX7_next_3 hfs rfl rfl (by decide) (Nat.le_of_ble_eq_true rfl) ?_
    refine nk_J.to (st' := [.null]) ?_ rfl rfl rfl
    refine nk_astore_nNT (i := 3) dX7_next_6 rfl (by decide) ?_
    refine nk_aload_nN (i := 3) dX7_next_7 rfl rfl ?_
    refine nk_ifnonnullN dX7_next_8 ?_
    refine nk_ldc qX7_61 dX7_next_11 ?_
    refine nk_goto (tgt := 21) dX7_next_13 (by decide) ?_
    refine nk_ireturn dX7_next_21 rfl ?_
    exact ⟨by unfold sp_next; rw [if_neg h1], rfl⟩
set_option maxRecDepth 20000 in
theorem s_X7_beside {G : nk_EG} {K : nk_AH} {o m b : Nat} {r : Nat → Int32} (hV : cV K o m b r) {s k x : Int32} : nk_Si G mX7_beside 15 [.ref o, .int s, .int k, .int x] K (sp_beside m b (nk_mem r 0) s k x) K := by
  refine nk_S.of (by decide +kernel) (Nat.le_of_ble_eq_true rfl) rfl ?_
  obtain ⟨fs, hfs⟩ := hV.o
  by_cases h1 : sp_S m s
  · by_cases h2 : sp_K b k
    · skip
      obtain ⟨v1, v2, v3, v4, v5, f1, f2, q, sa, qs, ws, hV2⟩ := hV.S h1
      have hm4 := hV2.2.2.2.2.2.1
      have hb2 := hV2.2.2.2.2.2.2.1
      have hb10 := hV2.2.2.2.2.2.2.2.1
      have hV7 := hV2.2.2.2.2.2.2.2.2
      have hwm := wm_f b hb10 hb2
      obtain ⟨hj, hse⟩ := sp_n_S h1
      obtain ⟨hkt, hke⟩ := sp_n_K h2
      unfold sp_beside
      rw [if_pos h1, if_pos h2]
      have hset := s_setWith_s (G := G) hV2 h1 h2
      have hX := hV2.2.1.2.2 _ hj
      obtain ⟨hκ, hz⟩ := hV7 _ hj
      generalize hje : sp_n s = j at *
      generalize hk1 : sp_n k = k1 at *
      subst hse
      subst hke
      refine nk_aload_n (i := 0) dX7_beside_0 rfl rfl ?_
      refine nk_iload_n (i := 1) dX7_beside_1 rfl rfl ?_
      refine nk_iload_n (i := 2) dX7_beside_2 rfl rfl ?_
      refine nk_cVq kX7_124 hset dX7_beside_3 hfs rfl rfl (by decide) (Nat.le_of_ble_eq_true rfl) ?_
      refine nk_J.to (st' := [.ref (qs j)]) ?_ rfl rfl rfl
      refine nk_astoreT dX7_beside_6 (by decide) ?_
      refine nk_aload dX7_beside_8 rfl ?_
      refine nk_ifnullR dX7_beside_10 ?_
      refine nk_iload_n (i := 3) dX7_beside_13 rfl rfl ?_
      refine nk_iconst (v := 0) dX7_beside_14 (by decide) ?_
      refine nk_iconst (v := 1) dX7_beside_15 (by decide) ?_
      refine nk_cSi kX7_57 (s_X7_within) dX7_beside_16 rfl rfl (by decide) (Nat.le_of_ble_eq_true rfl) ?_
      refine nk_ifne (tgt := 25) dX7_beside_19 (by decide) (fun h19 => ?_) (fun h19 => ?_)
      · skip
        simp only [ne_eq, nk_b0, Classical.not_not] at h19
        first | (have hR : sp_R x 0 1 := h19) | (have hR : ¬ sp_R x 0 1 := h19)
        refine nk_iload_n (i := 3) dX7_beside_25 rfl rfl ?_
        refine nk_ifne (tgt := 40) dX7_beside_26 (by decide) (fun h26 => ?_) (fun h26 => ?_)
        · skip
          refine nk_aload dX7_beside_40 rfl ?_
          refine nk_iload_n (i := 2) dX7_beside_42 rfl rfl ?_
          refine nk_iconst (v := 1) dX7_beside_43 (by decide) ?_
          refine nk_isub dX7_beside_44 ?_
          refine nk_cVi kX7_179 (hX.i (fun H' hk => s_X2_upTo hk hb2 hb10 (a := k1) (by omega))) dX7_beside_45 hX.o rfl rfl (by decide) (Nat.le_of_ble_eq_true rfl) ?_
          refine nk_ireturn dX7_beside_48 rfl ?_
          first
          | exact ⟨by rw [if_neg hR], rfl⟩
          | exact ⟨by rw [if_pos hR, if_pos h26]; rfl, rfl⟩
          | exact ⟨by rw [if_pos hR, if_neg h26]; rfl, rfl⟩
          | exact ⟨by rw [if_pos hR, if_pos (Classical.not_not.mp h26)]; rfl, rfl⟩
        · skip
          refine nk_aload dX7_beside_29 rfl ?_
          refine nk_iload_n (i := 2) dX7_beside_31 rfl rfl ?_
          refine nk_iconst (v := 1) dX7_beside_32 (by decide) ?_
          refine nk_iadd dX7_beside_33 ?_
          refine nk_top (y := nI (k1 + 1)) (nI_1 k1) ?_
          refine nk_cVi kX7_176 (hX.i (fun H' hk => s_X2_from hk hb2 hb10 hz (k := k1 + 1) (by omega))) dX7_beside_34 hX.o rfl rfl (by decide) (Nat.le_of_ble_eq_true rfl) ?_
          refine nk_goto (tgt := 48) dX7_beside_37 (by decide) ?_
          refine nk_ireturn dX7_beside_48 rfl ?_
          first
          | exact ⟨by rw [if_neg hR], rfl⟩
          | exact ⟨by rw [if_pos hR, if_pos h26]; rfl, rfl⟩
          | exact ⟨by rw [if_pos hR, if_neg h26]; rfl, rfl⟩
          | exact ⟨by rw [if_pos hR, if_pos (Classical.not_not.mp h26)]; rfl, rfl⟩
      · skip
        simp only [ne_eq, nk_b0, Classical.not_not] at h19
        first | (have hR : sp_R x 0 1 := h19) | (have hR : ¬ sp_R x 0 1 := h19)
        refine nk_ldc qX7_61 dX7_beside_22 ?_
        refine nk_ireturn dX7_beside_24 rfl ?_
        first
        | exact ⟨by rw [if_neg hR], rfl⟩
        | exact ⟨by rw [if_pos hR, if_pos h26]; rfl, rfl⟩
        | exact ⟨by rw [if_pos hR, if_neg h26]; rfl, rfl⟩
        | exact ⟨by rw [if_pos hR, if_pos (Classical.not_not.mp h26)]; rfl, rfl⟩
    · have hset := s_setWith_n (G := G) hV (x := s) (y := k) (fun z => h2 z.2)
      refine nk_aload_n (i := 0) dX7_beside_0 rfl rfl ?_
      refine nk_iload_n (i := 1) dX7_beside_1 rfl rfl ?_
      refine nk_iload_n (i := 2) dX7_beside_2 rfl rfl ?_
      refine nk_cVq kX7_124 hset dX7_beside_3 hfs rfl rfl (by decide) (Nat.le_of_ble_eq_true rfl) ?_
      refine nk_J.to (st' := [.null]) ?_ rfl rfl rfl
      refine nk_astoreNT dX7_beside_6 (by decide) ?_
      refine nk_aloadN dX7_beside_8 rfl ?_
      refine nk_ifnullN (tgt := 22) dX7_beside_10 (by decide) ?_
      refine nk_ldc qX7_61 dX7_beside_22 ?_
      refine nk_ireturn dX7_beside_24 rfl ?_
      exact ⟨by unfold sp_beside; rw [if_pos h1, if_neg h2], rfl⟩
  · have hset := s_setWith_n (G := G) hV (x := s) (y := k) (fun z => h1 z.1)
    refine nk_aload_n (i := 0) dX7_beside_0 rfl rfl ?_
    refine nk_iload_n (i := 1) dX7_beside_1 rfl rfl ?_
    refine nk_iload_n (i := 2) dX7_beside_2 rfl rfl ?_
    refine nk_cVq kX7_124 hset dX7_beside_3 hfs rfl rfl (by decide) (Nat.le_of_ble_eq_true rfl) ?_
    refine nk_J.to (st' := [.null]) ?_ rfl rfl rfl
    refine nk_astoreNT dX7_beside_6 (by decide) ?_
    refine nk_aloadN dX7_beside_8 rfl ?_
    refine nk_ifnullN (tgt := 22) dX7_beside_10 (by decide) ?_
    refine nk_ldc qX7_61 dX7_beside_22 ?_
    refine nk_ireturn dX7_beside_24 rfl ?_
    exact ⟨by unfold sp_beside; rw [if_neg h1], rfl⟩
set_option maxRecDepth 20000 in
theorem s_X7_steps {G : nk_EG} {K : nk_AH} {o m b : Nat} {r : Nat → Int32} (hV : cV K o m b r) {s k : Int32} : nk_Si G mX7_steps 15 [.ref o, .int s, .int k] K (sp_steps m b (nk_mem r 0) s k) K := by
  refine nk_S.of (by decide +kernel) (Nat.le_of_ble_eq_true rfl) rfl ?_
  obtain ⟨fs, hfs⟩ := hV.o
  by_cases h1 : sp_S m s
  · by_cases h2 : sp_K b k
    · skip
      obtain ⟨v1, v2, v3, v4, v5, f1, f2, q, sa, qs, ws, hV2⟩ := hV.S h1
      have hm4 := hV2.2.2.2.2.2.1
      have hb2 := hV2.2.2.2.2.2.2.1
      have hb10 := hV2.2.2.2.2.2.2.2.1
      have hV7 := hV2.2.2.2.2.2.2.2.2
      have hwm := wm_f b hb10 hb2
      obtain ⟨hj, hse⟩ := sp_n_S h1
      obtain ⟨hkt, hke⟩ := sp_n_K h2
      unfold sp_steps
      rw [if_pos h1, if_pos h2]
      have hset := s_setWith_s (G := G) hV2 h1 h2
      have hX := hV2.2.1.2.2 _ hj
      obtain ⟨hκ, hz⟩ := hV7 _ hj
      generalize hje : sp_n s = j at *
      generalize hk1 : sp_n k = k1 at *
      subst hse
      subst hke
      refine nk_aload_n (i := 0) dX7_steps_0 rfl rfl ?_
      refine nk_iload_n (i := 1) dX7_steps_1 rfl rfl ?_
      refine nk_iload_n (i := 2) dX7_steps_2 rfl rfl ?_
      refine nk_cVq kX7_124 hset dX7_steps_3 hfs rfl rfl (by decide) (Nat.le_of_ble_eq_true rfl) ?_
      refine nk_J.to (st' := [.ref (qs j)]) ?_ rfl rfl rfl
      refine nk_astore_nT (i := 3) dX7_steps_6 rfl (by decide) ?_
      refine nk_aload_n (i := 3) dX7_steps_7 rfl rfl ?_
      refine nk_ifnonnullR (tgt := 16) dX7_steps_8 (by decide) ?_
      refine nk_aload_n (i := 3) dX7_steps_16 rfl rfl ?_
      refine nk_iload_n (i := 2) dX7_steps_17 rfl rfl ?_
      refine nk_cVi kX7_182 (hX.i (fun H' hk => s_X2_rootSteps hk hb2 hb10 hz (k := k1) hkt)) dX7_steps_18 hX.o rfl rfl (by decide) (Nat.le_of_ble_eq_true rfl) ?_
      refine nk_ireturn dX7_steps_21 rfl ?_
      exact ⟨rfl, rfl⟩
    · have hset := s_setWith_n (G := G) hV (x := s) (y := k) (fun z => h2 z.2)
      refine nk_aload_n (i := 0) dX7_steps_0 rfl rfl ?_
      refine nk_iload_n (i := 1) dX7_steps_1 rfl rfl ?_
      refine nk_iload_n (i := 2) dX7_steps_2 rfl rfl ?_
      refine nk_cVq kX7_124 hset dX7_steps_3 hfs rfl rfl (by decide) (Nat.le_of_ble_eq_true rfl) ?_
      refine nk_J.to (st' := [.null]) ?_ rfl rfl rfl
      refine nk_astore_nNT (i := 3) dX7_steps_6 rfl (by decide) ?_
      refine nk_aload_nN (i := 3) dX7_steps_7 rfl rfl ?_
      refine nk_ifnonnullN dX7_steps_8 ?_
      refine nk_ldc qX7_61 dX7_steps_11 ?_
      refine nk_goto (tgt := 21) dX7_steps_13 (by decide) ?_
      refine nk_ireturn dX7_steps_21 rfl ?_
      exact ⟨by unfold sp_steps; rw [if_pos h1, if_neg h2], rfl⟩
  · have hset := s_setWith_n (G := G) hV (x := s) (y := k) (fun z => h1 z.1)
    refine nk_aload_n (i := 0) dX7_steps_0 rfl rfl ?_
    refine nk_iload_n (i := 1) dX7_steps_1 rfl rfl ?_
    refine nk_iload_n (i := 2) dX7_steps_2 rfl rfl ?_
    refine nk_cVq kX7_124 hset dX7_steps_3 hfs rfl rfl (by decide) (Nat.le_of_ble_eq_true rfl) ?_
    refine nk_J.to (st' := [.null]) ?_ rfl rfl rfl
    refine nk_astore_nNT (i := 3) dX7_steps_6 rfl (by decide) ?_
    refine nk_aload_nN (i := 3) dX7_steps_7 rfl rfl ?_
    refine nk_ifnonnullN dX7_steps_8 ?_
    refine nk_ldc qX7_61 dX7_steps_11 ?_
    refine nk_goto (tgt := 21) dX7_steps_13 (by decide) ?_
    refine nk_ireturn dX7_steps_21 rfl ?_
    exact ⟨by unfold sp_steps; rw [if_neg h1], rfl⟩
set_option maxRecDepth 20000 in
theorem s_X7_tree {G : nk_EG} {K : nk_AH} {o m b : Nat} {r : Nat → Int32} (hV : cV K o m b r) {s x : Int32} : nk_Si G mX7_tree 15 [.ref o, .int s, .int x] K (sp_tree m b (nk_mem r 0) s x) K := by
  refine nk_S.of (by decide +kernel) (Nat.le_of_ble_eq_true rfl) rfl ?_
  obtain ⟨fs, hfs⟩ := hV.o
  by_cases h1 : sp_S m s
  · skip
    obtain ⟨v1, v2, v3, v4, v5, f1, f2, q, sa, qs, ws, hV2⟩ := hV.S h1
    have hm4 := hV2.2.2.2.2.2.1
    have hb2 := hV2.2.2.2.2.2.2.1
    have hb10 := hV2.2.2.2.2.2.2.2.1
    have hV7 := hV2.2.2.2.2.2.2.2.2
    have hwm := wm_f b hb10 hb2
    obtain ⟨hj, hse⟩ := sp_n_S h1
    unfold sp_tree
    rw [if_pos h1]
    have hset := s_setAt_s (G := G) hV2 h1
    have hX := hV2.2.1.2.2 _ hj
    obtain ⟨hκ, hz⟩ := hV7 _ hj
    generalize hje : sp_n s = j at *
    subst hse
    refine nk_aload_n (i := 0) dX7_tree_0 rfl rfl ?_
    refine nk_iload_n (i := 1) dX7_tree_1 rfl rfl ?_
    refine nk_cVq kX7_140 hset dX7_tree_2 hfs rfl rfl (by decide) (Nat.le_of_ble_eq_true rfl) ?_
    refine nk_J.to (st' := [.ref (qs j)]) ?_ rfl rfl rfl
    refine nk_astore_nT (i := 3) dX7_tree_5 rfl (by decide) ?_
    refine nk_aload_n (i := 3) dX7_tree_6 rfl rfl ?_
    refine nk_ifnullR dX7_tree_7 ?_
    refine nk_iload_n (i := 2) dX7_tree_10 rfl rfl ?_
    refine nk_iconst (v := 0) dX7_tree_11 (by decide) ?_
    refine nk_iconst (v := 1) dX7_tree_12 (by decide) ?_
    refine nk_cSi kX7_57 (s_X7_within) dX7_tree_13 rfl rfl (by decide) (Nat.le_of_ble_eq_true rfl) ?_
    refine nk_ifne (tgt := 22) dX7_tree_16 (by decide) (fun h16 => ?_) (fun h16 => ?_)
    · skip
      simp only [ne_eq, nk_b0, Classical.not_not] at h16
      first | (have hR : sp_R x 0 1 := h16) | (have hR : ¬ sp_R x 0 1 := h16)
      refine nk_iload_n (i := 2) dX7_tree_22 rfl rfl ?_
      refine nk_ifne (tgt := 33) dX7_tree_23 (by decide) (fun h23 => ?_) (fun h23 => ?_)
      · skip
        refine nk_aload_n (i := 3) dX7_tree_33 rfl rfl ?_
        refine nk_cVi kX7_188 (hX.i (fun H' hk => s_X2_rootDepth hk hb2 hb10 hz)) dX7_tree_34 hX.o rfl rfl (by decide) (Nat.le_of_ble_eq_true rfl) ?_
        refine nk_ireturn dX7_tree_37 rfl ?_
        first
        | exact ⟨by rw [if_neg hR], rfl⟩
        | exact ⟨by rw [if_pos hR, if_pos h23]; rfl, rfl⟩
        | exact ⟨by rw [if_pos hR, if_neg h23]; rfl, rfl⟩
        | exact ⟨by rw [if_pos hR, if_pos (Classical.not_not.mp h23)]; rfl, rfl⟩
      · skip
        refine nk_aload_n (i := 3) dX7_tree_26 rfl rfl ?_
        refine nk_cVi kX7_185 (hX.i (fun H' hk => s_X2_rootNodes hk hb2 hb10 hz)) dX7_tree_27 hX.o rfl rfl (by decide) (Nat.le_of_ble_eq_true rfl) ?_
        refine nk_goto (tgt := 37) dX7_tree_30 (by decide) ?_
        refine nk_ireturn dX7_tree_37 rfl ?_
        first
        | exact ⟨by rw [if_neg hR], rfl⟩
        | exact ⟨by rw [if_pos hR, if_pos h23]; rfl, rfl⟩
        | exact ⟨by rw [if_pos hR, if_neg h23]; rfl, rfl⟩
        | exact ⟨by rw [if_pos hR, if_pos (Classical.not_not.mp h23)]; rfl, rfl⟩
    · skip
      simp only [ne_eq, nk_b0, Classical.not_not] at h16
      first | (have hR : sp_R x 0 1 := h16) | (have hR : ¬ sp_R x 0 1 := h16)
      refine nk_ldc qX7_61 dX7_tree_19 ?_
      refine nk_ireturn dX7_tree_21 rfl ?_
      first
      | exact ⟨by rw [if_neg hR], rfl⟩
      | exact ⟨by rw [if_pos hR, if_pos h23]; rfl, rfl⟩
      | exact ⟨by rw [if_pos hR, if_neg h23]; rfl, rfl⟩
      | exact ⟨by rw [if_pos hR, if_pos (Classical.not_not.mp h23)]; rfl, rfl⟩
  · have hset := s_setAt_n (G := G) hV (x := s) h1
    refine nk_aload_n (i := 0) dX7_tree_0 rfl rfl ?_
    refine nk_iload_n (i := 1) dX7_tree_1 rfl rfl ?_
    refine nk_cVq kX7_140 hset dX7_tree_2 hfs rfl rfl (by decide) (Nat.le_of_ble_eq_true rfl) ?_
    refine nk_J.to (st' := [.null]) ?_ rfl rfl rfl
    refine nk_astore_nNT (i := 3) dX7_tree_5 rfl (by decide) ?_
    refine nk_aload_nN (i := 3) dX7_tree_6 rfl rfl ?_
    refine nk_ifnullN (tgt := 19) dX7_tree_7 (by decide) ?_
    refine nk_ldc qX7_61 dX7_tree_19 ?_
    refine nk_ireturn dX7_tree_21 rfl ?_
    exact ⟨by unfold sp_tree; rw [if_neg h1], rfl⟩
set_option maxRecDepth 20000 in
theorem s_X7_summary {G : nk_EG} {K : nk_AH} {o m b : Nat} {r : Nat → Int32} (hV : cV K o m b r) {s x : Int32} : nk_Si G mX7_summary 15 [.ref o, .int s, .int x] K (sp_summary m b (nk_mem r 0) s x) K := by
  refine nk_S.of (by decide +kernel) (Nat.le_of_ble_eq_true rfl) rfl ?_
  obtain ⟨fs, hfs⟩ := hV.o
  by_cases h1 : sp_S m s
  · skip
    obtain ⟨v1, v2, v3, v4, v5, f1, f2, q, sa, qs, ws, hV2⟩ := hV.S h1
    have hm4 := hV2.2.2.2.2.2.1
    have hb2 := hV2.2.2.2.2.2.2.1
    have hb10 := hV2.2.2.2.2.2.2.2.1
    have hV7 := hV2.2.2.2.2.2.2.2.2
    have hwm := wm_f b hb10 hb2
    obtain ⟨hj, hse⟩ := sp_n_S h1
    unfold sp_summary
    rw [if_pos h1]
    have hset := s_setAt_s (G := G) hV2 h1
    have hX := hV2.2.1.2.2 _ hj
    obtain ⟨hκ, hz⟩ := hV7 _ hj
    generalize hje : sp_n s = j at *
    subst hse
    refine nk_aload_n (i := 0) dX7_summary_0 rfl rfl ?_
    refine nk_iload_n (i := 1) dX7_summary_1 rfl rfl ?_
    refine nk_cVq kX7_140 hset dX7_summary_2 hfs rfl rfl (by decide) (Nat.le_of_ble_eq_true rfl) ?_
    refine nk_J.to (st' := [.ref (qs j)]) ?_ rfl rfl rfl
    refine nk_astore_nT (i := 3) dX7_summary_5 rfl (by decide) ?_
    refine nk_aload_n (i := 3) dX7_summary_6 rfl rfl ?_
    refine nk_ifnullR dX7_summary_7 ?_
    refine nk_iload_n (i := 2) dX7_summary_10 rfl rfl ?_
    refine nk_iconst (v := 0) dX7_summary_11 (by decide) ?_
    refine nk_iconst (v := 2) dX7_summary_12 (by decide) ?_
    refine nk_cSi kX7_57 (s_X7_within) dX7_summary_13 rfl rfl (by decide) (Nat.le_of_ble_eq_true rfl) ?_
    refine nk_ifne (tgt := 22) dX7_summary_16 (by decide) (fun h16 => ?_) (fun h16 => ?_)
    · skip
      simp only [ne_eq, nk_b0, Classical.not_not] at h16
      first | (have hR : sp_R x 0 2 := h16) | (have hR : ¬ sp_R x 0 2 := h16)
      refine nk_aload_n (i := 3) dX7_summary_22 rfl rfl ?_
      refine nk_cVi kX7_206 (hX.i (fun H' hk => s_X2_rootSummary hk hb2 hb10 hz)) dX7_summary_23 hX.o rfl rfl (by decide) (Nat.le_of_ble_eq_true rfl) ?_
      refine nk_aload_n (i := 3) dX7_summary_26 rfl rfl ?_
      refine nk_getf fX7_209 dX7_summary_27 hX.o rfl ?_
      refine nk_iload_n (i := 2) dX7_summary_30 rfl rfl ?_
      refine nk_cSi kX7_200 (s_X3_about (by omega) (by omega) hR) dX7_summary_31 rfl rfl (by decide) (Nat.le_of_ble_eq_true rfl) ?_
      refine nk_ireturn dX7_summary_34 rfl ?_
      first
      | exact ⟨by rw [if_neg hR], rfl⟩
      | exact ⟨by rw [if_pos hR]; rfl, rfl⟩
    · skip
      simp only [ne_eq, nk_b0, Classical.not_not] at h16
      first | (have hR : sp_R x 0 2 := h16) | (have hR : ¬ sp_R x 0 2 := h16)
      refine nk_ldc qX7_61 dX7_summary_19 ?_
      refine nk_ireturn dX7_summary_21 rfl ?_
      first
      | exact ⟨by rw [if_neg hR], rfl⟩
      | exact ⟨by rw [if_pos hR]; rfl, rfl⟩
  · have hset := s_setAt_n (G := G) hV (x := s) h1
    refine nk_aload_n (i := 0) dX7_summary_0 rfl rfl ?_
    refine nk_iload_n (i := 1) dX7_summary_1 rfl rfl ?_
    refine nk_cVq kX7_140 hset dX7_summary_2 hfs rfl rfl (by decide) (Nat.le_of_ble_eq_true rfl) ?_
    refine nk_J.to (st' := [.null]) ?_ rfl rfl rfl
    refine nk_astore_nNT (i := 3) dX7_summary_5 rfl (by decide) ?_
    refine nk_aload_nN (i := 3) dX7_summary_6 rfl rfl ?_
    refine nk_ifnullN (tgt := 19) dX7_summary_7 (by decide) ?_
    refine nk_ldc qX7_61 dX7_summary_19 ?_
    refine nk_ireturn dX7_summary_21 rfl ?_
    exact ⟨by unfold sp_summary; rw [if_neg h1], rfl⟩
set_option maxRecDepth 20000 in
theorem s_X7_cluster {G : nk_EG} {K : nk_AH} {o m b : Nat} {r : Nat → Int32} (hV : cV K o m b r) {s x y : Int32} : nk_Si G mX7_cluster 15 [.ref o, .int s, .int x, .int y] K (sp_cluster m b (nk_mem r 0) s x y) K := by
  refine nk_S.of (by decide +kernel) (Nat.le_of_ble_eq_true rfl) rfl ?_
  obtain ⟨fs, hfs⟩ := hV.o
  by_cases h1 : sp_S m s
  · skip
    obtain ⟨v1, v2, v3, v4, v5, f1, f2, q, sa, qs, ws, hV2⟩ := hV.S h1
    have hm4 := hV2.2.2.2.2.2.1
    have hb2 := hV2.2.2.2.2.2.2.1
    have hb10 := hV2.2.2.2.2.2.2.2.1
    have hV7 := hV2.2.2.2.2.2.2.2.2
    have hwm := wm_f b hb10 hb2
    obtain ⟨hj, hse⟩ := sp_n_S h1
    unfold sp_cluster
    rw [if_pos h1]
    have hset := s_setAt_s (G := G) hV2 h1
    have hX := hV2.2.1.2.2 _ hj
    obtain ⟨hκ, hz⟩ := hV7 _ hj
    generalize hje : sp_n s = j at *
    subst hse
    refine nk_aload_n (i := 0) dX7_cluster_0 rfl rfl ?_
    refine nk_iload_n (i := 1) dX7_cluster_1 rfl rfl ?_
    refine nk_cVq kX7_140 hset dX7_cluster_2 hfs rfl rfl (by decide) (Nat.le_of_ble_eq_true rfl) ?_
    refine nk_J.to (st' := [.ref (qs j)]) ?_ rfl rfl rfl
    refine nk_astoreT dX7_cluster_5 (by decide) ?_
    refine nk_aload dX7_cluster_7 rfl ?_
    refine nk_ifnullR dX7_cluster_9 ?_
    refine nk_aload dX7_cluster_12 rfl ?_
    refine nk_iload_n (i := 2) dX7_cluster_14 rfl rfl ?_
    refine nk_cVi kX7_191 (hX.i (fun H' hk => s_X2_isHigh hk hb2 hb10)) dX7_cluster_15 hX.o rfl rfl (by decide) (Nat.le_of_ble_eq_true rfl) ?_
    refine nk_ifeq (tgt := 30) dX7_cluster_18 (by decide) (fun h18 => ?_) (fun h18 => ?_)
    · skip
      simp only [nk_b0, Classical.not_not] at h18
      refine nk_ldc qX7_61 dX7_cluster_30 ?_
      refine nk_ireturn dX7_cluster_32 rfl ?_
      first
      | exact ⟨by rw [if_neg h18], rfl⟩
      | exact ⟨by rw [if_pos h18, if_neg hR], rfl⟩
      | exact ⟨by rw [if_pos h18, if_pos hR]; rfl, rfl⟩
    · skip
      simp only [nk_b0, Classical.not_not] at h18
      refine nk_iload_n (i := 3) dX7_cluster_21 rfl rfl ?_
      refine nk_iconst (v := 0) dX7_cluster_22 (by decide) ?_
      refine nk_iconst (v := 2) dX7_cluster_23 (by decide) ?_
      refine nk_cSi kX7_57 (s_X7_within) dX7_cluster_24 rfl rfl (by decide) (Nat.le_of_ble_eq_true rfl) ?_
      refine nk_ifne (tgt := 33) dX7_cluster_27 (by decide) (fun h27 => ?_) (fun h27 => ?_)
      · skip
        simp only [ne_eq, nk_b0, Classical.not_not] at h27
        first | (have hR : sp_R y 0 2 := h27) | (have hR : ¬ sp_R y 0 2 := h27)
        have hxl : sp_n x < 2 ^ (b - b / 2) := by have := h18.1; have := h18.2; unfold sp_n Int32.toNatClampNeg; omega
        have hxe : x = nI (sp_n x) := nI_ofI h18.1
        refine nk_aload dX7_cluster_33 rfl ?_
        refine nk_iload_n (i := 2) dX7_cluster_35 rfl rfl ?_
        refine nk_top (y := nI (sp_n x)) (hxe) ?_
        refine nk_aload dX7_cluster_36 rfl ?_
        refine nk_cVi kX7_167 (hX.i (fun H' hk => s_X2_least hk hb2 hb10 hz)) dX7_cluster_38 hX.o rfl rfl (by decide) (Nat.le_of_ble_eq_true rfl) ?_
        refine nk_cVi kX7_194 (hX.i (fun H' hk => s_X2_clusterAt hk hb2 hb10 hz (x := sp_n x) hxl)) dX7_cluster_41 hX.o rfl rfl (by decide) (Nat.le_of_ble_eq_true rfl) ?_
        refine nk_aload dX7_cluster_44 rfl ?_
        refine nk_getf fX7_197 dX7_cluster_46 hX.o rfl ?_
        refine nk_iload_n (i := 3) dX7_cluster_49 rfl rfl ?_
        refine nk_cSi kX7_200 (s_X3_about (by omega) (by omega) hR) dX7_cluster_50 rfl rfl (by decide) (Nat.le_of_ble_eq_true rfl) ?_
        refine nk_ireturn dX7_cluster_53 rfl ?_
        first
        | exact ⟨by rw [if_neg h18], rfl⟩
        | exact ⟨by rw [if_pos h18, if_neg hR], rfl⟩
        | exact ⟨by rw [if_pos h18, if_pos hR]; rfl, rfl⟩
      · skip
        simp only [ne_eq, nk_b0, Classical.not_not] at h27
        first | (have hR : sp_R y 0 2 := h27) | (have hR : ¬ sp_R y 0 2 := h27)
        refine nk_ldc qX7_61 dX7_cluster_30 ?_
        refine nk_ireturn dX7_cluster_32 rfl ?_
        first
        | exact ⟨by rw [if_neg h18], rfl⟩
        | exact ⟨by rw [if_pos h18, if_neg hR], rfl⟩
        | exact ⟨by rw [if_pos h18, if_pos hR]; rfl, rfl⟩
  · have hset := s_setAt_n (G := G) hV (x := s) h1
    refine nk_aload_n (i := 0) dX7_cluster_0 rfl rfl ?_
    refine nk_iload_n (i := 1) dX7_cluster_1 rfl rfl ?_
    refine nk_cVq kX7_140 hset dX7_cluster_2 hfs rfl rfl (by decide) (Nat.le_of_ble_eq_true rfl) ?_
    refine nk_J.to (st' := [.null]) ?_ rfl rfl rfl
    refine nk_astoreNT dX7_cluster_5 (by decide) ?_
    refine nk_aloadN dX7_cluster_7 rfl ?_
    refine nk_ifnullN (tgt := 30) dX7_cluster_9 (by decide) ?_
    refine nk_ldc qX7_61 dX7_cluster_30 ?_
    refine nk_ireturn dX7_cluster_32 rfl ?_
    exact ⟨by unfold sp_cluster; rw [if_neg h1], rfl⟩
set_option maxRecDepth 20000 in
theorem s_X7_rank {G : nk_EG} {K : nk_AH} {o m b : Nat} {r : Nat → Int32} (hV : cV K o m b r) {s k : Int32} : nk_Si G mX7_rank 15 [.ref o, .int s, .int k] K (sp_rank m b (nk_mem r 0) s k) K := by
  refine nk_S.of (by decide +kernel) (Nat.le_of_ble_eq_true rfl) rfl ?_
  obtain ⟨fs, hfs⟩ := hV.o
  by_cases h1 : sp_S m s
  · by_cases h2 : sp_K b k
    · skip
      obtain ⟨v1, v2, v3, v4, v5, f1, f2, q, sa, qs, ws, hV2⟩ := hV.S h1
      have hm4 := hV2.2.2.2.2.2.1
      have hb2 := hV2.2.2.2.2.2.2.1
      have hb10 := hV2.2.2.2.2.2.2.2.1
      have hV7 := hV2.2.2.2.2.2.2.2.2
      have hwm := wm_f b hb10 hb2
      obtain ⟨hj, hse⟩ := sp_n_S h1
      obtain ⟨hkt, hke⟩ := sp_n_K h2
      unfold sp_rank
      rw [if_pos h1, if_pos h2]
      have hset := s_setWith_s (G := G) hV2 h1 h2
      have hX := hV2.2.1.2.2 _ hj
      obtain ⟨hκ, hz⟩ := hV7 _ hj
      generalize hje : sp_n s = j at *
      generalize hk1 : sp_n k = k1 at *
      subst hse
      subst hke
      refine nk_aload_n (i := 0) dX7_rank_0 rfl rfl ?_
      refine nk_iload_n (i := 1) dX7_rank_1 rfl rfl ?_
      refine nk_iload_n (i := 2) dX7_rank_2 rfl rfl ?_
      refine nk_cVq kX7_124 hset dX7_rank_3 hfs rfl rfl (by decide) (Nat.le_of_ble_eq_true rfl) ?_
      refine nk_J.to (st' := [.ref (qs j)]) ?_ rfl rfl rfl
      refine nk_astore_nT (i := 3) dX7_rank_6 rfl (by decide) ?_
      refine nk_aload_n (i := 3) dX7_rank_7 rfl rfl ?_
      refine nk_ifnonnullR (tgt := 16) dX7_rank_8 (by decide) ?_
      refine nk_aload_n (i := 3) dX7_rank_16 rfl rfl ?_
      refine nk_iconst (v := 0) dX7_rank_17 (by decide) ?_
      refine nk_iload_n (i := 2) dX7_rank_18 rfl rfl ?_
      refine nk_iconst (v := 1) dX7_rank_19 (by decide) ?_
      refine nk_isub dX7_rank_20 ?_
      refine nk_cVi kX7_238 (hX.i (fun H' hk => s_X2_sizeWithin hk hb2 hb10 hz (by decide) (by rw [nk_m1 (by omega)]; omega))) dX7_rank_21 hX.o rfl rfl (by decide) (Nat.le_of_ble_eq_true rfl) ?_
      refine nk_ireturn dX7_rank_24 rfl ?_
      first
      | exact ⟨by rw [nk_m1 (by omega), show (0 : Int32).toInt = 0 from rfl, cw_rank (by omega)]; rfl, rfl⟩
    · have hset := s_setWith_n (G := G) hV (x := s) (y := k) (fun z => h2 z.2)
      refine nk_aload_n (i := 0) dX7_rank_0 rfl rfl ?_
      refine nk_iload_n (i := 1) dX7_rank_1 rfl rfl ?_
      refine nk_iload_n (i := 2) dX7_rank_2 rfl rfl ?_
      refine nk_cVq kX7_124 hset dX7_rank_3 hfs rfl rfl (by decide) (Nat.le_of_ble_eq_true rfl) ?_
      refine nk_J.to (st' := [.null]) ?_ rfl rfl rfl
      refine nk_astore_nNT (i := 3) dX7_rank_6 rfl (by decide) ?_
      refine nk_aload_nN (i := 3) dX7_rank_7 rfl rfl ?_
      refine nk_ifnonnullN dX7_rank_8 ?_
      refine nk_ldc qX7_61 dX7_rank_11 ?_
      refine nk_goto (tgt := 24) dX7_rank_13 (by decide) ?_
      refine nk_ireturn dX7_rank_24 rfl ?_
      exact ⟨by unfold sp_rank; rw [if_pos h1, if_neg h2], rfl⟩
  · have hset := s_setWith_n (G := G) hV (x := s) (y := k) (fun z => h1 z.1)
    refine nk_aload_n (i := 0) dX7_rank_0 rfl rfl ?_
    refine nk_iload_n (i := 1) dX7_rank_1 rfl rfl ?_
    refine nk_iload_n (i := 2) dX7_rank_2 rfl rfl ?_
    refine nk_cVq kX7_124 hset dX7_rank_3 hfs rfl rfl (by decide) (Nat.le_of_ble_eq_true rfl) ?_
    refine nk_J.to (st' := [.null]) ?_ rfl rfl rfl
    refine nk_astore_nNT (i := 3) dX7_rank_6 rfl (by decide) ?_
    refine nk_aload_nN (i := 3) dX7_rank_7 rfl rfl ?_
    refine nk_ifnonnullN dX7_rank_8 ?_
    refine nk_ldc qX7_61 dX7_rank_11 ?_
    refine nk_goto (tgt := 24) dX7_rank_13 (by decide) ?_
    refine nk_ireturn dX7_rank_24 rfl ?_
    exact ⟨by unfold sp_rank; rw [if_neg h1], rfl⟩
set_option maxRecDepth 20000 in
theorem s_X7_nth {G : nk_EG} {K : nk_AH} {o m b : Nat} {r : Nat → Int32} (hV : cV K o m b r) {s k : Int32} : nk_Si G mX7_nth 15 [.ref o, .int s, .int k] K (sp_nth m b (nk_mem r 0) s k) K := by
  refine nk_S.of (by decide +kernel) (Nat.le_of_ble_eq_true rfl) rfl ?_
  obtain ⟨fs, hfs⟩ := hV.o
  by_cases h1 : sp_S m s
  · skip
    obtain ⟨v1, v2, v3, v4, v5, f1, f2, q, sa, qs, ws, hV2⟩ := hV.S h1
    have hm4 := hV2.2.2.2.2.2.1
    have hb2 := hV2.2.2.2.2.2.2.1
    have hb10 := hV2.2.2.2.2.2.2.2.1
    have hV7 := hV2.2.2.2.2.2.2.2.2
    have hwm := wm_f b hb10 hb2
    obtain ⟨hj, hse⟩ := sp_n_S h1
    unfold sp_nth
    rw [if_pos h1]
    have hset := s_setAt_s (G := G) hV2 h1
    have hX := hV2.2.1.2.2 _ hj
    obtain ⟨hκ, hz⟩ := hV7 _ hj
    generalize hje : sp_n s = j at *
    subst hse
    refine nk_aload_n (i := 0) dX7_nth_0 rfl rfl ?_
    refine nk_iload_n (i := 1) dX7_nth_1 rfl rfl ?_
    refine nk_cVq kX7_140 hset dX7_nth_2 hfs rfl rfl (by decide) (Nat.le_of_ble_eq_true rfl) ?_
    refine nk_J.to (st' := [.ref (qs j)]) ?_ rfl rfl rfl
    refine nk_astore_nT (i := 3) dX7_nth_5 rfl (by decide) ?_
    refine nk_aload_n (i := 3) dX7_nth_6 rfl rfl ?_
    refine nk_ifnullR dX7_nth_7 ?_
    refine nk_iload_n (i := 2) dX7_nth_10 rfl rfl ?_
    refine nk_ifge (tgt := 19) dX7_nth_11 (by decide) (fun h11 => ?_) (fun h11 => ?_)
    · skip
      have hke : k = nI (sp_n k) := nI_ofI ((fa_le _ _).mp h11)
      have hk31 : sp_n k < 2 ^ 31 := by have := fb_rng k; unfold sp_n Int32.toNatClampNeg; omega
      refine nk_aload_n (i := 3) dX7_nth_19 rfl rfl ?_
      refine nk_iload_n (i := 2) dX7_nth_20 rfl rfl ?_
      refine nk_top (y := nI (sp_n k)) (hke) ?_
      refine nk_cVi kX7_241 (hX.i (fun H' hk => s_X2_keyAt hk hb2 hb10 hz (k := sp_n k) hk31)) dX7_nth_21 hX.o rfl rfl (by decide) (Nat.le_of_ble_eq_true rfl) ?_
      refine nk_ireturn dX7_nth_24 rfl ?_
      first
      | exact ⟨by rw [if_pos h11]; rfl, rfl⟩
      | exact ⟨by rw [if_neg h11], rfl⟩
    · skip
      refine nk_ldc qX7_61 dX7_nth_14 ?_
      refine nk_goto (tgt := 24) dX7_nth_16 (by decide) ?_
      refine nk_ireturn dX7_nth_24 rfl ?_
      first
      | exact ⟨by rw [if_pos h11]; rfl, rfl⟩
      | exact ⟨by rw [if_neg h11], rfl⟩
  · have hset := s_setAt_n (G := G) hV (x := s) h1
    refine nk_aload_n (i := 0) dX7_nth_0 rfl rfl ?_
    refine nk_iload_n (i := 1) dX7_nth_1 rfl rfl ?_
    refine nk_cVq kX7_140 hset dX7_nth_2 hfs rfl rfl (by decide) (Nat.le_of_ble_eq_true rfl) ?_
    refine nk_J.to (st' := [.null]) ?_ rfl rfl rfl
    refine nk_astore_nNT (i := 3) dX7_nth_5 rfl (by decide) ?_
    refine nk_aload_nN (i := 3) dX7_nth_6 rfl rfl ?_
    refine nk_ifnullN (tgt := 14) dX7_nth_7 (by decide) ?_
    refine nk_ldc qX7_61 dX7_nth_14 ?_
    refine nk_goto (tgt := 24) dX7_nth_16 (by decide) ?_
    refine nk_ireturn dX7_nth_24 rfl ?_
    exact ⟨by unfold sp_nth; rw [if_neg h1], rfl⟩
set_option maxRecDepth 20000 in
theorem s_X7_near {G : nk_EG} {K : nk_AH} {o m b : Nat} {r : Nat → Int32} (hV : cV K o m b r) {s k : Int32} : nk_Si G mX7_near 15 [.ref o, .int s, .int k] K (sp_near m b (nk_mem r 0) s k) K := by
  refine nk_S.of (by decide +kernel) (Nat.le_of_ble_eq_true rfl) rfl ?_
  obtain ⟨fs, hfs⟩ := hV.o
  by_cases h1 : sp_S m s
  · by_cases h2 : sp_K b k
    · skip
      obtain ⟨v1, v2, v3, v4, v5, f1, f2, q, sa, qs, ws, hV2⟩ := hV.S h1
      have hm4 := hV2.2.2.2.2.2.1
      have hb2 := hV2.2.2.2.2.2.2.1
      have hb10 := hV2.2.2.2.2.2.2.2.1
      have hV7 := hV2.2.2.2.2.2.2.2.2
      have hwm := wm_f b hb10 hb2
      obtain ⟨hj, hse⟩ := sp_n_S h1
      obtain ⟨hkt, hke⟩ := sp_n_K h2
      unfold sp_near
      rw [if_pos h1, if_pos h2]
      have hset := s_setWith_s (G := G) hV2 h1 h2
      have hX := hV2.2.1.2.2 _ hj
      obtain ⟨hκ, hz⟩ := hV7 _ hj
      generalize hje : sp_n s = j at *
      generalize hk1 : sp_n k = k1 at *
      subst hse
      subst hke
      refine nk_aload_n (i := 0) dX7_near_0 rfl rfl ?_
      refine nk_iload_n (i := 1) dX7_near_1 rfl rfl ?_
      refine nk_iload_n (i := 2) dX7_near_2 rfl rfl ?_
      refine nk_cVq kX7_124 hset dX7_near_3 hfs rfl rfl (by decide) (Nat.le_of_ble_eq_true rfl) ?_
      refine nk_J.to (st' := [.ref (qs j)]) ?_ rfl rfl rfl
      refine nk_astore_nT (i := 3) dX7_near_6 rfl (by decide) ?_
      refine nk_aload_n (i := 3) dX7_near_7 rfl rfl ?_
      refine nk_ifnonnullR (tgt := 16) dX7_near_8 (by decide) ?_
      refine nk_aload_n (i := 3) dX7_near_16 rfl rfl ?_
      refine nk_iload_n (i := 2) dX7_near_17 rfl rfl ?_
      refine nk_cVi kX7_244 (hX.i (fun H' hk => s_X2_nearest hk hb2 hb10 hz (k := k1) hkt)) dX7_near_18 hX.o rfl rfl (by decide) (Nat.le_of_ble_eq_true rfl) ?_
      refine nk_ireturn dX7_near_21 rfl ?_
      exact ⟨rfl, rfl⟩
    · have hset := s_setWith_n (G := G) hV (x := s) (y := k) (fun z => h2 z.2)
      refine nk_aload_n (i := 0) dX7_near_0 rfl rfl ?_
      refine nk_iload_n (i := 1) dX7_near_1 rfl rfl ?_
      refine nk_iload_n (i := 2) dX7_near_2 rfl rfl ?_
      refine nk_cVq kX7_124 hset dX7_near_3 hfs rfl rfl (by decide) (Nat.le_of_ble_eq_true rfl) ?_
      refine nk_J.to (st' := [.null]) ?_ rfl rfl rfl
      refine nk_astore_nNT (i := 3) dX7_near_6 rfl (by decide) ?_
      refine nk_aload_nN (i := 3) dX7_near_7 rfl rfl ?_
      refine nk_ifnonnullN dX7_near_8 ?_
      refine nk_ldc qX7_61 dX7_near_11 ?_
      refine nk_goto (tgt := 21) dX7_near_13 (by decide) ?_
      refine nk_ireturn dX7_near_21 rfl ?_
      exact ⟨by unfold sp_near; rw [if_pos h1, if_neg h2], rfl⟩
  · have hset := s_setWith_n (G := G) hV (x := s) (y := k) (fun z => h1 z.1)
    refine nk_aload_n (i := 0) dX7_near_0 rfl rfl ?_
    refine nk_iload_n (i := 1) dX7_near_1 rfl rfl ?_
    refine nk_iload_n (i := 2) dX7_near_2 rfl rfl ?_
    refine nk_cVq kX7_124 hset dX7_near_3 hfs rfl rfl (by decide) (Nat.le_of_ble_eq_true rfl) ?_
    refine nk_J.to (st' := [.null]) ?_ rfl rfl rfl
    refine nk_astore_nNT (i := 3) dX7_near_6 rfl (by decide) ?_
    refine nk_aload_nN (i := 3) dX7_near_7 rfl rfl ?_
    refine nk_ifnonnullN dX7_near_8 ?_
    refine nk_ldc qX7_61 dX7_near_11 ?_
    refine nk_goto (tgt := 21) dX7_near_13 (by decide) ?_
    refine nk_ireturn dX7_near_21 rfl ?_
    exact ⟨by unfold sp_near; rw [if_neg h1], rfl⟩
set_option maxRecDepth 20000 in
theorem s_X7_kind {G : nk_EG} {K : nk_AH} {o m b : Nat} {r : Nat → Int32} (hV : cV K o m b r) {s : Int32} : nk_Si G mX7_kind 15 [.ref o, .int s] K (sp_kind m (shK r 0) s) K := by
  refine nk_S.of (by decide +kernel) (Nat.le_of_ble_eq_true rfl) rfl ?_
  obtain ⟨fs, hfs⟩ := hV.o
  by_cases h1 : sp_S m s
  · skip
    obtain ⟨v1, v2, v3, v4, v5, f1, f2, q, sa, qs, ws, hV2⟩ := hV.S h1
    have hm4 := hV2.2.2.2.2.2.1
    have hb2 := hV2.2.2.2.2.2.2.1
    have hb10 := hV2.2.2.2.2.2.2.2.1
    have hV7 := hV2.2.2.2.2.2.2.2.2
    have hwm := wm_f b hb10 hb2
    obtain ⟨hj, hse⟩ := sp_n_S h1
    unfold sp_kind
    rw [if_pos h1]
    have hset := s_setAt_s (G := G) hV2 h1
    have hX := hV2.2.1.2.2 _ hj
    obtain ⟨hκ, hz⟩ := hV7 _ hj
    generalize hje : sp_n s = j at *
    subst hse
    refine nk_aload_n (i := 0) dX7_kind_0 rfl rfl ?_
    refine nk_iload_n (i := 1) dX7_kind_1 rfl rfl ?_
    refine nk_cVq kX7_140 hset dX7_kind_2 hfs rfl rfl (by decide) (Nat.le_of_ble_eq_true rfl) ?_
    refine nk_J.to (st' := [.ref (qs j)]) ?_ rfl rfl rfl
    refine nk_astore_nT (i := 2) dX7_kind_5 rfl (by decide) ?_
    refine nk_aload_n (i := 2) dX7_kind_6 rfl rfl ?_
    refine nk_ifnonnullR (tgt := 15) dX7_kind_7 (by decide) ?_
    refine nk_aload_n (i := 2) dX7_kind_15 rfl rfl ?_
    refine nk_getf fX7_281 dX7_kind_16 hX.o rfl ?_
    refine nk_ireturn dX7_kind_19 rfl ?_
    exact ⟨rfl, rfl⟩
  · have hset := s_setAt_n (G := G) hV (x := s) h1
    refine nk_aload_n (i := 0) dX7_kind_0 rfl rfl ?_
    refine nk_iload_n (i := 1) dX7_kind_1 rfl rfl ?_
    refine nk_cVq kX7_140 hset dX7_kind_2 hfs rfl rfl (by decide) (Nat.le_of_ble_eq_true rfl) ?_
    refine nk_J.to (st' := [.null]) ?_ rfl rfl rfl
    refine nk_astore_nNT (i := 2) dX7_kind_5 rfl (by decide) ?_
    refine nk_aload_nN (i := 2) dX7_kind_6 rfl rfl ?_
    refine nk_ifnonnullN dX7_kind_7 ?_
    refine nk_ldc qX7_61 dX7_kind_10 ?_
    refine nk_goto (tgt := 19) dX7_kind_12 (by decide) ?_
    refine nk_ireturn dX7_kind_19 rfl ?_
    exact ⟨by unfold sp_kind; rw [if_neg h1], rfl⟩

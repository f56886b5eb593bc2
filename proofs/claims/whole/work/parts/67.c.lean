/-! the class: spans turned, sets joined, shifted -/
set_option maxRecDepth 20000 in
theorem s_X7_flip {G : nk_EG} {K : nk_AH} {g : Nat → Nat} {o m b u l t : Nat} {A : Nat → Nat → Int32} {I : Nat → Int32} (hW : cW K g o A I m b u l t) {s k y : Int32} : nk_S G mX7_flip 15 0 0 [.ref o, .int s, .int k, .int y] K (pW o (sp_flip A u m b s k y) (g_A (c_flip m b s k y) A (a_fl (a_kp (A 0) u) (sp_n s) (sp_n k) (sp_n y + 1 - sp_n k))) (g_I (c_flip m b s k y) I u)) := by
  refine nk_S.of (by decide +kernel) (Nat.le_of_ble_eq_true rfl) rfl ?_
  obtain ⟨hn, a1, a2, a3, a4, a5, sh, hx, hs⟩ := id hW
  have hV := hW.V
  obtain ⟨fs, hfs⟩ := hV.o
  by_cases h1 : sp_S m s
  · by_cases h2 : sp_K b k
    · by_cases hc : c_flip m b s k y
      · skip
        have e1 : g_A (c_flip m b s k y) A (a_fl (a_kp (A 0) u) (sp_n s) (sp_n k) (sp_n y + 1 - sp_n k)) = va_up A 0 (a_fl (a_kp (A 0) u) (sp_n s) (sp_n k) (sp_n y + 1 - sp_n k)) := if_pos hc
        have e2 : g_I (c_flip m b s k y) I u = va_up I 0 (nI (u_kp u + 1)) := if_pos hc
        have e3 : sp_flip A u m b s k y = nI (fb_ct (nk_mem (a_fl (a_kp (A 0) u) (sp_n s) (sp_n k) (sp_n y + 1 - sp_n k)) 0 (sp_n s)) 1024) := by unfold sp_flip; rw [if_pos hc]
        rw [e1, e2, e3]
        clear e1 e2 e3
        obtain ⟨-, -, h3, h4⟩ := hc
        obtain ⟨hyt, hye⟩ := sp_n_K h3
        obtain ⟨q, sa, qs, ws, rfl, s2, s3, s4, s5⟩ := hs.S h1
        have hV2 : cVs K o m b (A 0) (.ref a1) (.ref a2) (.ref a3) (.ref a4) (.ref a5) (.int (I 2)) (.int (I 3)) q sa qs ws := ⟨hx.1.1, s3.1, s2⟩
        have hm4 := hV2.2.2.2.2.2.1
        have hb2 := hV2.2.2.2.2.2.2.1
        have hb10 := hV2.2.2.2.2.2.2.2.1
        have hV7 := hV2.2.2.2.2.2.2.2.2
        have hwm := wm_f b hb10 hb2
        obtain ⟨hj, hse⟩ := sp_n_S h1
        obtain ⟨hkt, hke⟩ := sp_n_K h2
        have hset := s_setWith_s (G := G) hV2 h1 h2
        have hX := hV2.2.1.2.2 _ hj
        obtain ⟨hκ, hz⟩ := hV7 _ hj
        generalize hje : sp_n s = j at *
        generalize hk1 : sp_n k = k1 at *
        subst hse
        subst hke
        generalize hq7 : sp_n y = y1 at *
        subst hye
        have hxy := nk_leI h4 (by omega) (by omega)
        have hky : sp_K b (nI y1) := h3
        have htu := s_X7_turned (G := G) hn hx s2 s3 s4 s5 hj hxy hyt (r' := a_fl (a_kp (A 0) u) j k1 (y1 + 1 - k1)) (fun v hv => by
          rw [a_fl_w, shF_kp (by omega) (by omega), show (((k1 + (y1 + 1 - k1) : Nat) : Int) - 1) = (y1 : Int) by omega]; rfl) (a_fl_ofs _ (fun t ht => by omega)) (a_fl_gz (by omega) hb10 (gz_kp (by omega) hz) _ (fun t ht => by omega))
        refine nk_aload_n (i := 0) dX7_flip_0 rfl rfl ?_
        refine nk_iload_n (i := 1) dX7_flip_1 rfl rfl ?_
        refine nk_iload_n (i := 2) dX7_flip_2 rfl rfl ?_
        refine nk_cVq kX7_124 hset dX7_flip_3 hfs rfl rfl (by decide) (Nat.le_of_ble_eq_true rfl) ?_
        refine nk_J.to (st' := [.ref (qs j)]) ?_ rfl rfl rfl
        refine nk_astoreT dX7_flip_6 (by decide) ?_
        refine nk_aload dX7_flip_8 rfl ?_
        refine nk_ifnullR dX7_flip_10 ?_
        refine nk_aload dX7_flip_13 rfl ?_
        refine nk_iload_n (i := 3) dX7_flip_15 rfl rfl ?_
        refine nk_cVi kX7_137 (hX.i (fun H' hk => s_X2_isKey hk hb2 hb10)) dX7_flip_16 hX.o rfl rfl (by decide) (Nat.le_of_ble_eq_true rfl) ?_
        refine nk_ifeq (tgt := 27) dX7_flip_19 (by decide) (fun h19 => by first | exact absurd h19 (nk_y hky) | exact absurd (nk_y hky) h19) (fun _ => ?_)
        refine nk_iload_n (i := 2) dX7_flip_22 rfl rfl ?_
        refine nk_iload_n (i := 3) dX7_flip_23 rfl rfl ?_
        refine nk_icmple (tgt := 30) dX7_flip_24 (by decide) (fun _ => ?_) (fun h24 => by first | exact absurd (h4) h24 | exact absurd h24 (h4))
        refine nk_aload_n (i := 0) dX7_flip_30 rfl rfl ?_
        refine nk_aload dX7_flip_31 rfl ?_
        refine nk_iload_n (i := 2) dX7_flip_33 rfl rfl ?_
        refine nk_iload_n (i := 3) dX7_flip_34 rfl rfl ?_
        refine nk_cV (bc' := 0) (bs' := 0) kX7_133 htu dX7_flip_35 hfs rfl rfl (by decide) (Nat.le_of_ble_eq_true rfl) ⟨Nat.le_refl _, Nat.le_refl _⟩ (fun rr H2 hr => ?_)
        obtain ⟨rfl, hr⟩ := hr
        refine nk_ireturn dX7_flip_38 rfl ?_
        exact ⟨rfl, hr⟩
      · skip
        have e1 : g_A (c_flip m b s k y) A (a_fl (a_kp (A 0) u) (sp_n s) (sp_n k) (sp_n y + 1 - sp_n k)) = A := if_neg hc
        have e2 : g_I (c_flip m b s k y) I u = I := if_neg hc
        have e3 : sp_flip A u m b s k y = -1000001 := by unfold sp_flip; rw [if_neg hc]
        rw [e1, e2, e3]
        clear e1 e2 e3
        obtain ⟨q, sa, qs, ws, rfl, s2, s3, s4, s5⟩ := hs.S h1
        have hV2 : cVs K o m b (A 0) (.ref a1) (.ref a2) (.ref a3) (.ref a4) (.ref a5) (.int (I 2)) (.int (I 3)) q sa qs ws := ⟨hx.1.1, s3.1, s2⟩
        have hm4 := hV2.2.2.2.2.2.1
        have hb2 := hV2.2.2.2.2.2.2.1
        have hb10 := hV2.2.2.2.2.2.2.2.1
        have hV7 := hV2.2.2.2.2.2.2.2.2
        have hwm := wm_f b hb10 hb2
        obtain ⟨hj, hse⟩ := sp_n_S h1
        obtain ⟨hkt, hke⟩ := sp_n_K h2
        have hset := s_setWith_s (G := G) hV2 h1 h2
        have hX := hV2.2.1.2.2 _ hj
        obtain ⟨hκ, hz⟩ := hV7 _ hj
        generalize hje : sp_n s = j at *
        generalize hk1 : sp_n k = k1 at *
        subst hse
        subst hke
        refine nk_aload_n (i := 0) dX7_flip_0 rfl rfl ?_
        refine nk_iload_n (i := 1) dX7_flip_1 rfl rfl ?_
        refine nk_iload_n (i := 2) dX7_flip_2 rfl rfl ?_
        refine nk_cVq kX7_124 hset dX7_flip_3 hfs rfl rfl (by decide) (Nat.le_of_ble_eq_true rfl) ?_
        refine nk_J.to (st' := [.ref (qs j)]) ?_ rfl rfl rfl
        refine nk_astoreT dX7_flip_6 (by decide) ?_
        refine nk_aload dX7_flip_8 rfl ?_
        refine nk_ifnullR dX7_flip_10 ?_
        refine nk_aload dX7_flip_13 rfl ?_
        refine nk_iload_n (i := 3) dX7_flip_15 rfl rfl ?_
        refine nk_cVi kX7_137 (hX.i (fun H' hk => s_X2_isKey hk hb2 hb10)) dX7_flip_16 hX.o rfl rfl (by decide) (Nat.le_of_ble_eq_true rfl) ?_
        refine nk_ifeq (tgt := 27) dX7_flip_19 (by decide) (fun h19 => ?_) (fun h19 => ?_)
        · skip
          simp only [nk_b0, Classical.not_not] at h19
          refine nk_ldc qX7_61 dX7_flip_27 ?_
          refine nk_ireturn dX7_flip_29 rfl ?_
          exact ⟨rfl, g, m, b, u, l, t, hW⟩
        · skip
          simp only [nk_b0, Classical.not_not] at h19
          refine nk_iload_n (i := 2) dX7_flip_22 rfl rfl ?_
          refine nk_iload_n (i := 3) dX7_flip_23 rfl rfl ?_
          refine nk_icmple (tgt := 30) dX7_flip_24 (by decide) (fun h24 => ?_) (fun h24 => ?_)
          · skip
            exact absurd ⟨h1, h2, h19, h24⟩ hc
          · skip
            refine nk_ldc qX7_61 dX7_flip_27 ?_
            refine nk_ireturn dX7_flip_29 rfl ?_
            exact ⟨rfl, g, m, b, u, l, t, hW⟩
    · skip
      have hc : ¬ (c_flip m b s k y) := fun q => h2 q.2.1
      have e1 : g_A (c_flip m b s k y) A (a_fl (a_kp (A 0) u) (sp_n s) (sp_n k) (sp_n y + 1 - sp_n k)) = A := if_neg hc
      have e2 : g_I (c_flip m b s k y) I u = I := if_neg hc
      have e3 : sp_flip A u m b s k y = -1000001 := by unfold sp_flip; rw [if_neg hc]
      rw [e1, e2, e3]
      have hset := s_setWith_n (G := G) hV (x := s) (y := k) (fun z => h2 z.2)
      refine nk_aload_n (i := 0) dX7_flip_0 rfl rfl ?_
      refine nk_iload_n (i := 1) dX7_flip_1 rfl rfl ?_
      refine nk_iload_n (i := 2) dX7_flip_2 rfl rfl ?_
      refine nk_cVq kX7_124 hset dX7_flip_3 hfs rfl rfl (by decide) (Nat.le_of_ble_eq_true rfl) ?_
      refine nk_J.to (st' := [.null]) ?_ rfl rfl rfl
      refine nk_astoreNT dX7_flip_6 (by decide) ?_
      refine nk_aloadN dX7_flip_8 rfl ?_
      refine nk_ifnullN (tgt := 27) dX7_flip_10 (by decide) ?_
      refine nk_ldc qX7_61 dX7_flip_27 ?_
      refine nk_ireturn dX7_flip_29 rfl ?_
      exact ⟨rfl, g, m, b, u, l, t, hW⟩
  · skip
    have hc : ¬ (c_flip m b s k y) := fun q => h1 q.1
    have e1 : g_A (c_flip m b s k y) A (a_fl (a_kp (A 0) u) (sp_n s) (sp_n k) (sp_n y + 1 - sp_n k)) = A := if_neg hc
    have e2 : g_I (c_flip m b s k y) I u = I := if_neg hc
    have e3 : sp_flip A u m b s k y = -1000001 := by unfold sp_flip; rw [if_neg hc]
    rw [e1, e2, e3]
    have hset := s_setWith_n (G := G) hV (x := s) (y := k) (fun z => h1 z.1)
    refine nk_aload_n (i := 0) dX7_flip_0 rfl rfl ?_
    refine nk_iload_n (i := 1) dX7_flip_1 rfl rfl ?_
    refine nk_iload_n (i := 2) dX7_flip_2 rfl rfl ?_
    refine nk_cVq kX7_124 hset dX7_flip_3 hfs rfl rfl (by decide) (Nat.le_of_ble_eq_true rfl) ?_
    refine nk_J.to (st' := [.null]) ?_ rfl rfl rfl
    refine nk_astoreNT dX7_flip_6 (by decide) ?_
    refine nk_aloadN dX7_flip_8 rfl ?_
    refine nk_ifnullN (tgt := 27) dX7_flip_10 (by decide) ?_
    refine nk_ldc qX7_61 dX7_flip_27 ?_
    refine nk_ireturn dX7_flip_29 rfl ?_
    exact ⟨rfl, g, m, b, u, l, t, hW⟩
theorem s_setAt_g {G : nk_EG} {K : nk_AH} {o m b : Nat} {r : Nat → Int32} (hV : cV K o m b r) (x : Int32) : ∃ v : Option Nat, (v = none ∨ sp_S m x) ∧ nk_Sq G mX7_setAt 3 [.ref o, .int x] K v K := by
  by_cases h : sp_S m x
  · obtain ⟨v1, v2, v3, v4, v5, f1, f2, q, sa, qs, ws, hV2⟩ := hV.S h
    exact ⟨_, Or.inr h, s_setAt_s hV2 h⟩
  · exact ⟨none, Or.inl rfl, s_setAt_n hV h⟩
set_option maxRecDepth 20000 in
theorem s_X7_join {G : nk_EG} {K : nk_AH} {g : Nat → Nat} {o m b u l t : Nat} {A : Nat → Nat → Int32} {I : Nat → Int32} (hW : cW K g o A I m b u l t) {x s1 s2x s : Int32} : nk_S G mX7_join 15 0 0 [.ref o, .int x, .int s1, .int s2x, .int s] K (pW o (sp_join A u m x s1 s2x s) (g_A (c_join m x s1 s2x s) A (a_jn (a_kp (A 0) u) x (sp_n s1) (sp_n s2x) (sp_n s) 32)) (g_I (c_join m x s1 s2x s) I u)) := by
  refine nk_S.of (by decide +kernel) (Nat.le_of_ble_eq_true rfl) rfl ?_
  obtain ⟨hn, a1, a2, a3, a4, a5, sh, hx, hs⟩ := id hW
  have hV := hW.V
  obtain ⟨fs, hfs⟩ := hV.o
  by_cases hc : c_join m x s1 s2x s
  · skip
    have e1 : g_A (c_join m x s1 s2x s) A (a_jn (a_kp (A 0) u) x (sp_n s1) (sp_n s2x) (sp_n s) 32) = va_up A 0 (a_jn (a_kp (A 0) u) x (sp_n s1) (sp_n s2x) (sp_n s) 32) := if_pos hc
    have e2 : g_I (c_join m x s1 s2x s) I u = va_up I 0 (nI (u_kp u + 1)) := if_pos hc
    have e3 : sp_join A u m x s1 s2x s = nI (fb_ct (nk_mem (a_jn (a_kp (A 0) u) x (sp_n s1) (sp_n s2x) (sp_n s) 32) 0 (sp_n s)) 1024) := by unfold sp_join; rw [if_pos hc]
    rw [e1, e2, e3]
    clear e1 e2 e3
    obtain ⟨h0, h3, h4, h1⟩ := hc
    obtain ⟨hj1, hje1⟩ := sp_n_S h3
    obtain ⟨hj2, hje2⟩ := sp_n_S h4
    obtain ⟨q, sa, qs, ws, rfl, s2, s3, s4, s5⟩ := hs.S h1
    have hV2 : cVs K o m b (A 0) (.ref a1) (.ref a2) (.ref a3) (.ref a4) (.ref a5) (.int (I 2)) (.int (I 3)) q sa qs ws := ⟨hx.1.1, s3.1, s2⟩
    have hm4 := hV2.2.2.2.2.2.1
    have hb2 := hV2.2.2.2.2.2.2.1
    have hb10 := hV2.2.2.2.2.2.2.2.1
    have hV7 := hV2.2.2.2.2.2.2.2.2
    have hwm := wm_f b hb10 hb2
    obtain ⟨hj, hse⟩ := sp_n_S h1
    have hd := s_setAt_s (G := G) hV2 h1
    have hX := hV2.2.1.2.2 _ hj
    obtain ⟨hκ, hz⟩ := hV7 _ hj
    generalize hje : sp_n s = j at *
    subst hse
    have ha := s_setAt_s (G := G) hV2 h3
    have hb := s_setAt_s (G := G) hV2 h4
    have hX1 := hV2.2.1.2.2 _ hj1
    have hX2 := hV2.2.1.2.2 _ hj2
    have hz1 := (hV7 _ hj1).2
    have hz2 := (hV7 _ hj2).2
    generalize hq1 : sp_n s1 = j1 at *
    generalize hq2 : sp_n s2x = j2 at *
    subst hje1
    subst hje2
    obtain ⟨b1, b2, z, bf, c, c1, c2, c3, hc, -, c6, c7⟩ := s4
    obtain ⟨f, hk, hf⟩ := hX
    obtain ⟨g0, hg0⟩ := c6 c hc
    have hu := hn.2.2.1
    have hA : cA0 K a4 b1 b2 z bf c u := ⟨c1.1, c2.1, c3.1⟩
    have k3 := kp3_rk (K := K) (g := g) (u := u) (b := b) (z := z) (f := f) (g0 := g0) (q1 := qs j) c1 c2 hg0
    have hk3 : cK (kp3 K a4 b1 b2 z bf c u (qs j) f g0 b) (qs j) (ws j) j (shK (A 0) 0 j) b f := hk.k3 k3 (s3.2.2.2 j hj).1 (s3.2.2.2 j hj).2 (by omega)
    have ho3 := hx.1.mv k3 (by omega)
    have hkp := s_X0_keep (G := G) hA hc hu hk hb2 hb10 hg0.1
    obtain ⟨f1, hk1, hf1⟩ := hX1
    obtain ⟨f2, hk2, hf2⟩ := hX2
    have hk31 := hk1.k3 k3 (s3.2.2.2 j1 hj1).1 (s3.2.2.2 j1 hj1).2 (by omega)
    have hk32 := hk2.k3 k3 (s3.2.2.2 j2 hj2).1 (s3.2.2.2 j2 hj2).2 (by omega)
    have hfn : ∀ v, v < nk_wm b → (fa_fill (fun u => jn x (f1 u) (f2 u)) f (nk_wm b)) v = shF (a_jn (a_kp (A 0) u) x j1 j2 j 32) 0 j v := fun v hv => by
      rw [fa_fill_in hv]
      show _ = a_jn (a_kp (A 0) u) x j1 j2 j 32 (0 + 6 + 32 * j + v)
      rw [show 0 + 6 + 32 * j + v = 6 + 32 * j + v by omega, (a_jn_w 32 (Nat.le_refl _)).1 v (by omega), if_pos (by omega), a_kp_lo (by omega), a_kp_lo (by omega), hf1 v hv, hf2 v hv, jn_op]
      all_goals exact congr (congrArg (pf_op x) (congrArg (A 0) (by omega))) (congrArg (A 0) (by omega))
    have hzr : gz (shF (a_jn (a_kp (A 0) u) x j1 j2 j 32) 0 j) b := a_jn_gz (gz_kp (by omega) hz1) (gz_kp (by omega) hz2)
    have hof : ofs (a_kp (A 0) u) (a_jn (a_kp (A 0) u) x j1 j2 j 32) j (nk_wm b) := fun i hi hni => by
      by_cases y : 6 + 32 * j ≤ i ∧ i < 6 + 32 * j + 32
      · have w1 := gz_word hzr hb2 hb10 (v := i - (6 + 32 * j)) (by omega) (by omega)
        have w2 := gz_word (gz_kp (u := u) (by omega) hz) hb2 hb10 (v := i - (6 + 32 * j)) (by omega) (by omega)
        have i1 : shF (a_jn (a_kp (A 0) u) x j1 j2 j 32) 0 j (i - (6 + 32 * j)) = a_jn (a_kp (A 0) u) x j1 j2 j 32 i := congrArg (a_jn (a_kp (A 0) u) x j1 j2 j 32) (by omega)
        have i2 : shF (a_kp (A 0) u) 0 j (i - (6 + 32 * j)) = a_kp (A 0) u i := congrArg (a_kp (A 0) u) (by omega)
        rw [← i1, ← i2, w1, w2]
      · exact (a_jn_w 32 (Nat.le_refl _)).2 i y
    refine nk_aload_n (i := 0) dX7_join_0 rfl rfl ?_
    refine nk_iload_n (i := 2) dX7_join_1 rfl rfl ?_
    refine nk_cVq kX7_140 ha dX7_join_2 hfs rfl rfl (by decide) (Nat.le_of_ble_eq_true rfl) ?_
    refine nk_J.to (st' := [.ref (qs j1)]) ?_ rfl rfl rfl
    refine nk_astoreT dX7_join_5 (by decide) ?_
    refine nk_aload_n (i := 0) dX7_join_7 rfl rfl ?_
    refine nk_iload_n (i := 3) dX7_join_8 rfl rfl ?_
    refine nk_cVq kX7_140 hb dX7_join_9 hfs rfl rfl (by decide) (Nat.le_of_ble_eq_true rfl) ?_
    refine nk_J.to (st' := [.ref (qs j2)]) ?_ rfl rfl rfl
    refine nk_astoreT dX7_join_12 (by decide) ?_
    refine nk_aload_n (i := 0) dX7_join_14 rfl rfl ?_
    refine nk_iload dX7_join_15 rfl ?_
    refine nk_cVq kX7_140 hd dX7_join_17 hfs rfl rfl (by decide) (Nat.le_of_ble_eq_true rfl) ?_
    refine nk_J.to (st' := [.ref (qs j)]) ?_ rfl rfl rfl
    refine nk_astoreT dX7_join_20 (by decide) ?_
    refine nk_iload_n (i := 1) dX7_join_22 rfl rfl ?_
    refine nk_iconst (v := 0) dX7_join_23 (by decide) ?_
    refine nk_iconst (v := 3) dX7_join_24 (by decide) ?_
    refine nk_cSi kX7_57 (s_X7_within) dX7_join_25 rfl rfl (by decide) (Nat.le_of_ble_eq_true rfl) ?_
    refine nk_ifeq (tgt := 46) dX7_join_28 (by decide) (fun h28 => by first | exact absurd h28 (nk_y h0) | exact absurd (nk_y h0) h28) (fun _ => ?_)
    refine nk_aload dX7_join_31 rfl ?_
    refine nk_ifnullR dX7_join_33 ?_
    refine nk_aload dX7_join_36 rfl ?_
    refine nk_ifnullR dX7_join_38 ?_
    refine nk_aload dX7_join_41 rfl ?_
    refine nk_ifnonnullR (tgt := 49) dX7_join_43 (by decide) ?_
    refine nk_aload_n (i := 0) dX7_join_49 rfl rfl ?_
    refine nk_getf fX7_31 dX7_join_50 hx.1.1 rfl ?_
    refine nk_aload dX7_join_53 rfl ?_
    refine nk_cVv kX7_144 (hkp) dX7_join_55 c1.1 rfl rfl (by decide) (Nat.le_of_ble_eq_true rfl) ?_
    refine nk_aload dX7_join_58 rfl ?_
    refine nk_iload_n (i := 1) dX7_join_60 rfl rfl ?_
    refine nk_aload dX7_join_61 rfl ?_
    refine nk_aload dX7_join_63 rfl ?_
    refine nk_cVv kX7_148 (s_X2_becomeJoined hk3 hb2 hb10 hk31 hk32) dX7_join_65 hk3.1 rfl rfl (by decide) (Nat.le_of_ble_eq_true rfl) ?_
    have hX4 : cX (nk_u (kp3 K a4 b1 b2 z bf c u (qs j) f g0 b) (ws j) (inc (nk_wm b) (fa_fill (fun u => jn x (f1 u) (f2 u)) f (nk_wm b)))) (qs j) (ws j) j (shK (A 0) 0 j) b (shF (a_jn (a_kp (A 0) u) x j1 j2 j 32) 0 j) := ⟨_, hk3.u, hfn⟩
    refine nk_aload dX7_join_68 rfl ?_
    refine nk_cVi kX7_152 (hX4.i (fun H' hk => s_X2_size hk hb2 hb10 hzr)) dX7_join_70 hX4.o rfl rfl (by decide) (Nat.le_of_ble_eq_true rfl) ?_
    refine nk_ireturn dX7_join_73 rfl ?_
    exact ⟨rfl, g, m, b, u_kp u + 1, l, t, cW.act (A' := va_up A 0 (a_jn (a_kp (A 0) u) x j1 j2 j 32)) (I' := va_up I 0 (nI (u_kp u + 1))) (s := j) (fn := _) hn hx s2 s3 s5 c1 c2 c3 hc c6 c7 hj hf hfn (hof).hr2 ((hof).hr3 (by omega) (by omega)) hzr rfl rfl rfl rfl rfl rfl rfl rfl rfl rfl rfl rfl⟩
  · skip
    have e1 : g_A (c_join m x s1 s2x s) A (a_jn (a_kp (A 0) u) x (sp_n s1) (sp_n s2x) (sp_n s) 32) = A := if_neg hc
    have e2 : g_I (c_join m x s1 s2x s) I u = I := if_neg hc
    have e3 : sp_join A u m x s1 s2x s = -1000001 := by unfold sp_join; rw [if_neg hc]
    rw [e1, e2, e3]
    obtain ⟨w1, hw1, ha⟩ := s_setAt_g (G := G) hV s1
    obtain ⟨w2, hw2, hb⟩ := s_setAt_g (G := G) hV s2x
    obtain ⟨w3, hw3, hd⟩ := s_setAt_g (G := G) hV s
    cases w1 with
    | none =>
      cases w2 with
      | none =>
        cases w3 with
        | none =>
          refine nk_aload_n (i := 0) dX7_join_0 rfl rfl ?_
          refine nk_iload_n (i := 2) dX7_join_1 rfl rfl ?_
          refine nk_cVq kX7_140 ha dX7_join_2 hfs rfl rfl (by decide) (Nat.le_of_ble_eq_true rfl) ?_
          refine nk_J.to (st' := [.null]) ?_ rfl rfl rfl
          refine nk_astoreNT dX7_join_5 (by decide) ?_
          refine nk_aload_n (i := 0) dX7_join_7 rfl rfl ?_
          refine nk_iload_n (i := 3) dX7_join_8 rfl rfl ?_
          refine nk_cVq kX7_140 hb dX7_join_9 hfs rfl rfl (by decide) (Nat.le_of_ble_eq_true rfl) ?_
          refine nk_J.to (st' := [.null]) ?_ rfl rfl rfl
          refine nk_astoreNT dX7_join_12 (by decide) ?_
          refine nk_aload_n (i := 0) dX7_join_14 rfl rfl ?_
          refine nk_iload dX7_join_15 rfl ?_
          refine nk_cVq kX7_140 hd dX7_join_17 hfs rfl rfl (by decide) (Nat.le_of_ble_eq_true rfl) ?_
          refine nk_J.to (st' := [.null]) ?_ rfl rfl rfl
          refine nk_astoreNT dX7_join_20 (by decide) ?_
          refine nk_iload_n (i := 1) dX7_join_22 rfl rfl ?_
          refine nk_iconst (v := 0) dX7_join_23 (by decide) ?_
          refine nk_iconst (v := 3) dX7_join_24 (by decide) ?_
          refine nk_cSi kX7_57 (s_X7_within) dX7_join_25 rfl rfl (by decide) (Nat.le_of_ble_eq_true rfl) ?_
          refine nk_ifeq (tgt := 46) dX7_join_28 (by decide) (fun h28 => ?_) (fun h28 => ?_)
          · skip
            simp only [ne_eq, nk_b0, Classical.not_not] at h28
            first | (have hR : sp_R x 0 3 := h28) | (have hR : ¬ sp_R x 0 3 := h28)
            refine nk_ldc qX7_61 dX7_join_46 ?_
            refine nk_ireturn dX7_join_48 rfl ?_
            exact ⟨rfl, g, m, b, u, l, t, hW⟩
          · skip
            simp only [ne_eq, nk_b0, Classical.not_not] at h28
            first | (have hR : sp_R x 0 3 := h28) | (have hR : ¬ sp_R x 0 3 := h28)
            refine nk_aloadN dX7_join_31 rfl ?_
            refine nk_ifnullN (tgt := 46) dX7_join_33 (by decide) ?_
            refine nk_ldc qX7_61 dX7_join_46 ?_
            refine nk_ireturn dX7_join_48 rfl ?_
            exact ⟨rfl, g, m, b, u, l, t, hW⟩
        | some x3 =>
          refine nk_aload_n (i := 0) dX7_join_0 rfl rfl ?_
          refine nk_iload_n (i := 2) dX7_join_1 rfl rfl ?_
          refine nk_cVq kX7_140 ha dX7_join_2 hfs rfl rfl (by decide) (Nat.le_of_ble_eq_true rfl) ?_
          refine nk_J.to (st' := [.null]) ?_ rfl rfl rfl
          refine nk_astoreNT dX7_join_5 (by decide) ?_
          refine nk_aload_n (i := 0) dX7_join_7 rfl rfl ?_
          refine nk_iload_n (i := 3) dX7_join_8 rfl rfl ?_
          refine nk_cVq kX7_140 hb dX7_join_9 hfs rfl rfl (by decide) (Nat.le_of_ble_eq_true rfl) ?_
          refine nk_J.to (st' := [.null]) ?_ rfl rfl rfl
          refine nk_astoreNT dX7_join_12 (by decide) ?_
          refine nk_aload_n (i := 0) dX7_join_14 rfl rfl ?_
          refine nk_iload dX7_join_15 rfl ?_
          refine nk_cVq kX7_140 hd dX7_join_17 hfs rfl rfl (by decide) (Nat.le_of_ble_eq_true rfl) ?_
          refine nk_J.to (st' := [.ref x3]) ?_ rfl rfl rfl
          refine nk_astoreT dX7_join_20 (by decide) ?_
          refine nk_iload_n (i := 1) dX7_join_22 rfl rfl ?_
          refine nk_iconst (v := 0) dX7_join_23 (by decide) ?_
          refine nk_iconst (v := 3) dX7_join_24 (by decide) ?_
          refine nk_cSi kX7_57 (s_X7_within) dX7_join_25 rfl rfl (by decide) (Nat.le_of_ble_eq_true rfl) ?_
          refine nk_ifeq (tgt := 46) dX7_join_28 (by decide) (fun h28 => ?_) (fun h28 => ?_)
          · skip
            simp only [ne_eq, nk_b0, Classical.not_not] at h28
            first | (have hR : sp_R x 0 3 := h28) | (have hR : ¬ sp_R x 0 3 := h28)
            refine nk_ldc qX7_61 dX7_join_46 ?_
            refine nk_ireturn dX7_join_48 rfl ?_
            exact ⟨rfl, g, m, b, u, l, t, hW⟩
          · skip
            simp only [ne_eq, nk_b0, Classical.not_not] at h28
            first | (have hR : sp_R x 0 3 := h28) | (have hR : ¬ sp_R x 0 3 := h28)
            refine nk_aloadN dX7_join_31 rfl ?_
            refine nk_ifnullN (tgt := 46) dX7_join_33 (by decide) ?_
            refine nk_ldc qX7_61 dX7_join_46 ?_
            refine nk_ireturn dX7_join_48 rfl ?_
            exact ⟨rfl, g, m, b, u, l, t, hW⟩
      | some x2 =>
        cases w3 with
        | none =>
          refine nk_aload_n (i := 0) dX7_join_0 rfl rfl ?_
          refine nk_iload_n (i := 2) dX7_join_1 rfl rfl ?_
          refine nk_cVq kX7_140 ha dX7_join_2 hfs rfl rfl (by decide) (Nat.le_of_ble_eq_true rfl) ?_
          refine nk_J.to (st' := [.null]) ?_ rfl rfl rfl
          refine nk_astoreNT dX7_join_5 (by decide) ?_
          refine nk_aload_n (i := 0) dX7_join_7 rfl rfl ?_
          refine nk_iload_n (i := 3) dX7_join_8 rfl rfl ?_
          refine nk_cVq kX7_140 hb dX7_join_9 hfs rfl rfl (by decide) (Nat.le_of_ble_eq_true rfl) ?_
          refine nk_J.to (st' := [.ref x2]) ?_ rfl rfl rfl
          refine nk_astoreT dX7_join_12 (by decide) ?_
          refine nk_aload_n (i := 0) dX7_join_14 rfl rfl ?_
          refine nk_iload dX7_join_15 rfl ?_
          refine nk_cVq kX7_140 hd dX7_join_17 hfs rfl rfl (by decide) (Nat.le_of_ble_eq_true rfl) ?_
          refine nk_J.to (st' := [.null]) ?_ rfl rfl rfl
          refine nk_astoreNT dX7_join_20 (by decide) ?_
          refine nk_iload_n (i := 1) dX7_join_22 rfl rfl ?_
          refine nk_iconst (v := 0) dX7_join_23 (by decide) ?_
          refine nk_iconst (v := 3) dX7_join_24 (by decide) ?_
          refine nk_cSi kX7_57 (s_X7_within) dX7_join_25 rfl rfl (by decide) (Nat.le_of_ble_eq_true rfl) ?_
          refine nk_ifeq (tgt := 46) dX7_join_28 (by decide) (fun h28 => ?_) (fun h28 => ?_)
          · skip
            simp only [ne_eq, nk_b0, Classical.not_not] at h28
            first | (have hR : sp_R x 0 3 := h28) | (have hR : ¬ sp_R x 0 3 := h28)
            refine nk_ldc qX7_61 dX7_join_46 ?_
            refine nk_ireturn dX7_join_48 rfl ?_
            exact ⟨rfl, g, m, b, u, l, t, hW⟩
          · skip
            simp only [ne_eq, nk_b0, Classical.not_not] at h28
            first | (have hR : sp_R x 0 3 := h28) | (have hR : ¬ sp_R x 0 3 := h28)
            refine nk_aloadN dX7_join_31 rfl ?_
            refine nk_ifnullN (tgt := 46) dX7_join_33 (by decide) ?_
            refine nk_ldc qX7_61 dX7_join_46 ?_
            refine nk_ireturn dX7_join_48 rfl ?_
            exact ⟨rfl, g, m, b, u, l, t, hW⟩
        | some x3 =>
          refine nk_aload_n (i := 0) dX7_join_0 rfl rfl ?_
          refine nk_iload_n (i := 2) dX7_join_1 rfl rfl ?_
          refine nk_cVq kX7_140 ha dX7_join_2 hfs rfl rfl (by decide) (Nat.le_of_ble_eq_true rfl) ?_
          refine nk_J.to (st' := [.null]) ?_ rfl rfl rfl
          refine nk_astoreNT dX7_join_5 (by decide) ?_
          refine nk_aload_n (i := 0) dX7_join_7 rfl rfl ?_
          refine nk_iload_n (i := 3) dX7_join_8 rfl rfl ?_
          refine nk_cVq kX7_140 hb dX7_join_9 hfs rfl rfl (by decide) (Nat.le_of_ble_eq_true rfl) ?_
          refine nk_J.to (st' := [.ref x2]) ?_ rfl rfl rfl
          refine nk_astoreT dX7_join_12 (by decide) ?_
          refine nk_aload_n (i := 0) dX7_join_14 rfl rfl ?_
          refine nk_iload dX7_join_15 rfl ?_
          refine nk_cVq kX7_140 hd dX7_join_17 hfs rfl rfl (by decide) (Nat.le_of_ble_eq_true rfl) ?_
          refine nk_J.to (st' := [.ref x3]) ?_ rfl rfl rfl
          refine nk_astoreT dX7_join_20 (by decide) ?_
          refine nk_iload_n (i := 1) dX7_join_22 rfl rfl ?_
          refine nk_iconst (v := 0) dX7_join_23 (by decide) ?_
          refine nk_iconst (v := 3) dX7_join_24 (by decide) ?_
          refine nk_cSi kX7_57 (s_X7_within) dX7_join_25 rfl rfl (by decide) (Nat.le_of_ble_eq_true rfl) ?_
          refine nk_ifeq (tgt := 46) dX7_join_28 (by decide) (fun h28 => ?_) (fun h28 => ?_)
          · skip
            simp only [ne_eq, nk_b0, Classical.not_not] at h28
            first | (have hR : sp_R x 0 3 := h28) | (have hR : ¬ sp_R x 0 3 := h28)
            refine nk_ldc qX7_61 dX7_join_46 ?_
            refine nk_ireturn dX7_join_48 rfl ?_
            exact ⟨rfl, g, m, b, u, l, t, hW⟩
          · skip
            simp only [ne_eq, nk_b0, Classical.not_not] at h28
            first | (have hR : sp_R x 0 3 := h28) | (have hR : ¬ sp_R x 0 3 := h28)
            refine nk_aloadN dX7_join_31 rfl ?_
            refine nk_ifnullN (tgt := 46) dX7_join_33 (by decide) ?_
            refine nk_ldc qX7_61 dX7_join_46 ?_
            refine nk_ireturn dX7_join_48 rfl ?_
            exact ⟨rfl, g, m, b, u, l, t, hW⟩
    | some x1 =>
      cases w2 with
      | none =>
        cases w3 with
        | none =>
          refine nk_aload_n (i := 0) dX7_join_0 rfl rfl ?_
          refine nk_iload_n (i := 2) dX7_join_1 rfl rfl ?_
          refine nk_cVq kX7_140 ha dX7_join_2 hfs rfl rfl (by decide) (Nat.le_of_ble_eq_true rfl) ?_
          refine nk_J.to (st' := [.ref x1]) ?_ rfl rfl rfl
          refine nk_astoreT dX7_join_5 (by decide) ?_
          refine nk_aload_n (i := 0) dX7_join_7 rfl rfl ?_
          refine nk_iload_n (i := 3) dX7_join_8 rfl rfl ?_
          refine nk_cVq kX7_140 hb dX7_join_9 hfs rfl rfl (by decide) (Nat.le_of_ble_eq_true rfl) ?_
          refine nk_J.to (st' := [.null]) ?_ rfl rfl rfl
          refine nk_astoreNT dX7_join_12 (by decide) ?_
          refine nk_aload_n (i := 0) dX7_join_14 rfl rfl ?_
          refine nk_iload dX7_join_15 rfl ?_
          refine nk_cVq kX7_140 hd dX7_join_17 hfs rfl rfl (by decide) (Nat.le_of_ble_eq_true rfl) ?_
          refine nk_J.to (st' := [.null]) ?_ rfl rfl rfl
          refine nk_astoreNT dX7_join_20 (by decide) ?_
          refine nk_iload_n (i := 1) dX7_join_22 rfl rfl ?_
          refine nk_iconst (v := 0) dX7_join_23 (by decide) ?_
          refine nk_iconst (v := 3) dX7_join_24 (by decide) ?_
          refine nk_cSi kX7_57 (s_X7_within) dX7_join_25 rfl rfl (by decide) (Nat.le_of_ble_eq_true rfl) ?_
          refine nk_ifeq (tgt := 46) dX7_join_28 (by decide) (fun h28 => ?_) (fun h28 => ?_)
          · skip
            simp only [ne_eq, nk_b0, Classical.not_not] at h28
            first | (have hR : sp_R x 0 3 := h28) | (have hR : ¬ sp_R x 0 3 := h28)
            refine nk_ldc qX7_61 dX7_join_46 ?_
            refine nk_ireturn dX7_join_48 rfl ?_
            exact ⟨rfl, g, m, b, u, l, t, hW⟩
          · skip
            simp only [ne_eq, nk_b0, Classical.not_not] at h28
            first | (have hR : sp_R x 0 3 := h28) | (have hR : ¬ sp_R x 0 3 := h28)
            refine nk_aload dX7_join_31 rfl ?_
            refine nk_ifnullR dX7_join_33 ?_
            refine nk_aloadN dX7_join_36 rfl ?_
            refine nk_ifnullN (tgt := 46) dX7_join_38 (by decide) ?_
            refine nk_ldc qX7_61 dX7_join_46 ?_
            refine nk_ireturn dX7_join_48 rfl ?_
            exact ⟨rfl, g, m, b, u, l, t, hW⟩
        | some x3 =>
          refine nk_aload_n (i := 0) dX7_join_0 rfl rfl ?_
          refine nk_iload_n (i := 2) dX7_join_1 rfl rfl ?_
          refine nk_cVq kX7_140 ha dX7_join_2 hfs rfl rfl (by decide) (Nat.le_of_ble_eq_true rfl) ?_
          refine nk_J.to (st' := [.ref x1]) ?_ rfl rfl rfl
          refine nk_astoreT dX7_join_5 (by decide) ?_
          refine nk_aload_n (i := 0) dX7_join_7 rfl rfl ?_
          refine nk_iload_n (i := 3) dX7_join_8 rfl rfl ?_
          refine nk_cVq kX7_140 hb dX7_join_9 hfs rfl rfl (by decide) (Nat.le_of_ble_eq_true rfl) ?_
          refine nk_J.to (st' := [.null]) ?_ rfl rfl rfl
          refine nk_astoreNT dX7_join_12 (by decide) ?_
          refine nk_aload_n (i := 0) dX7_join_14 rfl rfl ?_
          refine nk_iload dX7_join_15 rfl ?_
          refine nk_cVq kX7_140 hd dX7_join_17 hfs rfl rfl (by decide) (Nat.le_of_ble_eq_true rfl) ?_
          refine nk_J.to (st' := [.ref x3]) ?_ rfl rfl rfl
          refine nk_astoreT dX7_join_20 (by decide) ?_
          refine nk_iload_n (i := 1) dX7_join_22 rfl rfl ?_
          refine nk_iconst (v := 0) dX7_join_23 (by decide) ?_
          refine nk_iconst (v := 3) dX7_join_24 (by decide) ?_
          refine nk_cSi kX7_57 (s_X7_within) dX7_join_25 rfl rfl (by decide) (Nat.le_of_ble_eq_true rfl) ?_
          refine nk_ifeq (tgt := 46) dX7_join_28 (by decide) (fun h28 => ?_) (fun h28 => ?_)
          · skip
            simp only [ne_eq, nk_b0, Classical.not_not] at h28
            first | (have hR : sp_R x 0 3 := h28) | (have hR : ¬ sp_R x 0 3 := h28)
            refine nk_ldc qX7_61 dX7_join_46 ?_
            refine nk_ireturn dX7_join_48 rfl ?_
            exact ⟨rfl, g, m, b, u, l, t, hW⟩
          · skip
            simp only [ne_eq, nk_b0, Classical.not_not] at h28
            first | (have hR : sp_R x 0 3 := h28) | (have hR : ¬ sp_R x 0 3 := h28)
            refine nk_aload dX7_join_31 rfl ?_
            refine nk_ifnullR dX7_join_33 ?_
            refine nk_aloadN dX7_join_36 rfl ?_
            refine nk_ifnullN (tgt := 46) dX7_join_38 (by decide) ?_
            refine nk_ldc qX7_61 dX7_join_46 ?_
            refine nk_ireturn dX7_join_48 rfl ?_
            exact ⟨rfl, g, m, b, u, l, t, hW⟩
      | some x2 =>
        cases w3 with
        | none =>
          refine nk_aload_n (i := 0) dX7_join_0 rfl rfl ?_
          refine nk_iload_n (i := 2) dX7_join_1 rfl rfl ?_
          refine nk_cVq kX7_140 ha dX7_join_2 hfs rfl rfl (by decide) (Nat.le_of_ble_eq_true rfl) ?_
          refine nk_J.to (st' := [.ref x1]) ?_ rfl rfl rfl
          refine nk_astoreT dX7_join_5 (by decide) ?_
          refine nk_aload_n (i := 0) dX7_join_7 rfl rfl ?_
          refine nk_iload_n (i := 3) dX7_join_8 rfl rfl ?_
          refine nk_cVq kX7_140 hb dX7_join_9 hfs rfl rfl (by decide) (Nat.le_of_ble_eq_true rfl) ?_
          refine nk_J.to (st' := [.ref x2]) ?_ rfl rfl rfl
          refine nk_astoreT dX7_join_12 (by decide) ?_
          refine nk_aload_n (i := 0) dX7_join_14 rfl rfl ?_
          refine nk_iload dX7_join_15 rfl ?_
          refine nk_cVq kX7_140 hd dX7_join_17 hfs rfl rfl (by decide) (Nat.le_of_ble_eq_true rfl) ?_
          refine nk_J.to (st' := [.null]) ?_ rfl rfl rfl
          refine nk_astoreNT dX7_join_20 (by decide) ?_
          refine nk_iload_n (i := 1) dX7_join_22 rfl rfl ?_
          refine nk_iconst (v := 0) dX7_join_23 (by decide) ?_
          refine nk_iconst (v := 3) dX7_join_24 (by decide) ?_
          refine nk_cSi kX7_57 (s_X7_within) dX7_join_25 rfl rfl (by decide) (Nat.le_of_ble_eq_true rfl) ?_
          refine nk_ifeq (tgt := 46) dX7_join_28 (by decide) (fun h28 => ?_) (fun h28 => ?_)
          · skip
            simp only [ne_eq, nk_b0, Classical.not_not] at h28
            first | (have hR : sp_R x 0 3 := h28) | (have hR : ¬ sp_R x 0 3 := h28)
            refine nk_ldc qX7_61 dX7_join_46 ?_
            refine nk_ireturn dX7_join_48 rfl ?_
            exact ⟨rfl, g, m, b, u, l, t, hW⟩
          · skip
            simp only [ne_eq, nk_b0, Classical.not_not] at h28
            first | (have hR : sp_R x 0 3 := h28) | (have hR : ¬ sp_R x 0 3 := h28)
            refine nk_aload dX7_join_31 rfl ?_
            refine nk_ifnullR dX7_join_33 ?_
            refine nk_aload dX7_join_36 rfl ?_
            refine nk_ifnullR dX7_join_38 ?_
            refine nk_aloadN dX7_join_41 rfl ?_
            refine nk_ifnonnullN dX7_join_43 ?_
            refine nk_ldc qX7_61 dX7_join_46 ?_
            refine nk_ireturn dX7_join_48 rfl ?_
            exact ⟨rfl, g, m, b, u, l, t, hW⟩
        | some x3 =>
          refine nk_aload_n (i := 0) dX7_join_0 rfl rfl ?_
          refine nk_iload_n (i := 2) dX7_join_1 rfl rfl ?_
          refine nk_cVq kX7_140 ha dX7_join_2 hfs rfl rfl (by decide) (Nat.le_of_ble_eq_true rfl) ?_
          refine nk_J.to (st' := [.ref x1]) ?_ rfl rfl rfl
          refine nk_astoreT dX7_join_5 (by decide) ?_
          refine nk_aload_n (i := 0) dX7_join_7 rfl rfl ?_
          refine nk_iload_n (i := 3) dX7_join_8 rfl rfl ?_
          refine nk_cVq kX7_140 hb dX7_join_9 hfs rfl rfl (by decide) (Nat.le_of_ble_eq_true rfl) ?_
          refine nk_J.to (st' := [.ref x2]) ?_ rfl rfl rfl
          refine nk_astoreT dX7_join_12 (by decide) ?_
          refine nk_aload_n (i := 0) dX7_join_14 rfl rfl ?_
          refine nk_iload dX7_join_15 rfl ?_
          refine nk_cVq kX7_140 hd dX7_join_17 hfs rfl rfl (by decide) (Nat.le_of_ble_eq_true rfl) ?_
          refine nk_J.to (st' := [.ref x3]) ?_ rfl rfl rfl
          refine nk_astoreT dX7_join_20 (by decide) ?_
          refine nk_iload_n (i := 1) dX7_join_22 rfl rfl ?_
          refine nk_iconst (v := 0) dX7_join_23 (by decide) ?_
          refine nk_iconst (v := 3) dX7_join_24 (by decide) ?_
          refine nk_cSi kX7_57 (s_X7_within) dX7_join_25 rfl rfl (by decide) (Nat.le_of_ble_eq_true rfl) ?_
          refine nk_ifeq (tgt := 46) dX7_join_28 (by decide) (fun h28 => ?_) (fun h28 => ?_)
          · skip
            simp only [ne_eq, nk_b0, Classical.not_not] at h28
            first | (have hR : sp_R x 0 3 := h28) | (have hR : ¬ sp_R x 0 3 := h28)
            refine nk_ldc qX7_61 dX7_join_46 ?_
            refine nk_ireturn dX7_join_48 rfl ?_
            exact ⟨rfl, g, m, b, u, l, t, hW⟩
          · skip
            simp only [ne_eq, nk_b0, Classical.not_not] at h28
            first | (have hR : sp_R x 0 3 := h28) | (have hR : ¬ sp_R x 0 3 := h28)
            refine nk_aload dX7_join_31 rfl ?_
            refine nk_ifnullR dX7_join_33 ?_
            refine nk_aload dX7_join_36 rfl ?_
            refine nk_ifnullR dX7_join_38 ?_
            refine nk_aload dX7_join_41 rfl ?_
            refine nk_ifnonnullR (tgt := 49) dX7_join_43 (by decide) ?_
            exact absurd ⟨hR, hw1.resolve_left (fun z => by cases z), hw2.resolve_left (fun z => by cases z), hw3.resolve_left (fun z => by cases z)⟩ hc

set_option maxRecDepth 20000 in
theorem s_X7_shift {G : nk_EG} {K : nk_AH} {g : Nat → Nat} {o m b u l t : Nat} {A : Nat → Nat → Int32} {I : Nat → Int32} (hW : cW K g o A I m b u l t) {s x : Int32} : nk_S G mX7_shift 15 1 32 [.ref o, .int s, .int x] K (pW o (sp_shift A u m b s x) (g_A (c_shift m s x) A (a_sft (a_kp (A 0) u) (sp_n s) (nk_tp b) x.toInt)) (g_I (c_shift m s x) I u)) := by
  refine nk_S.of (by decide +kernel) (Nat.le_of_ble_eq_true rfl) rfl ?_
  obtain ⟨hn, a1, a2, a3, a4, a5, sh, hx, hs⟩ := id hW
  have hV := hW.V
  obtain ⟨fs, hfs⟩ := hV.o
  by_cases h1 : sp_S m s
  · by_cases hc : c_shift m s x
    · skip
      have e1 : g_A (c_shift m s x) A (a_sft (a_kp (A 0) u) (sp_n s) (nk_tp b) x.toInt) = va_up A 0 (a_sft (a_kp (A 0) u) (sp_n s) (nk_tp b) x.toInt) := if_pos hc
      have e2 : g_I (c_shift m s x) I u = va_up I 0 (nI (u_kp u + 1)) := if_pos hc
      have e3 : sp_shift A u m b s x = nI (fb_ct (nk_mem (a_sft (a_kp (A 0) u) (sp_n s) (nk_tp b) x.toInt) 0 (sp_n s)) 1024) := by unfold sp_shift; rw [if_pos hc]
      rw [e1, e2, e3]
      clear e1 e2 e3
      have h2 := hc.2
      clear hc
      obtain ⟨q, sa, qs, ws, rfl, s2, s3, s4, s5⟩ := hs.S h1
      have hV2 : cVs K o m b (A 0) (.ref a1) (.ref a2) (.ref a3) (.ref a4) (.ref a5) (.int (I 2)) (.int (I 3)) q sa qs ws := ⟨hx.1.1, s3.1, s2⟩
      have hm4 := hV2.2.2.2.2.2.1
      have hb2 := hV2.2.2.2.2.2.2.1
      have hb10 := hV2.2.2.2.2.2.2.2.1
      have hV7 := hV2.2.2.2.2.2.2.2.2
      have hwm := wm_f b hb10 hb2
      obtain ⟨hj, hse⟩ := sp_n_S h1
      have hset := s_setAt_s (G := G) hV2 h1
      have hX := hV2.2.1.2.2 _ hj
      obtain ⟨hκ, hz⟩ := hV7 _ hj
      generalize hje : sp_n s = j at *
      subst hse
      obtain ⟨b1, b2, z, bf, c, c1, c2, c3, hc, -, c6, c7⟩ := s4
      obtain ⟨f, hk, hf⟩ := hX
      obtain ⟨g0, hg0⟩ := c6 c hc
      have hu := hn.2.2.1
      have hA : cA0 K a4 b1 b2 z bf c u := ⟨c1.1, c2.1, c3.1⟩
      have k3 := kp3_rk (K := K) (g := g) (u := u) (b := b) (z := z) (f := f) (g0 := g0) (q1 := qs j) c1 c2 hg0
      have hk3 : cK (kp3 K a4 b1 b2 z bf c u (qs j) f g0 b) (qs j) (ws j) j (shK (A 0) 0 j) b f := hk.k3 k3 (s3.2.2.2 j hj).1 (s3.2.2.2 j hj).2 (by omega)
      have ho3 := hx.1.mv k3 (by omega)
      have hkp := s_X0_keep (G := G) hA hc hu hk hb2 hb10 hg0.1
      have hfn : ∀ v, v < nk_wm b → (fa_fill (fun u : Nat => co f (nk_wm b) (32 * (u : Int) - x.toInt) &&& sw u 0 ((nk_tp b : Int) - 1)) f (nk_wm b)) v = shF (a_sft (a_kp (A 0) u) j (nk_tp b) x.toInt) 0 j v := fun v hv => by
        rw [fa_fill_in hv]
        exact a_sft_w (by omega) hb2 hb10 (gz_kp (by omega) hz) (fun w hw => by rw [shF_kp (by omega) (by omega)]; exact hf w hw) v hv
      have hzr : gz (shF (a_sft (a_kp (A 0) u) j (nk_tp b) x.toInt) 0 j) b := a_sft_gz (by omega) hb2 hb10
      have hof : ofs (a_kp (A 0) u) (a_sft (a_kp (A 0) u) j (nk_tp b) x.toInt) j (nk_wm b) := a_sft_ofs (by omega) hb2 hb10 (gz_kp (by omega) hz)
      refine nk_aload_n (i := 0) dX7_shift_0 rfl rfl ?_
      refine nk_iload_n (i := 1) dX7_shift_1 rfl rfl ?_
      refine nk_cVq kX7_140 hset dX7_shift_2 hfs rfl rfl (by decide) (Nat.le_of_ble_eq_true rfl) ?_
      refine nk_J.to (st' := [.ref (qs j)]) ?_ rfl rfl rfl
      refine nk_astore_nT (i := 3) dX7_shift_5 rfl (by decide) ?_
      refine nk_aload_n (i := 3) dX7_shift_6 rfl rfl ?_
      refine nk_ifnullR dX7_shift_7 ?_
      refine nk_iload_n (i := 2) dX7_shift_10 rfl rfl ?_
      refine nk_sipush (v := -9999) dX7_shift_11 (by decide) ?_
      refine nk_sipush (v := 9999) dX7_shift_14 (by decide) ?_
      refine nk_cSi kX7_57 (s_X7_within) dX7_shift_17 rfl rfl (by decide) (Nat.le_of_ble_eq_true rfl) ?_
      refine nk_ifne (tgt := 26) dX7_shift_20 (by decide) (fun _ => ?_) (fun h20 => by first | exact absurd (nk_y h2) h20 | exact absurd h20 (nk_y h2))
      refine nk_aload_n (i := 0) dX7_shift_26 rfl rfl ?_
      refine nk_getf fX7_31 dX7_shift_27 hx.1.1 rfl ?_
      refine nk_aload_n (i := 3) dX7_shift_30 rfl rfl ?_
      refine nk_cVv kX7_144 (hkp) dX7_shift_31 c1.1 rfl rfl (by decide) (Nat.le_of_ble_eq_true rfl) ?_
      refine nk_aload_n (i := 3) dX7_shift_34 rfl rfl ?_
      refine nk_iload_n (i := 2) dX7_shift_35 rfl rfl ?_
      refine nk_cV (bc' := 0) (bs' := 0) kX7_156 (s_X2_moveBy hk3 hb2 hb10 h2) dX7_shift_36 hk3.1 rfl rfl (by decide) (Nat.le_of_ble_eq_true rfl) ⟨Nat.le_refl _, Nat.le_refl _⟩ (fun rr H2 hr => ?_)
      obtain ⟨rfl, rfl⟩ := hr
      have hX4 : cX (nk_u (kp3 K a4 b1 b2 z bf c u (qs j) f g0 b) (ws j) (inc (nk_wm b) (fa_fill (fun u : Nat => co f (nk_wm b) (32 * (u : Int) - x.toInt) &&& sw u 0 ((nk_tp b : Int) - 1)) f (nk_wm b)))) (qs j) (ws j) j (shK (A 0) 0 j) b (shF (a_sft (a_kp (A 0) u) j (nk_tp b) x.toInt) 0 j) := ⟨_, hk3.u, hfn⟩
      refine nk_aload_n (i := 3) dX7_shift_39 rfl rfl ?_
      refine nk_cVi kX7_152 (hX4.i (fun H' hk => s_X2_size hk hb2 hb10 hzr)) dX7_shift_40 hX4.o rfl rfl (by decide) (Nat.le_of_ble_eq_true rfl) ?_
      refine nk_ireturn dX7_shift_43 rfl ?_
      exact ⟨rfl, g, m, b, u_kp u + 1, l, t, cW.act (A' := va_up A 0 (a_sft (a_kp (A 0) u) j (nk_tp b) x.toInt)) (I' := va_up I 0 (nI (u_kp u + 1))) (s := j) (fn := _) hn hx s2 s3 s5 c1 c2 c3 hc c6 c7 hj hf hfn (hof).hr2 ((hof).hr3 (by omega) (by omega)) hzr rfl rfl rfl rfl rfl rfl rfl rfl rfl rfl rfl rfl⟩
    · skip
      have e1 : g_A (c_shift m s x) A (a_sft (a_kp (A 0) u) (sp_n s) (nk_tp b) x.toInt) = A := if_neg hc
      have e2 : g_I (c_shift m s x) I u = I := if_neg hc
      have e3 : sp_shift A u m b s x = -1000001 := by unfold sp_shift; rw [if_neg hc]
      rw [e1, e2, e3]
      clear e1 e2 e3
      have h2 : ¬ sp_R x (-9999) 9999 := fun q => hc ⟨h1, q⟩
      clear hc
      obtain ⟨q, sa, qs, ws, rfl, s2, s3, s4, s5⟩ := hs.S h1
      have hV2 : cVs K o m b (A 0) (.ref a1) (.ref a2) (.ref a3) (.ref a4) (.ref a5) (.int (I 2)) (.int (I 3)) q sa qs ws := ⟨hx.1.1, s3.1, s2⟩
      have hm4 := hV2.2.2.2.2.2.1
      have hb2 := hV2.2.2.2.2.2.2.1
      have hb10 := hV2.2.2.2.2.2.2.2.1
      have hV7 := hV2.2.2.2.2.2.2.2.2
      have hwm := wm_f b hb10 hb2
      obtain ⟨hj, hse⟩ := sp_n_S h1
      have hset := s_setAt_s (G := G) hV2 h1
      have hX := hV2.2.1.2.2 _ hj
      obtain ⟨hκ, hz⟩ := hV7 _ hj
      generalize hje : sp_n s = j at *
      subst hse
      refine nk_aload_n (i := 0) dX7_shift_0 rfl rfl ?_
      refine nk_iload_n (i := 1) dX7_shift_1 rfl rfl ?_
      refine nk_cVq kX7_140 hset dX7_shift_2 hfs rfl rfl (by decide) (Nat.le_of_ble_eq_true rfl) ?_
      refine nk_J.to (st' := [.ref (qs j)]) ?_ rfl rfl rfl
      refine nk_astore_nT (i := 3) dX7_shift_5 rfl (by decide) ?_
      refine nk_aload_n (i := 3) dX7_shift_6 rfl rfl ?_
      refine nk_ifnullR dX7_shift_7 ?_
      refine nk_iload_n (i := 2) dX7_shift_10 rfl rfl ?_
      refine nk_sipush (v := -9999) dX7_shift_11 (by decide) ?_
      refine nk_sipush (v := 9999) dX7_shift_14 (by decide) ?_
      refine nk_cSi kX7_57 (s_X7_within) dX7_shift_17 rfl rfl (by decide) (Nat.le_of_ble_eq_true rfl) ?_
      refine nk_ifne (tgt := 26) dX7_shift_20 (by decide) (fun h20 => by first | exact absurd h20 ((fun z => z (nk_n h2))) | exact absurd ((fun z => z (nk_n h2))) h20) (fun _ => ?_)
      refine nk_ldc qX7_61 dX7_shift_23 ?_
      refine nk_ireturn dX7_shift_25 rfl ?_
      exact ⟨rfl, g, m, b, u, l, t, hW⟩
  · have hc : ¬ (c_shift m s x) := fun q => h1 q.1
    have e1 : g_A (c_shift m s x) A (a_sft (a_kp (A 0) u) (sp_n s) (nk_tp b) x.toInt) = A := if_neg hc
    have e2 : g_I (c_shift m s x) I u = I := if_neg hc
    have e3 : sp_shift A u m b s x = -1000001 := by unfold sp_shift; rw [if_neg hc]
    rw [e1, e2, e3]
    have hset := s_setAt_n (G := G) hV (x := s) h1
    refine nk_aload_n (i := 0) dX7_shift_0 rfl rfl ?_
    refine nk_iload_n (i := 1) dX7_shift_1 rfl rfl ?_
    refine nk_cVq kX7_140 hset dX7_shift_2 hfs rfl rfl (by decide) (Nat.le_of_ble_eq_true rfl) ?_
    refine nk_J.to (st' := [.null]) ?_ rfl rfl rfl
    refine nk_astore_nNT (i := 3) dX7_shift_5 rfl (by decide) ?_
    refine nk_aload_nN (i := 3) dX7_shift_6 rfl rfl ?_
    refine nk_ifnullN (tgt := 23) dX7_shift_7 (by decide) ?_
    refine nk_ldc qX7_61 dX7_shift_23 ?_
    refine nk_ireturn dX7_shift_25 rfl ?_
    exact ⟨rfl, g, m, b, u, l, t, hW⟩

/-! the class: acts -/
/-- the heap when an act is kept -/
abbrev kp3 (K : nk_AH) (a4 b1 b2 : Nat) (z : Nat → Option Nat) (bf : Nat → Nat) (c u q1 : Nat) (f g0 : Nat → Int32) (b : Nat) : nk_AH := nk_u (nk_u (nk_u K b1 (chc (va_up z c (some q1)))) (bf c) (inc 32 (va_cpy f g0 0 0 (nk_wm b)))) a4 (acc b1 b2 ((c + 1) % 24) (min (u + 1) 24))
theorem kp3_rk {K : nk_AH} {g : Nat → Nat} {a4 b1 b2 c u q1 b : Nat} {z : Nat → Option Nat} {bf : Nat → Nat} {f g0 : Nat → Int32} (c1 : rT K g 5 a4 (acc b1 b2 c u)) (c2 : rT K g 6 b1 (chc z)) (hg0 : rT K g (30 + c) (bf c) (inc 32 g0)) : rk (fun y => y ≠ 6 ∧ y ≠ 30 + c ∧ y ≠ 5) K g (kp3 K a4 b1 b2 z bf c u q1 f g0 b) g := by
  have k1 : rk (fun y => y ≠ 6) K g (nk_u K b1 (chc (va_up z c (some q1)))) g := rk.u c2.2
  have k2 : rk (fun y => y ≠ 30 + c) (nk_u K b1 (chc (va_up z c (some q1)))) g (nk_u (nk_u K b1 (chc (va_up z c (some q1)))) (bf c) (inc 32 (va_cpy f g0 0 0 (nk_wm b)))) g := rk.u hg0.2
  have k3 : rk (fun y => y ≠ 5) (nk_u (nk_u K b1 (chc (va_up z c (some q1)))) (bf c) (inc 32 (va_cpy f g0 0 0 (nk_wm b)))) g (kp3 K a4 b1 b2 z bf c u q1 f g0 b) g := rk.u c1.2
  exact ((k1.tr k2).tr k3).wk (fun x h => ⟨⟨h.1, h.2.1⟩, h.2.2⟩)
theorem cK.k3 {K K' : nk_AH} {g g' : Nat → Nat} {T : Nat → Prop} {q1 w1 j b x y : Nat} {κ : Int32} {f : Nat → Int32} (hk : cK K q1 w1 j κ b f) (hr : rk T K g K' g') (h1 : g q1 = x) (h2 : g w1 = y) (ht : T x ∧ T y) : cK K' q1 w1 j κ b f := ⟨(hr _ _ hk.1 (by rw [h1]; exact ht.1)).1, (hr _ _ hk.2 (by rw [h2]; exact ht.2)).1⟩
set_option maxRecDepth 20000 in
theorem s_X7_turned {G : nk_EG} {K : nk_AH} {g : Nat → Nat} {o m b u l t a1 a2 a3 a4 a5 q sa : Nat} {A : Nat → Nat → Int32} {I : Nat → Int32} {qs ws : Nat → Nat} (hn : cWn A I u l t) (hx : cWx K g o A I l t a1 a2 a3 a4 a5 (some q)) (s2 : shV (A 0) 0 m b) (s3 : cSw K g 0 q sa m b qs ws (A 0) 0) (s4 : cAw K g a4 m b qs (A 0) u) (s5 : ∀ j, j < u → ∀ s, s < m → gz (shF (A 0) (134 + 134 * j) s) b) {j : Nat} (hj : j < m) {x y : Nat} (hxy : x ≤ y) (hyt : y < nk_tp b) {r' : Nat → Int32} (hr1 : ∀ v, v < nk_wm b → tnf (shF (A 0) 0 j) (x : Int) (y : Int) v = shF r' 0 j v) (hof : ofs (a_kp (A 0) u) r' j (nk_wm b)) (hzr : gz (shF r' 0 j) b) : nk_S G mX7_turned 14 0 0 [.ref o, .ref (qs j), .int (nI x), .int (nI y)] K (pW o (nI (fb_ct (nk_mem r' 0 j) 1024)) (va_up A 0 r') (va_up I 0 (nI (u_kp u + 1)))) := by
  refine nk_S.of (by decide +kernel) (Nat.le_of_ble_eq_true rfl) rfl ?_
  have hm4 := s2.2.2.2.1
  have hb2 := s2.2.2.2.2.1
  have hb10 := s2.2.2.2.2.2.1
  have hwm := wm_f b hb10 hb2
  have hX := s3.1.2.2 j hj
  obtain ⟨b1, b2, z, bf, c, c1, c2, c3, hc, -, c6, c7⟩ := s4
  obtain ⟨f, hk, hf⟩ := hX
  obtain ⟨g0, hg0⟩ := c6 c hc
  have hu := hn.2.2.1
  have hA : cA0 K a4 b1 b2 z bf c u := ⟨c1.1, c2.1, c3.1⟩
  have k3 := kp3_rk (K := K) (g := g) (u := u) (b := b) (z := z) (f := f) (g0 := g0) (q1 := qs j) c1 c2 hg0
  have hk3 : cK (kp3 K a4 b1 b2 z bf c u (qs j) f g0 b) (qs j) (ws j) j (shK (A 0) 0 j) b f := hk.k3 k3 (s3.2.2.2 j hj).1 (s3.2.2.2 j hj).2 (by omega)
  have ho3 := hx.1.mv k3 (by omega)
  have hkp := s_X0_keep (G := G) hA hc hu hk hb2 hb10 hg0.1
  have hfn : ∀ v, v < nk_wm b → tnf f (x : Int) (y : Int) v = shF r' 0 j v := fun v hv => by
    rw [← hr1 v hv]; unfold tnf; rw [hf v hv]
  refine nk_aload_n (i := 0) dX7_turned_0 rfl rfl ?_
  refine nk_getf fX7_31 dX7_turned_1 hx.1.1 rfl ?_
  refine nk_aload_n (i := 1) dX7_turned_4 rfl rfl ?_
  refine nk_cVv kX7_144 (hkp) dX7_turned_5 c1.1 rfl rfl (by decide) (Nat.le_of_ble_eq_true rfl) ?_
  refine nk_aload_n (i := 1) dX7_turned_8 rfl rfl ?_
  refine nk_iload_n (i := 2) dX7_turned_9 rfl rfl ?_
  refine nk_iload_n (i := 3) dX7_turned_10 rfl rfl ?_
  refine nk_cVv kX7_304 (s_X2_turn hk3 hb2 hb10 hxy hyt) dX7_turned_11 hk3.1 rfl rfl (by decide) (Nat.le_of_ble_eq_true rfl) ?_
  have hX4 : cX (nk_u (kp3 K a4 b1 b2 z bf c u (qs j) f g0 b) (ws j) (inc (nk_wm b) (tnf f (x : Int) (y : Int)))) (qs j) (ws j) j (shK (A 0) 0 j) b (shF r' 0 j) := ⟨_, hk3.u, hfn⟩
  refine nk_aload_n (i := 1) dX7_turned_14 rfl rfl ?_
  refine nk_cVi kX7_152 (hX4.i (fun H' hk => s_X2_size hk hb2 hb10 hzr)) dX7_turned_15 hX4.o rfl rfl (by decide) (Nat.le_of_ble_eq_true rfl) ?_
  refine nk_ireturn dX7_turned_18 rfl ?_
  exact ⟨rfl, g, m, b, u_kp u + 1, l, t, cW.act (A' := va_up A 0 r') (I' := va_up I 0 (nI (u_kp u + 1))) (s := j) (fn := _) hn hx s2 s3 s5 c1 c2 c3 hc c6 c7 hj hf hfn (hof).hr2 ((hof).hr3 (by omega) (by omega)) hzr rfl rfl rfl rfl rfl rfl rfl rfl rfl rfl rfl rfl⟩
theorem shF_kp_t {r : Nat → Int32} {u s v : Nat} {x y : Int} (hs : s < 4) (hv : v < 32) : tnf (shF (a_kp r u) 0 s) x y v = tnf (shF r 0 s) x y v := by
  unfold tnf
  rw [shF_kp hs hv]
set_option maxRecDepth 20000 in
theorem s_X7_add {G : nk_EG} {K : nk_AH} {g : Nat → Nat} {o m b u l t : Nat} {A : Nat → Nat → Int32} {I : Nat → Int32} (hW : cW K g o A I m b u l t) {s k : Int32} : nk_S G mX7_add 15 0 0 [.ref o, .int s, .int k] K (pW o (sp_turn A u m b s k false) (g_A (c_turn A m b s k false) A (a_tk (a_kp (A 0) u) (sp_n s) (sp_n k))) (g_I (c_turn A m b s k false) I u)) := by
  refine nk_S.of (by decide +kernel) (Nat.le_of_ble_eq_true rfl) rfl ?_
  obtain ⟨hn, a1, a2, a3, a4, a5, sh, hx, hs⟩ := id hW
  have hV := hW.V
  obtain ⟨fs, hfs⟩ := hV.o
  by_cases h1 : sp_S m s
  · by_cases h2 : sp_K b k
    · by_cases h3 : nk_mem (A 0) 0 (sp_n s) (sp_n k) = false
      · have hc : (c_turn A m b s k false) := ⟨h1, h2, h3⟩
        have e1 : g_A (c_turn A m b s k false) A (a_tk (a_kp (A 0) u) (sp_n s) (sp_n k)) = va_up A 0 (a_tk (a_kp (A 0) u) (sp_n s) (sp_n k)) := if_pos hc
        have e2 : g_I (c_turn A m b s k false) I u = va_up I 0 (nI (u_kp u + 1)) := if_pos hc
        have e3 : sp_turn A u m b s k false = nI (fb_ct (nk_mem (a_tk (a_kp (A 0) u) (sp_n s) (sp_n k)) 0 (sp_n s)) 1024) := by unfold sp_turn; rw [if_pos h1, if_pos h2, if_pos h3]
        rw [e1, e2, e3]
        clear e1 e2 e3 hc
        obtain ⟨q, sa, qs, ws, rfl, s2, s3, s4, s5⟩ := hs.S h1
        have hV2 : cVs K o m b (A 0) (.ref a1) (.ref a2) (.ref a3) (.ref a4) (.ref a5) (.int (I 2)) (.int (I 3)) q sa qs ws := ⟨hx.1.1, s3.1, s2⟩
        have hm4 := hV2.2.2.2.2.2.1
        have hb2 := hV2.2.2.2.2.2.2.1
        have hb10 := hV2.2.2.2.2.2.2.2.1
        have hV7 := hV2.2.2.2.2.2.2.2.2
        have hwm := wm_f b hb10 hb2
        obtain ⟨hj, hse⟩ := sp_n_S h1
        obtain ⟨hkt, hke⟩ := sp_n_K h2
        have hset := s_setWith_s (G := G) hV2 h1 h2
        have hX := hV2.2.1.2.2 _ hj
        obtain ⟨hκ, hz⟩ := hV7 _ hj
        generalize hje : sp_n s = j at *
        generalize hk1 : sp_n k = k1 at *
        subst hse
        subst hke
        have hH : ¬ gm (shF (A 0) 0 j) k1 = true := fun q => by have q2 : nk_mem (A 0) 0 j k1 = true := q; rw [h3] at q2; cases q2
        have htu := s_X7_turned (G := G) hn hx s2 s3 s4 s5 hj (x := k1) (y := k1) (Nat.le_refl _) hkt (r' := a_tk (a_kp (A 0) u) j k1) (fun v hv => by rw [← shF_kp_t (u := u) (by omega) (by omega)]; exact tnf_one) (ofs.tk (by omega)) (gz_tk (by omega) (by omega) hkt hb10 (gz_kp (by omega) hz))
        refine nk_aload_n (i := 0) dX7_add_0 rfl rfl ?_
        refine nk_iload_n (i := 1) dX7_add_1 rfl rfl ?_
        refine nk_iload_n (i := 2) dX7_add_2 rfl rfl ?_
        refine nk_cVq kX7_124 hset dX7_add_3 hfs rfl rfl (by decide) (Nat.le_of_ble_eq_true rfl) ?_
        refine nk_J.to (st' := [.ref (qs j)]) ?_ rfl rfl rfl
        refine nk_astore_nT (i := 3) dX7_add_6 rfl (by decide) ?_
        refine nk_aload_n (i := 3) dX7_add_7 rfl rfl ?_
        refine nk_ifnonnullR (tgt := 14) dX7_add_8 (by decide) ?_
        refine nk_aload_n (i := 3) dX7_add_14 rfl rfl ?_
        refine nk_iload_n (i := 2) dX7_add_15 rfl rfl ?_
        refine nk_cVi kX7_128 (hX.i (fun H' hk => s_X2_holds hk hb2 hb10 (k := k1) hkt)) dX7_add_16 hX.o rfl rfl (by decide) (Nat.le_of_ble_eq_true rfl) ?_
        refine nk_ifeq (tgt := 27) dX7_add_19 (by decide) (fun _ => ?_) (fun h19 => by first | exact absurd (nk_n hH) h19 | exact absurd h19 (nk_n hH))
        refine nk_aload_n (i := 0) dX7_add_27 rfl rfl ?_
        refine nk_aload_n (i := 3) dX7_add_28 rfl rfl ?_
        refine nk_iload_n (i := 2) dX7_add_29 rfl rfl ?_
        refine nk_iload_n (i := 2) dX7_add_30 rfl rfl ?_
        refine nk_cV (bc' := 0) (bs' := 0) kX7_133 htu dX7_add_31 hfs rfl rfl (by decide) (Nat.le_of_ble_eq_true rfl) ⟨Nat.le_refl _, Nat.le_refl _⟩ (fun rr H2 hr => ?_)
        obtain ⟨rfl, hr⟩ := hr
        refine nk_ireturn dX7_add_34 rfl ?_
        exact ⟨rfl, hr⟩
      · have hc : ¬ (c_turn A m b s k false) := fun q => h3 q.2.2
        have e1 : g_A (c_turn A m b s k false) A (a_tk (a_kp (A 0) u) (sp_n s) (sp_n k)) = A := if_neg hc
        have e2 : g_I (c_turn A m b s k false) I u = I := if_neg hc
        have e3 : sp_turn A u m b s k false = -1000002 := by unfold sp_turn; rw [if_pos h1, if_pos h2, if_neg h3]
        rw [e1, e2, e3]
        clear e1 e2 e3 hc
        obtain ⟨q, sa, qs, ws, rfl, s2, s3, s4, s5⟩ := hs.S h1
        have hV2 : cVs K o m b (A 0) (.ref a1) (.ref a2) (.ref a3) (.ref a4) (.ref a5) (.int (I 2)) (.int (I 3)) q sa qs ws := ⟨hx.1.1, s3.1, s2⟩
        have hm4 := hV2.2.2.2.2.2.1
        have hb2 := hV2.2.2.2.2.2.2.1
        have hb10 := hV2.2.2.2.2.2.2.2.1
        have hV7 := hV2.2.2.2.2.2.2.2.2
        have hwm := wm_f b hb10 hb2
        obtain ⟨hj, hse⟩ := sp_n_S h1
        obtain ⟨hkt, hke⟩ := sp_n_K h2
        have hset := s_setWith_s (G := G) hV2 h1 h2
        have hX := hV2.2.1.2.2 _ hj
        obtain ⟨hκ, hz⟩ := hV7 _ hj
        generalize hje : sp_n s = j at *
        generalize hk1 : sp_n k = k1 at *
        subst hse
        subst hke
        have hH : gm (shF (A 0) 0 j) k1 = true := Bool.of_not_eq_false h3
        refine nk_aload_n (i := 0) dX7_add_0 rfl rfl ?_
        refine nk_iload_n (i := 1) dX7_add_1 rfl rfl ?_
        refine nk_iload_n (i := 2) dX7_add_2 rfl rfl ?_
        refine nk_cVq kX7_124 hset dX7_add_3 hfs rfl rfl (by decide) (Nat.le_of_ble_eq_true rfl) ?_
        refine nk_J.to (st' := [.ref (qs j)]) ?_ rfl rfl rfl
        refine nk_astore_nT (i := 3) dX7_add_6 rfl (by decide) ?_
        refine nk_aload_n (i := 3) dX7_add_7 rfl rfl ?_
        refine nk_ifnonnullR (tgt := 14) dX7_add_8 (by decide) ?_
        refine nk_aload_n (i := 3) dX7_add_14 rfl rfl ?_
        refine nk_iload_n (i := 2) dX7_add_15 rfl rfl ?_
        refine nk_cVi kX7_128 (hX.i (fun H' hk => s_X2_holds hk hb2 hb10 (k := k1) hkt)) dX7_add_16 hX.o rfl rfl (by decide) (Nat.le_of_ble_eq_true rfl) ?_
        refine nk_ifeq (tgt := 27) dX7_add_19 (by decide) (fun h19 => by first | exact absurd h19 (nk_y hH) | exact absurd (nk_y hH) h19) (fun _ => ?_)
        refine nk_ldc qX7_120 dX7_add_22 ?_
        refine nk_goto (tgt := 34) dX7_add_24 (by decide) ?_
        refine nk_ireturn dX7_add_34 rfl ?_
        exact ⟨rfl, g, m, b, u, l, t, hW⟩
    · have hc : ¬ (c_turn A m b s k false) := fun q => h2 q.2.1
      have e1 : g_A (c_turn A m b s k false) A (a_tk (a_kp (A 0) u) (sp_n s) (sp_n k)) = A := if_neg hc
      have e2 : g_I (c_turn A m b s k false) I u = I := if_neg hc
      have e3 : sp_turn A u m b s k false = -1000001 := by unfold sp_turn; rw [if_pos h1, if_neg h2]
      rw [e1, e2, e3]
      have hset := s_setWith_n (G := G) hV (x := s) (y := k) (fun z => h2 z.2)
      refine nk_aload_n (i := 0) dX7_add_0 rfl rfl ?_
      refine nk_iload_n (i := 1) dX7_add_1 rfl rfl ?_
      refine nk_iload_n (i := 2) dX7_add_2 rfl rfl ?_
      refine nk_cVq kX7_124 hset dX7_add_3 hfs rfl rfl (by decide) (Nat.le_of_ble_eq_true rfl) ?_
      refine nk_J.to (st' := [.null]) ?_ rfl rfl rfl
      refine nk_astore_nNT (i := 3) dX7_add_6 rfl (by decide) ?_
      refine nk_aload_nN (i := 3) dX7_add_7 rfl rfl ?_
      refine nk_ifnonnullN dX7_add_8 ?_
      refine nk_ldc qX7_61 dX7_add_11 ?_
      refine nk_ireturn dX7_add_13 rfl ?_
      exact ⟨rfl, g, m, b, u, l, t, hW⟩
  · have hc : ¬ (c_turn A m b s k false) := fun q => h1 q.1
    have e1 : g_A (c_turn A m b s k false) A (a_tk (a_kp (A 0) u) (sp_n s) (sp_n k)) = A := if_neg hc
    have e2 : g_I (c_turn A m b s k false) I u = I := if_neg hc
    have e3 : sp_turn A u m b s k false = -1000001 := by unfold sp_turn; rw [if_neg h1]
    rw [e1, e2, e3]
    have hset := s_setWith_n (G := G) hV (x := s) (y := k) (fun z => h1 z.1)
    refine nk_aload_n (i := 0) dX7_add_0 rfl rfl ?_
    refine nk_iload_n (i := 1) dX7_add_1 rfl rfl ?_
    refine nk_iload_n (i := 2) dX7_add_2 rfl rfl ?_
    refine nk_cVq kX7_124 hset dX7_add_3 hfs rfl rfl (by decide) (Nat.le_of_ble_eq_true rfl) ?_
    refine nk_J.to (st' := [.null]) ?_ rfl rfl rfl
    refine nk_astore_nNT (i := 3) dX7_add_6 rfl (by decide) ?_
    refine nk_aload_nN (i := 3) dX7_add_7 rfl rfl ?_
    refine nk_ifnonnullN dX7_add_8 ?_
    refine nk_ldc qX7_61 dX7_add_11 ?_
    refine nk_ireturn dX7_add_13 rfl ?_
    exact ⟨rfl, g, m, b, u, l, t, hW⟩

set_option maxRecDepth 20000 in
theorem s_X7_take {G : nk_EG} {K : nk_AH} {g : Nat → Nat} {o m b u l t : Nat} {A : Nat → Nat → Int32} {I : Nat → Int32} (hW : cW K g o A I m b u l t) {s k : Int32} : nk_S G mX7_take 15 0 0 [.ref o, .int s, .int k] K (pW o (sp_turn A u m b s k true) (g_A (c_turn A m b s k true) A (a_tk (a_kp (A 0) u) (sp_n s) (sp_n k))) (g_I (c_turn A m b s k true) I u)) := by
  refine nk_S.of (by decide +kernel) (Nat.le_of_ble_eq_true rfl) rfl ?_
  obtain ⟨hn, a1, a2, a3, a4, a5, sh, hx, hs⟩ := id hW
  have hV := hW.V
  obtain ⟨fs, hfs⟩ := hV.o
  by_cases h1 : sp_S m s
  · by_cases h2 : sp_K b k
    · by_cases h3 : nk_mem (A 0) 0 (sp_n s) (sp_n k) = true
      · have hc : (c_turn A m b s k true) := ⟨h1, h2, h3⟩
        have e1 : g_A (c_turn A m b s k true) A (a_tk (a_kp (A 0) u) (sp_n s) (sp_n k)) = va_up A 0 (a_tk (a_kp (A 0) u) (sp_n s) (sp_n k)) := if_pos hc
        have e2 : g_I (c_turn A m b s k true) I u = va_up I 0 (nI (u_kp u + 1)) := if_pos hc
        have e3 : sp_turn A u m b s k true = nI (fb_ct (nk_mem (a_tk (a_kp (A 0) u) (sp_n s) (sp_n k)) 0 (sp_n s)) 1024) := by unfold sp_turn; rw [if_pos h1, if_pos h2, if_pos h3]
        rw [e1, e2, e3]
        clear e1 e2 e3 hc
        obtain ⟨q, sa, qs, ws, rfl, s2, s3, s4, s5⟩ := hs.S h1
        have hV2 : cVs K o m b (A 0) (.ref a1) (.ref a2) (.ref a3) (.ref a4) (.ref a5) (.int (I 2)) (.int (I 3)) q sa qs ws := ⟨hx.1.1, s3.1, s2⟩
        have hm4 := hV2.2.2.2.2.2.1
        have hb2 := hV2.2.2.2.2.2.2.1
        have hb10 := hV2.2.2.2.2.2.2.2.1
        have hV7 := hV2.2.2.2.2.2.2.2.2
        have hwm := wm_f b hb10 hb2
        obtain ⟨hj, hse⟩ := sp_n_S h1
        obtain ⟨hkt, hke⟩ := sp_n_K h2
        have hset := s_setWith_s (G := G) hV2 h1 h2
        have hX := hV2.2.1.2.2 _ hj
        obtain ⟨hκ, hz⟩ := hV7 _ hj
        generalize hje : sp_n s = j at *
        generalize hk1 : sp_n k = k1 at *
        subst hse
        subst hke
        have hH : gm (shF (A 0) 0 j) k1 = true := h3
        have htu := s_X7_turned (G := G) hn hx s2 s3 s4 s5 hj (x := k1) (y := k1) (Nat.le_refl _) hkt (r' := a_tk (a_kp (A 0) u) j k1) (fun v hv => by rw [← shF_kp_t (u := u) (by omega) (by omega)]; exact tnf_one) (ofs.tk (by omega)) (gz_tk (by omega) (by omega) hkt hb10 (gz_kp (by omega) hz))
        refine nk_aload_n (i := 0) dX7_take_0 rfl rfl ?_
        refine nk_iload_n (i := 1) dX7_take_1 rfl rfl ?_
        refine nk_iload_n (i := 2) dX7_take_2 rfl rfl ?_
        refine nk_cVq kX7_124 hset dX7_take_3 hfs rfl rfl (by decide) (Nat.le_of_ble_eq_true rfl) ?_
        refine nk_J.to (st' := [.ref (qs j)]) ?_ rfl rfl rfl
        refine nk_astore_nT (i := 3) dX7_take_6 rfl (by decide) ?_
        refine nk_aload_n (i := 3) dX7_take_7 rfl rfl ?_
        refine nk_ifnonnullR (tgt := 14) dX7_take_8 (by decide) ?_
        refine nk_aload_n (i := 3) dX7_take_14 rfl rfl ?_
        refine nk_iload_n (i := 2) dX7_take_15 rfl rfl ?_
        refine nk_cVi kX7_128 (hX.i (fun H' hk => s_X2_holds hk hb2 hb10 (k := k1) hkt)) dX7_take_16 hX.o rfl rfl (by decide) (Nat.le_of_ble_eq_true rfl) ?_
        refine nk_ifeq (tgt := 32) dX7_take_19 (by decide) (fun h19 => by first | exact absurd h19 (nk_y hH) | exact absurd (nk_y hH) h19) (fun _ => ?_)
        refine nk_aload_n (i := 0) dX7_take_22 rfl rfl ?_
        refine nk_aload_n (i := 3) dX7_take_23 rfl rfl ?_
        refine nk_iload_n (i := 2) dX7_take_24 rfl rfl ?_
        refine nk_iload_n (i := 2) dX7_take_25 rfl rfl ?_
        refine nk_cV (bc' := 0) (bs' := 0) kX7_133 htu dX7_take_26 hfs rfl rfl (by decide) (Nat.le_of_ble_eq_true rfl) ⟨Nat.le_refl _, Nat.le_refl _⟩ (fun rr H2 hr => ?_)
        obtain ⟨rfl, hr⟩ := hr
        refine nk_goto (tgt := 34) dX7_take_29 (by decide) ?_
        refine nk_ireturn dX7_take_34 rfl ?_
        exact ⟨rfl, hr⟩
      · have hc : ¬ (c_turn A m b s k true) := fun q => h3 q.2.2
        have e1 : g_A (c_turn A m b s k true) A (a_tk (a_kp (A 0) u) (sp_n s) (sp_n k)) = A := if_neg hc
        have e2 : g_I (c_turn A m b s k true) I u = I := if_neg hc
        have e3 : sp_turn A u m b s k true = -1000002 := by unfold sp_turn; rw [if_pos h1, if_pos h2, if_neg h3]
        rw [e1, e2, e3]
        clear e1 e2 e3 hc
        obtain ⟨q, sa, qs, ws, rfl, s2, s3, s4, s5⟩ := hs.S h1
        have hV2 : cVs K o m b (A 0) (.ref a1) (.ref a2) (.ref a3) (.ref a4) (.ref a5) (.int (I 2)) (.int (I 3)) q sa qs ws := ⟨hx.1.1, s3.1, s2⟩
        have hm4 := hV2.2.2.2.2.2.1
        have hb2 := hV2.2.2.2.2.2.2.1
        have hb10 := hV2.2.2.2.2.2.2.2.1
        have hV7 := hV2.2.2.2.2.2.2.2.2
        have hwm := wm_f b hb10 hb2
        obtain ⟨hj, hse⟩ := sp_n_S h1
        obtain ⟨hkt, hke⟩ := sp_n_K h2
        have hset := s_setWith_s (G := G) hV2 h1 h2
        have hX := hV2.2.1.2.2 _ hj
        obtain ⟨hκ, hz⟩ := hV7 _ hj
        generalize hje : sp_n s = j at *
        generalize hk1 : sp_n k = k1 at *
        subst hse
        subst hke
        have hH : ¬ gm (shF (A 0) 0 j) k1 = true := h3
        refine nk_aload_n (i := 0) dX7_take_0 rfl rfl ?_
        refine nk_iload_n (i := 1) dX7_take_1 rfl rfl ?_
        refine nk_iload_n (i := 2) dX7_take_2 rfl rfl ?_
        refine nk_cVq kX7_124 hset dX7_take_3 hfs rfl rfl (by decide) (Nat.le_of_ble_eq_true rfl) ?_
        refine nk_J.to (st' := [.ref (qs j)]) ?_ rfl rfl rfl
        refine nk_astore_nT (i := 3) dX7_take_6 rfl (by decide) ?_
        refine nk_aload_n (i := 3) dX7_take_7 rfl rfl ?_
        refine nk_ifnonnullR (tgt := 14) dX7_take_8 (by decide) ?_
        refine nk_aload_n (i := 3) dX7_take_14 rfl rfl ?_
        refine nk_iload_n (i := 2) dX7_take_15 rfl rfl ?_
        refine nk_cVi kX7_128 (hX.i (fun H' hk => s_X2_holds hk hb2 hb10 (k := k1) hkt)) dX7_take_16 hX.o rfl rfl (by decide) (Nat.le_of_ble_eq_true rfl) ?_
        refine nk_ifeq (tgt := 32) dX7_take_19 (by decide) (fun _ => ?_) (fun h19 => by first | exact absurd (nk_n hH) h19 | exact absurd h19 (nk_n hH))
        refine nk_ldc qX7_120 dX7_take_32 ?_
        refine nk_ireturn dX7_take_34 rfl ?_
        exact ⟨rfl, g, m, b, u, l, t, hW⟩
    · have hc : ¬ (c_turn A m b s k true) := fun q => h2 q.2.1
      have e1 : g_A (c_turn A m b s k true) A (a_tk (a_kp (A 0) u) (sp_n s) (sp_n k)) = A := if_neg hc
      have e2 : g_I (c_turn A m b s k true) I u = I := if_neg hc
      have e3 : sp_turn A u m b s k true = -1000001 := by unfold sp_turn; rw [if_pos h1, if_neg h2]
      rw [e1, e2, e3]
      have hset := s_setWith_n (G := G) hV (x := s) (y := k) (fun z => h2 z.2)
      refine nk_aload_n (i := 0) dX7_take_0 rfl rfl ?_
      refine nk_iload_n (i := 1) dX7_take_1 rfl rfl ?_
      refine nk_iload_n (i := 2) dX7_take_2 rfl rfl ?_
      refine nk_cVq kX7_124 hset dX7_take_3 hfs rfl rfl (by decide) (Nat.le_of_ble_eq_true rfl) ?_
      refine nk_J.to (st' := [.null]) ?_ rfl rfl rfl
      refine nk_astore_nNT (i := 3) dX7_take_6 rfl (by decide) ?_
      refine nk_aload_nN (i := 3) dX7_take_7 rfl rfl ?_
      refine nk_ifnonnullN dX7_take_8 ?_
      refine nk_ldc qX7_61 dX7_take_11 ?_
      refine nk_ireturn dX7_take_13 rfl ?_
      exact ⟨rfl, g, m, b, u, l, t, hW⟩
  · have hc : ¬ (c_turn A m b s k true) := fun q => h1 q.1
    have e1 : g_A (c_turn A m b s k true) A (a_tk (a_kp (A 0) u) (sp_n s) (sp_n k)) = A := if_neg hc
    have e2 : g_I (c_turn A m b s k true) I u = I := if_neg hc
    have e3 : sp_turn A u m b s k true = -1000001 := by unfold sp_turn; rw [if_neg h1]
    rw [e1, e2, e3]
    have hset := s_setWith_n (G := G) hV (x := s) (y := k) (fun z => h1 z.1)
    refine nk_aload_n (i := 0) dX7_take_0 rfl rfl ?_
    refine nk_iload_n (i := 1) dX7_take_1 rfl rfl ?_
    refine nk_iload_n (i := 2) dX7_take_2 rfl rfl ?_
    refine nk_cVq kX7_124 hset dX7_take_3 hfs rfl rfl (by decide) (Nat.le_of_ble_eq_true rfl) ?_
    refine nk_J.to (st' := [.null]) ?_ rfl rfl rfl
    refine nk_astore_nNT (i := 3) dX7_take_6 rfl (by decide) ?_
    refine nk_aload_nN (i := 3) dX7_take_7 rfl rfl ?_
    refine nk_ifnonnullN dX7_take_8 ?_
    refine nk_ldc qX7_61 dX7_take_11 ?_
    refine nk_ireturn dX7_take_13 rfl ?_
    exact ⟨rfl, g, m, b, u, l, t, hW⟩


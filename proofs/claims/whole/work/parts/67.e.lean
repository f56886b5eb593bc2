/-! the class: keys gathered -/
set_option maxRecDepth 20000 in
theorem l_X7_gather {G : nk_EG} {K3 : nk_AH} {o q1 w1 j b x0 y0 n0 jr i1 n1 u : Nat} {κ lane s r0 : Int32} {f0 r G4 : Nat → Int32} {Φ : Option Value → nk_AH → Prop} (hb2 : 2 ≤ b) (hb10 : b ≤ 10) (hq : ∀ c, cK (nk_u K3 w1 (inc (nk_wm b) c)) q1 w1 j κ b c) (hx0 : ∀ c, nk_u K3 w1 c x0 = some (roc lane y0)) (hy0 : ∀ c, nk_u K3 w1 c y0 = some (inc n0 f0)) (hn0 : n0 ≤ 40) (hin : i1 + n1 ≤ n0) (hf0 : ∀ i, i < n0 → f0 i = G4 (40 * jr + i)) (hall : ∀ t, t < n1 → sp_K b (G4 (40 * jr + i1 + t))) (kk : ∀ fN l7, (∀ v, v < nk_wm b → fN v = shF (a_gt (a_kp r u) j G4 (40 * jr + i1) (n1)) 0 j v) → nk_J G mX7_gather 15 Φ 0 0 122 [some (.ref o), some (.int s), some (.int r0), some (.int (nI i1)), some (.int (nI n1)), some (.ref q1), some (.ref x0), l7] [] (nk_u K3 w1 (inc (nk_wm b) fN))) : ∀ (n t : Nat) (ft : Nat → Int32) (h1 : t ≤ n1) (h2 : n1 < t + n) (hft : ∀ v, v < nk_wm b → ft v = shF (a_gt (a_kp r u) j G4 (40 * jr + i1) (t)) 0 j v), nk_J G mX7_gather 15 Φ 0 0 94 [some (.ref o), some (.int s), some (.int r0), some (.int (nI i1)), some (.int (nI n1)), some (.ref q1), some (.ref x0), some (.int (nI (i1 + t)))] [] (nk_u K3 w1 (inc (nk_wm b) ft)) := by
  intro n
  induction n with
  | zero => intro t ft h1 h2 hft; omega
  | succ n ih =>
    intro t ft h1 h2 hft
    have hwm := wm_f b hb10 hb2
    refine nk_iload dX7_gather_94 rfl ?_
    refine nk_iload_n (i := 3) dX7_gather_96 rfl rfl ?_
    refine nk_iload dX7_gather_97 rfl ?_
    refine nk_iadd dX7_gather_99 ?_
    refine nk_top (y := nI (i1 + n1)) (nI_add _ _) ?_
    refine nk_icmpge (tgt := 122) dX7_gather_100 (by decide) (fun h100 => ?_) (fun h100 => ?_)
    · skip
      have e : t = n1 := by have := nk_leI (a := i1 + n1) h100 (by omega) (by omega); omega
      subst e
      exact kk ft _ hft
    · skip
      have ht := nk_nleI (a := i1 + n1) h100 (by omega) (by omega)
      obtain ⟨hkt, hke0⟩ := sp_n_K (hall t (by omega))
      have hke : f0 (i1 + t) = nI (sp_n (G4 (40 * jr + i1 + t))) := by rw [hf0 _ (by omega), show 40 * jr + (i1 + t) = 40 * jr + i1 + t by omega]; exact hke0
      generalize hkd : sp_n (G4 (40 * jr + i1 + t)) = k at *
      refine nk_aload dX7_gather_103 rfl ?_
      refine nk_aload dX7_gather_105 rfl ?_
      refine nk_getf fX7_83 dX7_gather_107 (hx0 _) rfl ?_
      refine nk_iload dX7_gather_110 rfl ?_
      refine nk_ialdN (j := i1 + t) dX7_gather_112 (hy0 _) (rfl) (by omega) (by omega) ?_
      refine nk_top (y := nI k) (hke) ?_
      refine nk_cVv kX7_164 (s_X2_put (hq ft) hb2 hb10 (k := k) hkt) dX7_gather_113 (hq ft).1 rfl rfl (by decide) (Nat.le_of_ble_eq_true rfl) ?_
      refine nk_J.to ?_ rfl rfl (nk_u_u _ _ _ _)
      refine nk_iincT dX7_gather_116 rfl (nk_i1 (i1 + t)) (by decide) ?_
      refine nk_goto (tgt := 94) dX7_gather_119 (by decide) ?_
      refine ih (t + 1) _ (by omega) (by omega) (fun v hv => ?_)
      rw [a_gt, hkd]
      exact a_gt_s hft (by omega) v hv
set_option maxRecDepth 20000 in
theorem s_X7_gather {G : nk_EG} {K : nk_AH} {g : Nat → Nat} {o m b u l t : Nat} {A : Nat → Nat → Int32} {I : Nat → Int32} (hW : cW K g o A I m b u l t) {s r i x : Int32} : nk_S G mX7_gather 15 0 0 [.ref o, .int s, .int r, .int i, .int x] K (pW o (sp_val (f_gather A m b s r i x) (nI (fb_ct (nk_mem (a_gth A u (sp_n s) (sp_n r) (sp_n i) (sp_n x)) 0 (sp_n s)) 1024))) (sp_A (f_gather A m b s r i x) A (va_up A 0 (a_gth A u (sp_n s) (sp_n r) (sp_n i) (sp_n x)))) (i_gth (f_gather A m b s r i x) I u)) := by
  refine nk_S.of (by decide +kernel) (Nat.le_of_ble_eq_true rfl) rfl ?_
  obtain ⟨hn, a1, a2, a3, a4, a5, sh, hx, hs⟩ := id hW
  have hV := hW.V
  obtain ⟨fs, hfs⟩ := hV.o
  by_cases h1 : sp_S m s
  · by_cases h2 : sp_R r 0 7
    · by_cases h3 : sp_R x 1 40
      · have hfg : f_gather A m b s r i x = (if 0 ≤ A 3 (sp_n r) then (if sp_sp A (sp_n r) i x then (if sp_ak (A 4) b (40 * sp_n r + sp_n i) (sp_n x) = true then 0 else 2) else 2) else 1) := by unfold f_gather; rw [if_pos h1, if_pos h2, if_pos h3]
        generalize f_gather A m b s r i x = FG at hfg ⊢
        obtain ⟨hjr, hjre⟩ := sp_n_R7 h2
        obtain ⟨z, hz1, hz2⟩ := hx.2.1
        obtain ⟨hx4, hxe⟩ : (1 ≤ sp_n x ∧ sp_n x ≤ 40) ∧ x = nI (sp_n x) := ⟨by have := h3.1; have := h3.2; unfold sp_n Int32.toNatClampNeg; omega, nI_ofI (by have := h3.1; omega)⟩
        obtain ⟨q, sa, qs, ws, rfl, s2, s3, s4, s5⟩ := hs.S h1
        have hV2 : cVs K o m b (A 0) (.ref a1) (.ref a2) (.ref a3) (.ref a4) (.ref a5) (.int (I 2)) (.int (I 3)) q sa qs ws := ⟨hx.1.1, s3.1, s2⟩
        have hm4 := hV2.2.2.2.2.2.1
        have hb2 := hV2.2.2.2.2.2.2.1
        have hb10 := hV2.2.2.2.2.2.2.2.1
        have hV7 := hV2.2.2.2.2.2.2.2.2
        have hwm := wm_f b hb10 hb2
        obtain ⟨hj, hse⟩ := sp_n_S h1
        have hset := s_setAt_s (G := G) hV2 h1
        have hX := hV2.2.1.2.2 _ hj
        obtain ⟨hκ, hz⟩ := hV7 _ hj
        generalize hje : sp_n s = j at *
        subst hse
        generalize hq7 : sp_n r = jr at *
        generalize hq8 : sp_n x = n1 at *
        subst hjre
        subst hxe
        rcases hz2 jr hjr with ⟨e1, e2⟩ | ⟨x0, y0, n, f0, e1, e2, e3, e4, e5, e6⟩
        · rw [if_neg e2] at hfg
          rw [show i_gth FG I u = sp_I FG I from by unfold i_gth; rw [if_neg (by rw [hfg]; decide)]]
          refine nk_aload_n (i := 0) dX7_gather_0 rfl rfl ?_
          refine nk_iload_n (i := 1) dX7_gather_1 rfl rfl ?_
          refine nk_cVq kX7_140 hset dX7_gather_2 hfs rfl rfl (by decide) (Nat.le_of_ble_eq_true rfl) ?_
          refine nk_J.to (st' := [.ref (qs j)]) ?_ rfl rfl rfl
          refine nk_astoreT dX7_gather_5 (by decide) ?_
          refine nk_aload dX7_gather_7 rfl ?_
          refine nk_ifnullR dX7_gather_9 ?_
          refine nk_iload_n (i := 2) dX7_gather_12 rfl rfl ?_
          refine nk_cSi kX7_53 (s_X7_isRow) dX7_gather_13 rfl rfl (by decide) (Nat.le_of_ble_eq_true rfl) ?_
          refine nk_ifeq (tgt := 30) dX7_gather_16 (by decide) (fun h16 => by first | exact absurd h16 (nk_y h2) | exact absurd (nk_y h2) h16) (fun _ => ?_)
          refine nk_iload dX7_gather_19 rfl ?_
          refine nk_iconst (v := 1) dX7_gather_21 (by decide) ?_
          refine nk_bipush (v := 40) dX7_gather_22 (by decide) ?_
          refine nk_cSi kX7_57 (s_X7_within) dX7_gather_24 rfl rfl (by decide) (Nat.le_of_ble_eq_true rfl) ?_
          refine nk_ifne (tgt := 33) dX7_gather_27 (by decide) (fun _ => ?_) (fun h27 => by first | exact absurd (nk_y h3) h27 | exact absurd h27 (nk_y h3))
          refine nk_aload_n (i := 0) dX7_gather_33 rfl rfl ?_
          refine nk_getf fX7_11 dX7_gather_34 hx.1.1 rfl ?_
          refine nk_iload_n (i := 2) dX7_gather_37 rfl rfl ?_
          refine nk_aaldN (j := jr) 3 rfl rfl dX7_gather_38 hz1.1 (rfl) (by omega) (by decide) (show va_rf (z jr) = .null by rw [e1]; rfl) ?_
          refine nk_astoreNT dX7_gather_39 (by decide) ?_
          refine nk_aloadN dX7_gather_41 rfl ?_
          refine nk_ifnonnullN dX7_gather_43 ?_
          refine nk_aload_n (i := 0) dX7_gather_46 rfl rfl ?_
          refine nk_iconst (v := 1) dX7_gather_47 (by decide) ?_
          refine nk_cVi kX7_62 (s_X7_found hx.1.1) dX7_gather_48 hx.1.1 rfl rfl (by decide) (Nat.le_of_ble_eq_true rfl) ?_
          refine nk_ireturn dX7_gather_51 rfl ?_
          exact pW.fnd 1 (by decide) (by decide) hfg hn hx hs
        · rw [if_pos (by rw [e2]; exact nk_0le e3)] at hfg
          have hnn : (A 3 jr).toInt = (n : Int) := by rw [e2]; exact nI_toInt (by omega)
          have hr : cRo K x0 y0 (A 2 jr) n f0 := ⟨e4.1, e5.1⟩
          by_cases h4 : sp_sp A jr i (nI n1)
          · rw [if_pos h4] at hfg
            have h4' : (0 : Int32) ≤ i ∧ (0 : Int32) ≤ nI n1 ∧ i.toInt + (nI n1).toInt ≤ n := by rw [← hnn]; exact h4
            have g1 := (fa_le _ _).mp h4'.1
            rw [show (0 : Int32).toInt = 0 from rfl] at g1
            have c1x := nI_ofI g1
            have b1x : sp_n i + n1 ≤ n := by have := h4'.2.2; rw [nI_toInt (by omega)] at this; unfold sp_n Int32.toNatClampNeg; omega
            generalize hq9 : sp_n i = i1 at *
            have c1x : i = nI i1 := by rw [← hq9]; exact c1x
            subst c1x
            have hcg : sp_ak f0 b i1 n1 = sp_ak (A 4) b (40 * jr + i1) n1 := sp_ak_cg n1 (fun t ht => by rw [e6 _ (by omega)]; exact congrArg (A 4) (by omega))
            by_cases h5 : sp_ak (A 4) b (40 * jr + i1) n1 = true
            · rw [if_pos h5] at hfg
              have h5' : sp_ak f0 b i1 n1 = true := hcg.trans h5
              subst hfg
              have hX0 := hX
              obtain ⟨b1, b2, zz, bf, c, c1, c2, c3, hc, -, c6, c7⟩ := s4
              obtain ⟨f, hk, hf⟩ := hX
              obtain ⟨g0, hg0⟩ := c6 c hc
              have hu := hn.2.2.1
              have hA : cA0 K a4 b1 b2 zz bf c u := ⟨c1.1, c2.1, c3.1⟩
              have k3 := kp3_rk (K := K) (g := g) (u := u) (b := b) (z := zz) (f := f) (g0 := g0) (q1 := qs j) c1 c2 hg0
              have hk3 : cK (kp3 K a4 b1 b2 zz bf c u (qs j) f g0 b) (qs j) (ws j) j (shK (A 0) 0 j) b f := hk.k3 k3 (s3.2.2.2 j hj).1 (s3.2.2.2 j hj).2 (by omega)
              have ho3 := hx.1.mv k3 (by omega)
              have hkp := s_X0_keep (G := G) hA hc hu hk hb2 hb10 hg0.1
              have e43 := e4.mv k3 (by omega)
              have e53 := e5.mv k3 (by omega)
              have ty : y0 ≠ ws j := fun e => by have t1 := (s3.2.2.2 j hj).2; rw [← e, e5.2] at t1; omega
              have tx : x0 ≠ ws j := fun e => by have t1 := (s3.2.2.2 j hj).2; rw [← e, e4.2] at t1; omega
              have hkl := sp_ak_all h5
              have hzr : gz (shF (a_gt (a_kp (A 0) u) j (A 4) (40 * jr + i1) n1) 0 j) b := a_gt_gz (by omega) hb10 (gz_kp (by omega) hz) (fun t ht => (sp_n_K (hkl t ht)).1)
              have hof : ofs (a_kp (A 0) u) (a_gt (a_kp (A 0) u) j (A 4) (40 * jr + i1) n1) j (nk_wm b) := a_gt_ofs (fun t ht => by have := (sp_n_K (hkl t ht)).1; omega)
              refine nk_aload_n (i := 0) dX7_gather_0 rfl rfl ?_
              refine nk_iload_n (i := 1) dX7_gather_1 rfl rfl ?_
              refine nk_cVq kX7_140 hset dX7_gather_2 hfs rfl rfl (by decide) (Nat.le_of_ble_eq_true rfl) ?_
              refine nk_J.to (st' := [.ref (qs j)]) ?_ rfl rfl rfl
              refine nk_astoreT dX7_gather_5 (by decide) ?_
              refine nk_aload dX7_gather_7 rfl ?_
              refine nk_ifnullR dX7_gather_9 ?_
              refine nk_iload_n (i := 2) dX7_gather_12 rfl rfl ?_
              refine nk_cSi kX7_53 (s_X7_isRow) dX7_gather_13 rfl rfl (by decide) (Nat.le_of_ble_eq_true rfl) ?_
              refine nk_ifeq (tgt := 30) dX7_gather_16 (by decide) (fun h16 => by first | exact absurd h16 (nk_y h2) | exact absurd (nk_y h2) h16) (fun _ => ?_)
              refine nk_iload dX7_gather_19 rfl ?_
              refine nk_iconst (v := 1) dX7_gather_21 (by decide) ?_
              refine nk_bipush (v := 40) dX7_gather_22 (by decide) ?_
              refine nk_cSi kX7_57 (s_X7_within) dX7_gather_24 rfl rfl (by decide) (Nat.le_of_ble_eq_true rfl) ?_
              refine nk_ifne (tgt := 33) dX7_gather_27 (by decide) (fun _ => ?_) (fun h27 => by first | exact absurd (nk_y h3) h27 | exact absurd h27 (nk_y h3))
              refine nk_aload_n (i := 0) dX7_gather_33 rfl rfl ?_
              refine nk_getf fX7_11 dX7_gather_34 hx.1.1 rfl ?_
              refine nk_iload_n (i := 2) dX7_gather_37 rfl rfl ?_
              refine nk_aaldN (j := jr) 3 rfl rfl dX7_gather_38 hz1.1 (rfl) (by omega) (by decide) (show va_rf (z jr) = .ref x0 by rw [e1]; rfl) ?_
              refine nk_astoreT dX7_gather_39 (by decide) ?_
              refine nk_aload dX7_gather_41 rfl ?_
              refine nk_ifnonnullR (tgt := 52) dX7_gather_43 (by decide) ?_
              refine nk_aload dX7_gather_52 rfl ?_
              refine nk_iload_n (i := 3) dX7_gather_54 rfl rfl ?_
              refine nk_iload dX7_gather_55 rfl ?_
              refine nk_cVi kX7_72 (s_X4_spans hr e3) dX7_gather_57 hr.1 rfl rfl (by decide) (Nat.le_of_ble_eq_true rfl) ?_
              refine nk_ifeq (tgt := 76) dX7_gather_60 (by decide) (fun h60 => by first | exact absurd h60 (nk_y h4') | exact absurd (nk_y h4') h60) (fun _ => ?_)
              refine nk_aload dX7_gather_63 rfl ?_
              refine nk_aload dX7_gather_65 rfl ?_
              refine nk_iload_n (i := 3) dX7_gather_67 rfl rfl ?_
              refine nk_iload dX7_gather_68 rfl ?_
              refine nk_cSi kX7_160 (s_X7_allKeys hX0 hb2 hb10 hr e3 b1x) dX7_gather_70 rfl rfl (by decide) (Nat.le_of_ble_eq_true rfl) ?_
              refine nk_ifne (tgt := 82) dX7_gather_73 (by decide) (fun _ => ?_) (fun h73 => by first | exact absurd (nk_y h5') h73 | exact absurd h73 (nk_y h5'))
              refine nk_aload_n (i := 0) dX7_gather_82 rfl rfl ?_
              refine nk_getf fX7_31 dX7_gather_83 hx.1.1 rfl ?_
              refine nk_aload dX7_gather_86 rfl ?_
              refine nk_cVv kX7_144 (hkp) dX7_gather_88 c1.1 rfl rfl (by decide) (Nat.le_of_ble_eq_true rfl) ?_
              refine nk_iload_n (i := 3) dX7_gather_91 rfl rfl ?_
              refine nk_istoreT dX7_gather_92 (by decide) ?_
              refine (l_X7_gather (κ := shK (A 0) 0 j) (r := A 0) (G4 := A 4) (jr := jr) (u := u) (n0 := n) (j := j) hb2 hb10 (fun c => hk3.u) (fun c => (nk_u_ne tx).trans e43.1) (fun c => (nk_u_ne ty).trans e53.1) e3 b1x e6 hkl (fun fN l7 hfN => ?_) (n1 + 1) 0 f (by omega) (by omega) (fun v hv => by rw [hf v hv]; exact (shF_kp (by omega) (by omega)).symm)).to rfl rfl (nk_u_at hk3.2).symm
              have hX4 : cX (nk_u (kp3 K a4 b1 b2 zz bf c u (qs j) f g0 b) (ws j) (inc (nk_wm b) fN)) (qs j) (ws j) j (shK (A 0) 0 j) b (shF (a_gt (a_kp (A 0) u) j (A 4) (40 * jr + i1) n1) 0 j) := ⟨_, hk3.u, hfN⟩
              have hact := cW.act (A' := va_up A 0 (a_gt (a_kp (A 0) u) j (A 4) (40 * jr + i1) n1)) (I' := va_up I 0 (nI (u_kp u + 1))) (s := j) (g0 := g0) (fn := _) hn hx s2 s3 s5 c1 c2 c3 hc c6 c7 hj hf hfN (hof).hr2 ((hof).hr3 (by omega) (by omega)) hzr rfl rfl rfl rfl rfl rfl rfl rfl rfl rfl rfl rfl
              obtain ⟨hn', d1, d2, d3, d4, d5, sh', hx', hs'⟩ := hact
              refine nk_aload_n (i := 0) dX7_gather_122 rfl rfl ?_
              refine nk_aload dX7_gather_123 rfl ?_
              refine nk_cVi kX7_152 (hX4.i (fun H' hk => s_X2_size hk hb2 hb10 hzr)) dX7_gather_125 hX4.o rfl rfl (by decide) (Nat.le_of_ble_eq_true rfl) ?_
              refine nk_cVi kX7_69 (s_X7_fine hx'.1.1) dX7_gather_128 hx'.1.1 rfl rfl (by decide) (Nat.le_of_ble_eq_true rfl) ?_
              refine nk_ireturn dX7_gather_131 rfl ?_
              exact ⟨rfl, g, m, b, u_kp u + 1, l, t, cW.fnd hn' hx' hs' 0⟩
            · rw [if_neg h5] at hfg
              have h5' : ¬ sp_ak f0 b i1 n1 = true := by rw [hcg]; exact h5
              rw [show i_gth FG I u = sp_I FG I from by unfold i_gth; rw [if_neg (by rw [hfg]; decide)]]
              refine nk_aload_n (i := 0) dX7_gather_0 rfl rfl ?_
              refine nk_iload_n (i := 1) dX7_gather_1 rfl rfl ?_
              refine nk_cVq kX7_140 hset dX7_gather_2 hfs rfl rfl (by decide) (Nat.le_of_ble_eq_true rfl) ?_
              refine nk_J.to (st' := [.ref (qs j)]) ?_ rfl rfl rfl
              refine nk_astoreT dX7_gather_5 (by decide) ?_
              refine nk_aload dX7_gather_7 rfl ?_
              refine nk_ifnullR dX7_gather_9 ?_
              refine nk_iload_n (i := 2) dX7_gather_12 rfl rfl ?_
              refine nk_cSi kX7_53 (s_X7_isRow) dX7_gather_13 rfl rfl (by decide) (Nat.le_of_ble_eq_true rfl) ?_
              refine nk_ifeq (tgt := 30) dX7_gather_16 (by decide) (fun h16 => by first | exact absurd h16 (nk_y h2) | exact absurd (nk_y h2) h16) (fun _ => ?_)
              refine nk_iload dX7_gather_19 rfl ?_
              refine nk_iconst (v := 1) dX7_gather_21 (by decide) ?_
              refine nk_bipush (v := 40) dX7_gather_22 (by decide) ?_
              refine nk_cSi kX7_57 (s_X7_within) dX7_gather_24 rfl rfl (by decide) (Nat.le_of_ble_eq_true rfl) ?_
              refine nk_ifne (tgt := 33) dX7_gather_27 (by decide) (fun _ => ?_) (fun h27 => by first | exact absurd (nk_y h3) h27 | exact absurd h27 (nk_y h3))
              refine nk_aload_n (i := 0) dX7_gather_33 rfl rfl ?_
              refine nk_getf fX7_11 dX7_gather_34 hx.1.1 rfl ?_
              refine nk_iload_n (i := 2) dX7_gather_37 rfl rfl ?_
              refine nk_aaldN (j := jr) 3 rfl rfl dX7_gather_38 hz1.1 (rfl) (by omega) (by decide) (show va_rf (z jr) = .ref x0 by rw [e1]; rfl) ?_
              refine nk_astoreT dX7_gather_39 (by decide) ?_
              refine nk_aload dX7_gather_41 rfl ?_
              refine nk_ifnonnullR (tgt := 52) dX7_gather_43 (by decide) ?_
              refine nk_aload dX7_gather_52 rfl ?_
              refine nk_iload_n (i := 3) dX7_gather_54 rfl rfl ?_
              refine nk_iload dX7_gather_55 rfl ?_
              refine nk_cVi kX7_72 (s_X4_spans hr e3) dX7_gather_57 hr.1 rfl rfl (by decide) (Nat.le_of_ble_eq_true rfl) ?_
              refine nk_ifeq (tgt := 76) dX7_gather_60 (by decide) (fun h60 => by first | exact absurd h60 (nk_y h4') | exact absurd (nk_y h4') h60) (fun _ => ?_)
              refine nk_aload dX7_gather_63 rfl ?_
              refine nk_aload dX7_gather_65 rfl ?_
              refine nk_iload_n (i := 3) dX7_gather_67 rfl rfl ?_
              refine nk_iload dX7_gather_68 rfl ?_
              refine nk_cSi kX7_160 (s_X7_allKeys hX hb2 hb10 hr e3 b1x) dX7_gather_70 rfl rfl (by decide) (Nat.le_of_ble_eq_true rfl) ?_
              refine nk_ifne (tgt := 82) dX7_gather_73 (by decide) (fun h73 => by first | exact absurd h73 ((fun z => z (nk_n h5'))) | exact absurd ((fun z => z (nk_n h5'))) h73) (fun _ => ?_)
              refine nk_aload_n (i := 0) dX7_gather_76 rfl rfl ?_
              refine nk_iconst (v := 2) dX7_gather_77 (by decide) ?_
              refine nk_cVi kX7_62 (s_X7_found hx.1.1) dX7_gather_78 hx.1.1 rfl rfl (by decide) (Nat.le_of_ble_eq_true rfl) ?_
              refine nk_ireturn dX7_gather_81 rfl ?_
              exact pW.fnd 2 (by decide) (by decide) hfg hn hx hs
          · rw [if_neg h4] at hfg
            have h4' : ¬ ((0 : Int32) ≤ i ∧ (0 : Int32) ≤ nI n1 ∧ i.toInt + (nI n1).toInt ≤ n) := by rw [← hnn]; exact h4
            rw [show i_gth FG I u = sp_I FG I from by unfold i_gth; rw [if_neg (by rw [hfg]; decide)]]
            refine nk_aload_n (i := 0) dX7_gather_0 rfl rfl ?_
            refine nk_iload_n (i := 1) dX7_gather_1 rfl rfl ?_
            refine nk_cVq kX7_140 hset dX7_gather_2 hfs rfl rfl (by decide) (Nat.le_of_ble_eq_true rfl) ?_
            refine nk_J.to (st' := [.ref (qs j)]) ?_ rfl rfl rfl
            refine nk_astoreT dX7_gather_5 (by decide) ?_
            refine nk_aload dX7_gather_7 rfl ?_
            refine nk_ifnullR dX7_gather_9 ?_
            refine nk_iload_n (i := 2) dX7_gather_12 rfl rfl ?_
            refine nk_cSi kX7_53 (s_X7_isRow) dX7_gather_13 rfl rfl (by decide) (Nat.le_of_ble_eq_true rfl) ?_
            refine nk_ifeq (tgt := 30) dX7_gather_16 (by decide) (fun h16 => by first | exact absurd h16 (nk_y h2) | exact absurd (nk_y h2) h16) (fun _ => ?_)
            refine nk_iload dX7_gather_19 rfl ?_
            refine nk_iconst (v := 1) dX7_gather_21 (by decide) ?_
            refine nk_bipush (v := 40) dX7_gather_22 (by decide) ?_
            refine nk_cSi kX7_57 (s_X7_within) dX7_gather_24 rfl rfl (by decide) (Nat.le_of_ble_eq_true rfl) ?_
            refine nk_ifne (tgt := 33) dX7_gather_27 (by decide) (fun _ => ?_) (fun h27 => by first | exact absurd (nk_y h3) h27 | exact absurd h27 (nk_y h3))
            refine nk_aload_n (i := 0) dX7_gather_33 rfl rfl ?_
            refine nk_getf fX7_11 dX7_gather_34 hx.1.1 rfl ?_
            refine nk_iload_n (i := 2) dX7_gather_37 rfl rfl ?_
            refine nk_aaldN (j := jr) 3 rfl rfl dX7_gather_38 hz1.1 (rfl) (by omega) (by decide) (show va_rf (z jr) = .ref x0 by rw [e1]; rfl) ?_
            refine nk_astoreT dX7_gather_39 (by decide) ?_
            refine nk_aload dX7_gather_41 rfl ?_
            refine nk_ifnonnullR (tgt := 52) dX7_gather_43 (by decide) ?_
            refine nk_aload dX7_gather_52 rfl ?_
            refine nk_iload_n (i := 3) dX7_gather_54 rfl rfl ?_
            refine nk_iload dX7_gather_55 rfl ?_
            refine nk_cVi kX7_72 (s_X4_spans hr e3) dX7_gather_57 hr.1 rfl rfl (by decide) (Nat.le_of_ble_eq_true rfl) ?_
            refine nk_ifeq (tgt := 76) dX7_gather_60 (by decide) (fun _ => ?_) (fun h60 => by first | exact absurd (nk_n h4') h60 | exact absurd h60 (nk_n h4'))
            refine nk_aload_n (i := 0) dX7_gather_76 rfl rfl ?_
            refine nk_iconst (v := 2) dX7_gather_77 (by decide) ?_
            refine nk_cVi kX7_62 (s_X7_found hx.1.1) dX7_gather_78 hx.1.1 rfl rfl (by decide) (Nat.le_of_ble_eq_true rfl) ?_
            refine nk_ireturn dX7_gather_81 rfl ?_
            exact pW.fnd 2 (by decide) (by decide) hfg hn hx hs
      · have hfg : f_gather A m b s r i x = -1 := by unfold f_gather; rw [if_pos h1, if_pos h2, if_neg h3]
        rw [show i_gth (f_gather A m b s r i x) I u = sp_I (f_gather A m b s r i x) I from by unfold i_gth; rw [if_neg (by rw [hfg]; decide)]]
        obtain ⟨q, sa, qs, ws, rfl, s2, s3, s4, s5⟩ := hs.S h1
        have hV2 : cVs K o m b (A 0) (.ref a1) (.ref a2) (.ref a3) (.ref a4) (.ref a5) (.int (I 2)) (.int (I 3)) q sa qs ws := ⟨hx.1.1, s3.1, s2⟩
        have hm4 := hV2.2.2.2.2.2.1
        have hb2 := hV2.2.2.2.2.2.2.1
        have hb10 := hV2.2.2.2.2.2.2.2.1
        have hV7 := hV2.2.2.2.2.2.2.2.2
        have hwm := wm_f b hb10 hb2
        obtain ⟨hj, hse⟩ := sp_n_S h1
        have hset := s_setAt_s (G := G) hV2 h1
        have hX := hV2.2.1.2.2 _ hj
        obtain ⟨hκ, hz⟩ := hV7 _ hj
        generalize hje : sp_n s = j at *
        subst hse
        refine nk_aload_n (i := 0) dX7_gather_0 rfl rfl ?_
        refine nk_iload_n (i := 1) dX7_gather_1 rfl rfl ?_
        refine nk_cVq kX7_140 hset dX7_gather_2 hfs rfl rfl (by decide) (Nat.le_of_ble_eq_true rfl) ?_
        refine nk_J.to (st' := [.ref (qs j)]) ?_ rfl rfl rfl
        refine nk_astoreT dX7_gather_5 (by decide) ?_
        refine nk_aload dX7_gather_7 rfl ?_
        refine nk_ifnullR dX7_gather_9 ?_
        refine nk_iload_n (i := 2) dX7_gather_12 rfl rfl ?_
        refine nk_cSi kX7_53 (s_X7_isRow) dX7_gather_13 rfl rfl (by decide) (Nat.le_of_ble_eq_true rfl) ?_
        refine nk_ifeq (tgt := 30) dX7_gather_16 (by decide) (fun h16 => by first | exact absurd h16 (nk_y h2) | exact absurd (nk_y h2) h16) (fun _ => ?_)
        refine nk_iload dX7_gather_19 rfl ?_
        refine nk_iconst (v := 1) dX7_gather_21 (by decide) ?_
        refine nk_bipush (v := 40) dX7_gather_22 (by decide) ?_
        refine nk_cSi kX7_57 (s_X7_within) dX7_gather_24 rfl rfl (by decide) (Nat.le_of_ble_eq_true rfl) ?_
        refine nk_ifne (tgt := 33) dX7_gather_27 (by decide) (fun h27 => by first | exact absurd h27 ((fun z => z (nk_n h3))) | exact absurd ((fun z => z (nk_n h3))) h27) (fun _ => ?_)
        refine nk_ldc qX7_61 dX7_gather_30 ?_
        refine nk_ireturn dX7_gather_32 rfl ?_
        exact pW.bad hfg hW
    · have hfg : f_gather A m b s r i x = -1 := by unfold f_gather; rw [if_pos h1, if_neg h2]
      rw [show i_gth (f_gather A m b s r i x) I u = sp_I (f_gather A m b s r i x) I from by unfold i_gth; rw [if_neg (by rw [hfg]; decide)]]
      obtain ⟨q, sa, qs, ws, rfl, s2, s3, s4, s5⟩ := hs.S h1
      have hV2 : cVs K o m b (A 0) (.ref a1) (.ref a2) (.ref a3) (.ref a4) (.ref a5) (.int (I 2)) (.int (I 3)) q sa qs ws := ⟨hx.1.1, s3.1, s2⟩
      have hm4 := hV2.2.2.2.2.2.1
      have hb2 := hV2.2.2.2.2.2.2.1
      have hb10 := hV2.2.2.2.2.2.2.2.1
      have hV7 := hV2.2.2.2.2.2.2.2.2
      have hwm := wm_f b hb10 hb2
      obtain ⟨hj, hse⟩ := sp_n_S h1
      have hset := s_setAt_s (G := G) hV2 h1
      have hX := hV2.2.1.2.2 _ hj
      obtain ⟨hκ, hz⟩ := hV7 _ hj
      generalize hje : sp_n s = j at *
      subst hse
      refine nk_aload_n (i := 0) dX7_gather_0 rfl rfl ?_
      refine nk_iload_n (i := 1) dX7_gather_1 rfl rfl ?_
      refine nk_cVq kX7_140 hset dX7_gather_2 hfs rfl rfl (by decide) (Nat.le_of_ble_eq_true rfl) ?_
      refine nk_J.to (st' := [.ref (qs j)]) ?_ rfl rfl rfl
      refine nk_astoreT dX7_gather_5 (by decide) ?_
      refine nk_aload dX7_gather_7 rfl ?_
      refine nk_ifnullR dX7_gather_9 ?_
      refine nk_iload_n (i := 2) dX7_gather_12 rfl rfl ?_
      refine nk_cSi kX7_53 (s_X7_isRow) dX7_gather_13 rfl rfl (by decide) (Nat.le_of_ble_eq_true rfl) ?_
      refine nk_ifeq (tgt := 30) dX7_gather_16 (by decide) (fun _ => ?_) (fun h16 => by first | exact absurd (nk_n h2) h16 | exact absurd h16 (nk_n h2))
      refine nk_ldc qX7_61 dX7_gather_30 ?_
      refine nk_ireturn dX7_gather_32 rfl ?_
      exact pW.bad hfg hW
  · have hfg : f_gather A m b s r i x = -1 := by unfold f_gather; rw [if_neg h1]
    rw [show i_gth (f_gather A m b s r i x) I u = sp_I (f_gather A m b s r i x) I from by unfold i_gth; rw [if_neg (by rw [hfg]; decide)]]
    have hset := s_setAt_n (G := G) hV (x := s) h1
    refine nk_aload_n (i := 0) dX7_gather_0 rfl rfl ?_
    refine nk_iload_n (i := 1) dX7_gather_1 rfl rfl ?_
    refine nk_cVq kX7_140 hset dX7_gather_2 hfs rfl rfl (by decide) (Nat.le_of_ble_eq_true rfl) ?_
    refine nk_J.to (st' := [.null]) ?_ rfl rfl rfl
    refine nk_astoreNT dX7_gather_5 (by decide) ?_
    refine nk_aloadN dX7_gather_7 rfl ?_
    refine nk_ifnullN (tgt := 30) dX7_gather_9 (by decide) ?_
    refine nk_ldc qX7_61 dX7_gather_30 ?_
    refine nk_ireturn dX7_gather_32 rfl ?_
    exact pW.bad hfg hW

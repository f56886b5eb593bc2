/-! the class: keys told into a row -/
/-- what is told keeps to its row -/
theorem sp_tl_out {p : Nat → Bool} {t : Nat} {lane : Int32} {n0 i1 jr x : Nat} (h40 : n0 ≤ 40) (hx : ¬ (40 * jr ≤ x ∧ x < 40 * jr + 40)) : ∀ (g n : Nat) (st : Option Nat) (f : Nat → Int32), (sp_tl p t lane n0 i1 (40 * jr + i1) g n st f).1 x = f x
  | 0, _, _, _ => rfl
  | _ + 1, _, none, _ => rfl
  | g + 1, n, some k, f => by
    rw [sp_tl]
    by_cases z : i1 + n < n0
    · rw [if_pos z, sp_tl_out h40 hx g (n + 1) _ _, upd_ne (by omega)]
    · rw [if_neg z]
set_option maxRecDepth 20000 in
theorem l_X7_tell {G : nk_EG} {K : nk_AH} {o q1 w1 j b x0 y0 n0 jr i1 : Nat} {κ lane s k0 r0 : Int32} {F T4 : Nat → Int32} {nT : Nat} {Φ : Option Value → nk_AH → Prop} (hb2 : 2 ≤ b) (hb10 : b ≤ 10) (hq : ∀ c, cX (nk_u K y0 c) q1 w1 j κ b F) (hz : gz F b) (hr : ∀ c, cRo (nk_u K y0 (inc n0 c)) x0 y0 lane n0 c) (hn0 : n0 ≤ 40) (hin : i1 ≤ n0) (kk : ∀ fN l8, (∀ v, v < n0 → fN v = T4 (40 * jr + v)) → nk_J G mX7_tell 15 Φ 0 0 121 [some (.ref o), some (.int s), some (.int k0), some (.int r0), some (.int (nI i1)), some (.ref q1), some (.ref x0), some (.int (nI nT)), l8] [] (nk_u K y0 (inc n0 fN))) : ∀ (g td : Nat) (st : Option Nat) (R ft : Nat → Int32) (h1 : i1 + td ≤ n0) (hg : n0 < i1 + td + g) (hst : ∀ k, st = some k → k < nk_tp b) (hft : ∀ v, v < n0 → ft v = R (40 * jr + v)) (hT : sp_tl (gm F) (nk_tp b) lane n0 i1 (40 * jr + i1) g td st R = (T4, nT)), nk_J G mX7_tell 15 Φ 0 0 70 [some (.ref o), some (.int s), some (.int k0), some (.int r0), some (.int (nI i1)), some (.ref q1), some (.ref x0), some (.int (nI td)), some (.int (nk_rN st))] [] (nk_u K y0 (inc n0 ft)) := by
  intro g
  induction g with
  | zero => intro td st R ft h1 hg hst hft hT; omega
  | succ g ih =>
    intro td st R ft h1 hg hst hft hT
    have hwm := wm_f b hb10 hb2
    have hnn := nk_rN_none (r := st) (fun k hk => by have := hst k hk; omega)
    refine nk_iload dX7_tell_70 rfl ?_
    refine nk_iload dX7_tell_72 rfl ?_
    refine nk_iadd dX7_tell_74 ?_
    refine nk_top (y := nI (i1 + td)) (nI_add _ _) ?_
    refine nk_aload dX7_tell_75 rfl ?_
    refine nk_getf fX7_83 dX7_tell_77 (hr ft).1 rfl ?_
    refine nk_alen 0 rfl dX7_tell_80 (hr ft).2 rfl ?_
    refine nk_top (y := nI n0) (nk_len _) ?_
    refine nk_icmpge (tgt := 121) dX7_tell_81 (by decide) (fun h81 => ?_) (fun h81 => ?_)
    · skip
      have hT2 : (R, td) = (T4, nT) := by
        rw [← hT]
        cases st with
        | none => rfl
        | some k =>
          rw [sp_tl]
          first
          | rw [if_neg (by have := nk_leI (a := n0) h81 (by omega) (by omega); omega)]
          | cases h88
      cases hT2
      exact kk ft _ hft
    · skip
      have ht := nk_nleI (a := n0) h81 (by omega) (by omega)
      refine nk_iload dX7_tell_84 rfl ?_
      refine nk_ldc qX7_247 dX7_tell_86 ?_
      refine nk_icmpeq (tgt := 121) dX7_tell_88 (by decide) (fun h88 => ?_) (fun h88 => ?_)
      · skip
        rw [hnn] at h88
        have hT2 : (R, td) = (T4, nT) := by
          rw [← hT]
          cases st with
          | none => rfl
          | some k =>
            rw [sp_tl]
            first
            | rw [if_neg (by have := nk_leI (a := n0) h81 (by omega) (by omega); omega)]
            | cases h88
        cases hT2
        exact kk ft _ hft
      · skip
        rw [hnn] at h88
        obtain ⟨k, hk⟩ := Option.ne_none_iff_exists'.mp h88
        subst hk
        have hkt := hst k rfl
        rw [sp_tl, if_pos ht] at hT
        refine nk_aload dX7_tell_91 rfl ?_
        refine nk_iload dX7_tell_93 rfl ?_
        refine nk_iload dX7_tell_95 rfl ?_
        refine nk_iadd dX7_tell_97 ?_
        refine nk_top (y := nI (i1 + td)) (nI_add _ _) ?_
        refine nk_iload dX7_tell_98 rfl ?_
        refine nk_cVi kX7_76 (s_X4_store (hr ft) hn0 (j := i1 + td) (v := nI k) ht) dX7_tell_100 (hr ft).1 rfl rfl (by decide) (Nat.le_of_ble_eq_true rfl) ?_
        refine nk_J.to ?_ rfl rfl (nk_u_u _ _ _ _)
        refine nk_pop dX7_tell_103 rfl ?_
        refine nk_iincT dX7_tell_104 rfl (nk_i1 td) (by decide) ?_
        refine nk_aload dX7_tell_107 rfl ?_
        refine nk_iload dX7_tell_109 rfl ?_
        refine nk_iconst (v := 1) dX7_tell_111 (by decide) ?_
        refine nk_iadd dX7_tell_112 ?_
        refine nk_top (y := nI (k + 1)) (nI_1 k) ?_
        refine nk_cVi kX7_176 ((hq _).i (fun H' hk => s_X2_from hk hb2 hb10 hz (k := k + 1) (by omega))) dX7_tell_113 (hq _).o rfl rfl (by decide) (Nat.le_of_ble_eq_true rfl) ?_
        refine nk_istoreT dX7_tell_116 (by decide) ?_
        refine nk_goto (tgt := 70) dX7_tell_118 (by decide) ?_
        exact ih (td + 1) (sp_abv (gm F) (nk_tp b) k) _ _ (by omega) (by omega) (fun k2 hk2 => (sp_abv_lt hk2).2) (fun v hv => by
          show upd ft (i1 + td) _ v = upd R (40 * jr + i1 + td) _ (40 * jr + v)
          unfold upd
          by_cases z : v = i1 + td
          · rw [if_pos z, if_pos (by omega)]
          · rw [if_neg z, if_neg (by omega)]; exact hft v hv) hT
set_option maxRecDepth 20000 in
theorem s_X7_tell {G : nk_EG} {K : nk_AH} {g : Nat → Nat} {o m b u l t : Nat} {A : Nat → Nat → Int32} {I : Nat → Int32} (hW : cW K g o A I m b u l t) {s k r i : Int32} : nk_S G mX7_tell 15 0 0 [.ref o, .int s, .int k, .int r, .int i] K (pW o (sp_val (f_tell A m b s k r i) (nI (sp_tl0 A b (sp_n s) (sp_n k) (sp_n r) (sp_n i) (nk_mem (A 0) 0 (sp_n s))).2)) (sp_A (f_tell A m b s k r i) A (va_up A 4 (sp_tl0 A b (sp_n s) (sp_n k) (sp_n r) (sp_n i) (nk_mem (A 0) 0 (sp_n s))).1)) (sp_I (f_tell A m b s k r i) I)) := by
  refine nk_S.of (by decide +kernel) (Nat.le_of_ble_eq_true rfl) rfl ?_
  obtain ⟨hn, a1, a2, a3, a4, a5, sh, hx, hs⟩ := id hW
  have hV := hW.V
  obtain ⟨fs, hfs⟩ := hV.o
  by_cases h1 : sp_S m s
  · by_cases h2 : sp_K b k
    · by_cases h3 : sp_R r 0 7
      · have hft : f_tell A m b s k r i = (if 0 ≤ A 3 (sp_n r) then (if 0 ≤ i.toInt ∧ i.toInt ≤ (A 3 (sp_n r)).toInt then 0 else 2) else 1) := by unfold f_tell; rw [if_pos h1, if_pos h2, if_pos h3]
        generalize f_tell A m b s k r i = FT at hft ⊢
        obtain ⟨hjr, hjre⟩ := sp_n_R7 h3
        obtain ⟨z, hz1, hz2⟩ := hx.2.1
        obtain ⟨q, sa, qs, ws, rfl, s2, s3, s4, s5⟩ := hs.S h1
        have hV2 : cVs K o m b (A 0) (.ref a1) (.ref a2) (.ref a3) (.ref a4) (.ref a5) (.int (I 2)) (.int (I 3)) q sa qs ws := ⟨hx.1.1, s3.1, s2⟩
        have hm4 := hV2.2.2.2.2.2.1
        have hb2 := hV2.2.2.2.2.2.2.1
        have hb10 := hV2.2.2.2.2.2.2.2.1
        have hV7 := hV2.2.2.2.2.2.2.2.2
        have hwm := wm_f b hb10 hb2
        obtain ⟨hj, hse⟩ := sp_n_S h1
        obtain ⟨hkt, hke⟩ := sp_n_K h2
        have hset := s_setWith_s (G := G) hV2 h1 h2
        have hX := hV2.2.1.2.2 _ hj
        obtain ⟨hκ, hz⟩ := hV7 _ hj
        generalize hje : sp_n s = j at *
        generalize hk1 : sp_n k = k1 at *
        subst hse
        subst hke
        generalize hq7 : sp_n r = jr at *
        subst hjre
        rcases hz2 jr hjr with ⟨e1, e2⟩ | ⟨x0, y0, n, f0, e1, e2, e3, e4, e5, e6⟩
        · rw [if_neg e2] at hft
          refine nk_aload_n (i := 0) dX7_tell_0 rfl rfl ?_
          refine nk_iload_n (i := 1) dX7_tell_1 rfl rfl ?_
          refine nk_iload_n (i := 2) dX7_tell_2 rfl rfl ?_
          refine nk_cVq kX7_124 hset dX7_tell_3 hfs rfl rfl (by decide) (Nat.le_of_ble_eq_true rfl) ?_
          refine nk_J.to (st' := [.ref (qs j)]) ?_ rfl rfl rfl
          refine nk_astoreT dX7_tell_6 (by decide) ?_
          refine nk_aload dX7_tell_8 rfl ?_
          refine nk_ifnullR dX7_tell_10 ?_
          refine nk_iload_n (i := 3) dX7_tell_13 rfl rfl ?_
          refine nk_cSi kX7_53 (s_X7_isRow) dX7_tell_14 rfl rfl (by decide) (Nat.le_of_ble_eq_true rfl) ?_
          refine nk_ifne (tgt := 23) dX7_tell_17 (by decide) (fun _ => ?_) (fun h17 => by first | exact absurd (nk_y h3) h17 | exact absurd h17 (nk_y h3))
          refine nk_aload_n (i := 0) dX7_tell_23 rfl rfl ?_
          refine nk_getf fX7_11 dX7_tell_24 hx.1.1 rfl ?_
          refine nk_iload_n (i := 3) dX7_tell_27 rfl rfl ?_
          refine nk_aaldN (j := jr) 3 rfl rfl dX7_tell_28 hz1.1 (rfl) (by omega) (by decide) (show va_rf (z jr) = .null by rw [e1]; rfl) ?_
          refine nk_astoreNT dX7_tell_29 (by decide) ?_
          refine nk_aloadN dX7_tell_31 rfl ?_
          refine nk_ifnonnullN dX7_tell_33 ?_
          refine nk_aload_n (i := 0) dX7_tell_36 rfl rfl ?_
          refine nk_iconst (v := 1) dX7_tell_37 (by decide) ?_
          refine nk_cVi kX7_62 (s_X7_found hx.1.1) dX7_tell_38 hx.1.1 rfl rfl (by decide) (Nat.le_of_ble_eq_true rfl) ?_
          refine nk_ireturn dX7_tell_41 rfl ?_
          exact pW.fnd 1 (by decide) (by decide) hft hn hx hs
        · rw [if_pos (by rw [e2]; exact nk_0le e3)] at hft
          have hnn : (A 3 jr).toInt = (n : Int) := by rw [e2]; exact nI_toInt (by omega)
          have hr : cRo K x0 y0 (A 2 jr) n f0 := ⟨e4.1, e5.1⟩
          rw [hnn] at hft
          by_cases h4 : 0 ≤ i.toInt ∧ i.toInt ≤ n
          · rw [if_pos h4] at hft
            have h4' : (0 : Int32) ≤ i ∧ (0 : Int32) ≤ 0 ∧ i.toInt + (0 : Int32).toInt ≤ n := ⟨(fa_le _ _).mpr h4.1, by decide, by show i.toInt + 0 ≤ _; omega⟩
            obtain ⟨hi1, hie⟩ : sp_n i ≤ n ∧ i = nI (sp_n i) := ⟨by unfold sp_n Int32.toNatClampNeg; omega, nI_ofI h4.1⟩
            have hX0 := hX
            obtain ⟨fX, hkX, hfX⟩ := hX
            have hx0y : x0 ≠ y0 := nk_cdif e4.1 e5.1 (by intro z; cases z)
            have tw : ws j ≠ y0 := fun e => by have t1 := (s3.2.2.2 j hj).2; rw [e, e5.2] at t1; omega
            have tq : qs j ≠ y0 := fun e => by have t1 := (s3.2.2.2 j hj).1; rw [e, e5.2] at t1; omega
            generalize hq9 : sp_n i = i1 at *
            subst hie
            subst hft
            have hst0 : nk_up (gm (shF (A 0) 0 j)) k1 (nk_tp b - k1) = (if nk_mem (A 0) 0 j k1 = true then some k1 else sp_abv (nk_mem (A 0) 0 j) (nk_tp b) k1) := nk_up_s hkt
            have hA3 : sp_n (A 3 jr) = n := by rw [e2]; exact sp_n_nI (by omega)
            have hTL : sp_tl (gm (shF (A 0) 0 j)) (nk_tp b) (A 2 jr) n i1 (40 * jr + i1) 41 0 (nk_up (gm (shF (A 0) 0 j)) k1 (nk_tp b - k1)) (A 4) = sp_tl0 A b j k1 jr i1 (nk_mem (A 0) 0 j) := by unfold sp_tl0; rw [hst0, hA3]; rfl
            generalize hTT : sp_tl0 A b j k1 jr i1 (nk_mem (A 0) 0 j) = TT at *
            refine nk_aload_n (i := 0) dX7_tell_0 rfl rfl ?_
            refine nk_iload_n (i := 1) dX7_tell_1 rfl rfl ?_
            refine nk_iload_n (i := 2) dX7_tell_2 rfl rfl ?_
            refine nk_cVq kX7_124 hset dX7_tell_3 hfs rfl rfl (by decide) (Nat.le_of_ble_eq_true rfl) ?_
            refine nk_J.to (st' := [.ref (qs j)]) ?_ rfl rfl rfl
            refine nk_astoreT dX7_tell_6 (by decide) ?_
            refine nk_aload dX7_tell_8 rfl ?_
            refine nk_ifnullR dX7_tell_10 ?_
            refine nk_iload_n (i := 3) dX7_tell_13 rfl rfl ?_
            refine nk_cSi kX7_53 (s_X7_isRow) dX7_tell_14 rfl rfl (by decide) (Nat.le_of_ble_eq_true rfl) ?_
            refine nk_ifne (tgt := 23) dX7_tell_17 (by decide) (fun _ => ?_) (fun h17 => by first | exact absurd (nk_y h3) h17 | exact absurd h17 (nk_y h3))
            refine nk_aload_n (i := 0) dX7_tell_23 rfl rfl ?_
            refine nk_getf fX7_11 dX7_tell_24 hx.1.1 rfl ?_
            refine nk_iload_n (i := 3) dX7_tell_27 rfl rfl ?_
            refine nk_aaldN (j := jr) 3 rfl rfl dX7_tell_28 hz1.1 (rfl) (by omega) (by decide) (show va_rf (z jr) = .ref x0 by rw [e1]; rfl) ?_
            refine nk_astoreT dX7_tell_29 (by decide) ?_
            refine nk_aload dX7_tell_31 rfl ?_
            refine nk_ifnonnullR (tgt := 42) dX7_tell_33 (by decide) ?_
            refine nk_aload dX7_tell_42 rfl ?_
            refine nk_iload dX7_tell_44 rfl ?_
            refine nk_iconst (v := 0) dX7_tell_46 (by decide) ?_
            refine nk_cVi kX7_72 (s_X4_spans hr e3) dX7_tell_47 hr.1 rfl rfl (by decide) (Nat.le_of_ble_eq_true rfl) ?_
            refine nk_ifne (tgt := 59) dX7_tell_50 (by decide) (fun _ => ?_) (fun h50 => by first | exact absurd (nk_y h4') h50 | exact absurd h50 (nk_y h4'))
            refine nk_iconst (v := 0) dX7_tell_59 (by decide) ?_
            refine nk_istoreT dX7_tell_60 (by decide) ?_
            refine nk_aload dX7_tell_62 rfl ?_
            refine nk_iload_n (i := 2) dX7_tell_64 rfl rfl ?_
            refine nk_cVi kX7_176 (hX0.i (fun H' hk => s_X2_from hk hb2 hb10 hz (k := k1) (by omega))) dX7_tell_65 hX0.o rfl rfl (by decide) (Nat.le_of_ble_eq_true rfl) ?_
            refine nk_istoreT dX7_tell_68 (by decide) ?_
            refine (l_X7_tell (κ := shK (A 0) 0 j) (jr := jr) (j := j) (T4 := TT.1) (nT := TT.2) hb2 hb10 (fun c => hX0.at (nk_u_ne tq) (nk_u_ne tw)) hz (fun c => ⟨(nk_u_ne hx0y).trans e4.1, nk_u_self _ _ _⟩) e3 hi1 (fun fN l8 hfN => ?_) 41 0 _ (A 4) f0 (by omega) (by omega) (fun k2 hk2 => (by obtain ⟨_, q2, _⟩ := nk_up_lt hk2; omega)) e6 (by rw [hTL])).to rfl rfl (nk_u_at e5.1).symm
            have hoy : o ≠ y0 := nk_cdif hx.1.1 e5.1 (by intro z; cases z)
            refine nk_aload_n (i := 0) dX7_tell_121 rfl rfl ?_
            refine nk_iload dX7_tell_122 rfl ?_
            refine nk_cVi kX7_69 (s_X7_fine ((nk_u_ne hoy).trans hx.1.1)) dX7_tell_124 ((nk_u_ne hoy).trans hx.1.1) rfl rfl (by decide) (Nat.le_of_ble_eq_true rfl) ?_
            refine nk_ireturn dX7_tell_127 rfl ?_
            refine pW.ok rfl (cW.items (A' := va_up A 4 TT.1) (I' := va_up I 3 0) hn hx hs hz1 hz2 hjr e1 e2 e3 e4 e5 hfN (fun r' hr' hne i' hi' => ?_) rfl rfl rfl rfl rfl rfl rfl rfl rfl rfl)
            show A 4 _ = TT.1 _
            rw [← hTL]
            exact (sp_tl_out e3 (by omega) _ _ _ _).symm
          · rw [if_neg h4] at hft
            have h4' : ¬ ((0 : Int32) ≤ i ∧ (0 : Int32) ≤ 0 ∧ i.toInt + (0 : Int32).toInt ≤ n) := fun q => h4 ⟨(fa_le _ _).mp q.1, by have q2 : i.toInt + 0 ≤ n := q.2.2; omega⟩
            refine nk_aload_n (i := 0) dX7_tell_0 rfl rfl ?_
            refine nk_iload_n (i := 1) dX7_tell_1 rfl rfl ?_
            refine nk_iload_n (i := 2) dX7_tell_2 rfl rfl ?_
            refine nk_cVq kX7_124 hset dX7_tell_3 hfs rfl rfl (by decide) (Nat.le_of_ble_eq_true rfl) ?_
            refine nk_J.to (st' := [.ref (qs j)]) ?_ rfl rfl rfl
            refine nk_astoreT dX7_tell_6 (by decide) ?_
            refine nk_aload dX7_tell_8 rfl ?_
            refine nk_ifnullR dX7_tell_10 ?_
            refine nk_iload_n (i := 3) dX7_tell_13 rfl rfl ?_
            refine nk_cSi kX7_53 (s_X7_isRow) dX7_tell_14 rfl rfl (by decide) (Nat.le_of_ble_eq_true rfl) ?_
            refine nk_ifne (tgt := 23) dX7_tell_17 (by decide) (fun _ => ?_) (fun h17 => by first | exact absurd (nk_y h3) h17 | exact absurd h17 (nk_y h3))
            refine nk_aload_n (i := 0) dX7_tell_23 rfl rfl ?_
            refine nk_getf fX7_11 dX7_tell_24 hx.1.1 rfl ?_
            refine nk_iload_n (i := 3) dX7_tell_27 rfl rfl ?_
            refine nk_aaldN (j := jr) 3 rfl rfl dX7_tell_28 hz1.1 (rfl) (by omega) (by decide) (show va_rf (z jr) = .ref x0 by rw [e1]; rfl) ?_
            refine nk_astoreT dX7_tell_29 (by decide) ?_
            refine nk_aload dX7_tell_31 rfl ?_
            refine nk_ifnonnullR (tgt := 42) dX7_tell_33 (by decide) ?_
            refine nk_aload dX7_tell_42 rfl ?_
            refine nk_iload dX7_tell_44 rfl ?_
            refine nk_iconst (v := 0) dX7_tell_46 (by decide) ?_
            refine nk_cVi kX7_72 (s_X4_spans hr e3) dX7_tell_47 hr.1 rfl rfl (by decide) (Nat.le_of_ble_eq_true rfl) ?_
            refine nk_ifne (tgt := 59) dX7_tell_50 (by decide) (fun h50 => by first | exact absurd h50 ((fun z => z (nk_n h4'))) | exact absurd ((fun z => z (nk_n h4'))) h50) (fun _ => ?_)
            refine nk_aload_n (i := 0) dX7_tell_53 rfl rfl ?_
            refine nk_iconst (v := 2) dX7_tell_54 (by decide) ?_
            refine nk_cVi kX7_62 (s_X7_found hx.1.1) dX7_tell_55 hx.1.1 rfl rfl (by decide) (Nat.le_of_ble_eq_true rfl) ?_
            refine nk_ireturn dX7_tell_58 rfl ?_
            exact pW.fnd 2 (by decide) (by decide) hft hn hx hs
      · have hft : f_tell A m b s k r i = -1 := by unfold f_tell; rw [if_pos h1, if_pos h2, if_neg h3]
        generalize f_tell A m b s k r i = FT at hft ⊢
        obtain ⟨q, sa, qs, ws, rfl, s2, s3, s4, s5⟩ := hs.S h1
        have hV2 : cVs K o m b (A 0) (.ref a1) (.ref a2) (.ref a3) (.ref a4) (.ref a5) (.int (I 2)) (.int (I 3)) q sa qs ws := ⟨hx.1.1, s3.1, s2⟩
        have hm4 := hV2.2.2.2.2.2.1
        have hb2 := hV2.2.2.2.2.2.2.1
        have hb10 := hV2.2.2.2.2.2.2.2.1
        have hV7 := hV2.2.2.2.2.2.2.2.2
        have hwm := wm_f b hb10 hb2
        obtain ⟨hj, hse⟩ := sp_n_S h1
        obtain ⟨hkt, hke⟩ := sp_n_K h2
        have hset := s_setWith_s (G := G) hV2 h1 h2
        have hX := hV2.2.1.2.2 _ hj
        obtain ⟨hκ, hz⟩ := hV7 _ hj
        generalize hje : sp_n s = j at *
        generalize hk1 : sp_n k = k1 at *
        subst hse
        subst hke
        refine nk_aload_n (i := 0) dX7_tell_0 rfl rfl ?_
        refine nk_iload_n (i := 1) dX7_tell_1 rfl rfl ?_
        refine nk_iload_n (i := 2) dX7_tell_2 rfl rfl ?_
        refine nk_cVq kX7_124 hset dX7_tell_3 hfs rfl rfl (by decide) (Nat.le_of_ble_eq_true rfl) ?_
        refine nk_J.to (st' := [.ref (qs j)]) ?_ rfl rfl rfl
        refine nk_astoreT dX7_tell_6 (by decide) ?_
        refine nk_aload dX7_tell_8 rfl ?_
        refine nk_ifnullR dX7_tell_10 ?_
        refine nk_iload_n (i := 3) dX7_tell_13 rfl rfl ?_
        refine nk_cSi kX7_53 (s_X7_isRow) dX7_tell_14 rfl rfl (by decide) (Nat.le_of_ble_eq_true rfl) ?_
        refine nk_ifne (tgt := 23) dX7_tell_17 (by decide) (fun h17 => by first | exact absurd h17 ((fun z => z (nk_n h3))) | exact absurd ((fun z => z (nk_n h3))) h17) (fun _ => ?_)
        refine nk_ldc qX7_61 dX7_tell_20 ?_
        refine nk_ireturn dX7_tell_22 rfl ?_
        exact pW.bad hft hW
    · have hft : f_tell A m b s k r i = -1 := by unfold f_tell; rw [if_pos h1, if_neg h2]
      have hset := s_setWith_n (G := G) hV (x := s) (y := k) (fun z => h2 z.2)
      refine nk_aload_n (i := 0) dX7_tell_0 rfl rfl ?_
      refine nk_iload_n (i := 1) dX7_tell_1 rfl rfl ?_
      refine nk_iload_n (i := 2) dX7_tell_2 rfl rfl ?_
      refine nk_cVq kX7_124 hset dX7_tell_3 hfs rfl rfl (by decide) (Nat.le_of_ble_eq_true rfl) ?_
      refine nk_J.to (st' := [.null]) ?_ rfl rfl rfl
      refine nk_astoreNT dX7_tell_6 (by decide) ?_
      refine nk_aloadN dX7_tell_8 rfl ?_
      refine nk_ifnullN (tgt := 20) dX7_tell_10 (by decide) ?_
      refine nk_ldc qX7_61 dX7_tell_20 ?_
      refine nk_ireturn dX7_tell_22 rfl ?_
      exact pW.bad hft hW
  · have hft : f_tell A m b s k r i = -1 := by unfold f_tell; rw [if_neg h1]
    have hset := s_setWith_n (G := G) hV (x := s) (y := k) (fun z => h1 z.1)
    refine nk_aload_n (i := 0) dX7_tell_0 rfl rfl ?_
    refine nk_iload_n (i := 1) dX7_tell_1 rfl rfl ?_
    refine nk_iload_n (i := 2) dX7_tell_2 rfl rfl ?_
    refine nk_cVq kX7_124 hset dX7_tell_3 hfs rfl rfl (by decide) (Nat.le_of_ble_eq_true rfl) ?_
    refine nk_J.to (st' := [.null]) ?_ rfl rfl rfl
    refine nk_astoreNT dX7_tell_6 (by decide) ?_
    refine nk_aloadN dX7_tell_8 rfl ?_
    refine nk_ifnullN (tgt := 20) dX7_tell_10 (by decide) ?_
    refine nk_ldc qX7_61 dX7_tell_20 ?_
    refine nk_ireturn dX7_tell_22 rfl ?_
    exact pW.bad hft hW

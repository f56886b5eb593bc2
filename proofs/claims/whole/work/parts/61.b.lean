/-! the class: chances, draws -/
set_option maxRecDepth 20000 in
theorem l_X7_likely {G : nk_EG} {K : nk_AH} {o j k1 y1 p1 qj nn : Nat} {x : Int32} (hpp : p1 ≤ 10) (hn : nn ≤ 16) : ∀ (n : Nat) (q : Nat) (h1 : q ≤ nn) (h2 : nn < q + n), nk_J G mX7_likely 15 (nk_rl (lk_v p1 nn x) K) 0 0 101 [some (.ref o), some (.int (nI j)), some (.int (nI k1)), some (.int (nI y1)), some (.int (nI p1)), some (.int x), some (.ref qj), some (.int (nI nn)), some (.long (lN (lk_a p1 q))), none, some (.long (lN (lk_b q))), none, some (.int (nI q))] [] K := by
  intro n
  induction n with
  | zero => intro q h1 h2; omega
  | succ n ih =>
    intro q h1 h2
    refine nk_iload dX7_likely_101 rfl ?_
    refine nk_iload dX7_likely_103 rfl ?_
    refine nk_icmpge (tgt := 130) dX7_likely_105 (by decide) (fun h105 => ?_) (fun h105 => ?_)
    · skip
      have e2 : q = nn := Nat.le_antisymm h1 (nk_leI (a := nn) h105 (by omega) (by omega))
      subst e2
      have hA := lk_a_le hpp hn
      have hB := lk_b_le hn
      have hB0 := lk_b_pos q
      have hg0 : 0 < Nat.gcd (lk_a p1 q) (lk_b q) := Nat.gcd_pos_of_pos_right _ hB0
      have hgl : Nat.gcd (lk_a p1 q) (lk_b q) ≤ lk_b q := Nat.gcd_le_right _ hB0
      refine nk_iload dX7_likely_130 rfl ?_
      refine nk_ifne (tgt := 140) dX7_likely_132 (by decide) (fun h132 => ?_) (fun h132 => ?_)
      · skip
        refine nk_lload dX7_likely_140 rfl ?_
        refine nk_lload dX7_likely_142 rfl ?_
        refine nk_lload dX7_likely_144 rfl ?_
        refine nk_cSl kX7_264 (s_X7_sharedFactor (by omega) hB0 (by omega)) dX7_likely_146 rfl rfl (by decide) (Nat.le_of_ble_eq_true rfl) ?_
        refine nk_ldiv dX7_likely_149 (nk_lne hg0 (by omega)) ?_
        refine nk_lreturn dX7_likely_150 rfl ?_
        first
        | exact ⟨by unfold lk_v; rw [if_pos h132, pk_lDiv (by omega) hg0 (by omega)], rfl⟩
        | exact ⟨by unfold lk_v; rw [if_neg h132, pk_lDiv (by omega) hg0 (by omega)], rfl⟩
        | exact ⟨by unfold lk_v; rw [if_pos (Classical.not_not.mp h132), pk_lDiv (by omega) hg0 (by omega)], rfl⟩
      · skip
        refine nk_lload dX7_likely_135 rfl ?_
        refine nk_goto (tgt := 142) dX7_likely_137 (by decide) ?_
        refine nk_lload dX7_likely_142 rfl ?_
        refine nk_lload dX7_likely_144 rfl ?_
        refine nk_cSl kX7_264 (s_X7_sharedFactor (by omega) hB0 (by omega)) dX7_likely_146 rfl rfl (by decide) (Nat.le_of_ble_eq_true rfl) ?_
        refine nk_ldiv dX7_likely_149 (nk_lne hg0 (by omega)) ?_
        refine nk_lreturn dX7_likely_150 rfl ?_
        first
        | exact ⟨by unfold lk_v; rw [if_pos h132, pk_lDiv (by omega) hg0 (by omega)], rfl⟩
        | exact ⟨by unfold lk_v; rw [if_neg h132, pk_lDiv (by omega) hg0 (by omega)], rfl⟩
        | exact ⟨by unfold lk_v; rw [if_pos (Classical.not_not.mp h132), pk_lDiv (by omega) hg0 (by omega)], rfl⟩
    · skip
      have hk := nk_nleI (a := nn) h105 (by omega) (by omega)
      refine nk_lload dX7_likely_108 rfl ?_
      refine nk_iload dX7_likely_110 rfl ?_
      refine nk_i2l dX7_likely_112 ?_
      refine nk_topl (y := lN p1) (nI_l (by omega)) ?_
      refine nk_lmul dX7_likely_113 ?_
      refine nk_topl (y := lN (lk_a p1 (q + 1))) (by rw [lN_mul, lk_a_s]) ?_
      refine nk_lstoreT dX7_likely_114 (by decide) ?_
      refine nk_lload dX7_likely_116 rfl ?_
      refine nk_ldc2 qX7_262 dX7_likely_118 ?_
      refine nk_lmul dX7_likely_121 ?_
      refine nk_topl (y := lN (lk_b (q + 1))) (by rw [show (10 : Int64) = lN 10 from rfl, lN_mul, lk_b_s]) ?_
      refine nk_lstoreT dX7_likely_122 (by decide) ?_
      refine nk_iincT dX7_likely_124 rfl (nk_i1 q) (by decide) ?_
      refine nk_goto (tgt := 101) dX7_likely_127 (by decide) ?_
      exact ih (q + 1) (by omega) (by omega)
set_option maxRecDepth 20000 in
theorem s_X7_likely {G : nk_EG} {K : nk_AH} {o m b : Nat} {r : Nat → Int32} (hV : cV K o m b r) {s k y z x : Int32} : nk_Sl G mX7_likely 15 [.ref o, .int s, .int k, .int y, .int z, .int x] K (sp_likely m b (nk_mem r 0) s k y z x) K := by
  refine nk_S.of (by decide +kernel) (Nat.le_of_ble_eq_true rfl) rfl ?_
  obtain ⟨fs, hfs⟩ := hV.o
  by_cases h1 : sp_S m s
  · by_cases h2 : sp_K b k
    · skip
      obtain ⟨v1, v2, v3, v4, v5, f1, f2, q, sa, qs, ws, hV2⟩ := hV.S h1
      have hm4 := hV2.2.2.2.2.2.1
      have hb2 := hV2.2.2.2.2.2.2.1
      have hb10 := hV2.2.2.2.2.2.2.2.1
      have hV7 := hV2.2.2.2.2.2.2.2.2
      have hwm := wm_f b hb10 hb2
      obtain ⟨hj, hse⟩ := sp_n_S h1
      obtain ⟨hkt, hke⟩ := sp_n_K h2
      have hset := s_setWith_s (G := G) hV2 h1 h2
      have hX := hV2.2.1.2.2 _ hj
      obtain ⟨hκ, hz⟩ := hV7 _ hj
      generalize hje : sp_n s = j at *
      generalize hk1 : sp_n k = k1 at *
      subst hse
      subst hke
      refine nk_aload_n (i := 0) dX7_likely_0 rfl rfl ?_
      refine nk_iload_n (i := 1) dX7_likely_1 rfl rfl ?_
      refine nk_iload_n (i := 2) dX7_likely_2 rfl rfl ?_
      refine nk_cVq kX7_124 hset dX7_likely_3 hfs rfl rfl (by decide) (Nat.le_of_ble_eq_true rfl) ?_
      refine nk_J.to (st' := [.ref (qs j)]) ?_ rfl rfl rfl
      refine nk_astoreT dX7_likely_6 (by decide) ?_
      refine nk_aload dX7_likely_8 rfl ?_
      refine nk_ifnullR dX7_likely_10 ?_
      refine nk_aload dX7_likely_13 rfl ?_
      refine nk_iload_n (i := 3) dX7_likely_15 rfl rfl ?_
      refine nk_cVi kX7_137 (hX.i (fun H' hk => s_X2_isKey hk hb2 hb10)) dX7_likely_16 hX.o rfl rfl (by decide) (Nat.le_of_ble_eq_true rfl) ?_
      refine nk_ifeq (tgt := 43) dX7_likely_19 (by decide) (fun h19 => ?_) (fun h19 => ?_)
      · skip
        simp only [nk_b0, Classical.not_not] at h19
        first | (have hO : sp_K b y := h19) | (have hO : ¬ sp_K b y := h19)
        have hB : ¬ c_lk m b (nI j) (nI k1) y z x := fun q => by first | exact hO q.2.2.1 | exact hP q.2.2.2.1 | exact hR q.2.2.2.2
        refine nk_ldc2 qX7_258 dX7_likely_43 ?_
        refine nk_lreturn dX7_likely_46 rfl ?_
        exact ⟨by unfold sp_likely; rw [if_neg hB], rfl⟩
      · skip
        simp only [nk_b0, Classical.not_not] at h19
        first | (have hO : sp_K b y := h19) | (have hO : ¬ sp_K b y := h19)
        refine nk_iload dX7_likely_22 rfl ?_
        refine nk_iconst (v := 0) dX7_likely_24 (by decide) ?_
        refine nk_bipush (v := 10) dX7_likely_25 (by decide) ?_
        refine nk_cSi kX7_57 (s_X7_within) dX7_likely_27 rfl rfl (by decide) (Nat.le_of_ble_eq_true rfl) ?_
        refine nk_ifeq (tgt := 43) dX7_likely_30 (by decide) (fun h30 => ?_) (fun h30 => ?_)
        · skip
          simp only [ne_eq, nk_b0, Classical.not_not] at h30
          first | (have hP : sp_R z 0 10 := h30) | (have hP : ¬ sp_R z 0 10 := h30)
          have hB : ¬ c_lk m b (nI j) (nI k1) y z x := fun q => by first | exact hO q.2.2.1 | exact hP q.2.2.2.1 | exact hR q.2.2.2.2
          refine nk_ldc2 qX7_258 dX7_likely_43 ?_
          refine nk_lreturn dX7_likely_46 rfl ?_
          exact ⟨by unfold sp_likely; rw [if_neg hB], rfl⟩
        · skip
          simp only [ne_eq, nk_b0, Classical.not_not] at h30
          first | (have hP : sp_R z 0 10 := h30) | (have hP : ¬ sp_R z 0 10 := h30)
          refine nk_iload dX7_likely_33 rfl ?_
          refine nk_iconst (v := 0) dX7_likely_35 (by decide) ?_
          refine nk_iconst (v := 1) dX7_likely_36 (by decide) ?_
          refine nk_cSi kX7_57 (s_X7_within) dX7_likely_37 rfl rfl (by decide) (Nat.le_of_ble_eq_true rfl) ?_
          refine nk_ifne (tgt := 47) dX7_likely_40 (by decide) (fun h40 => ?_) (fun h40 => ?_)
          · skip
            simp only [ne_eq, nk_b0, Classical.not_not] at h40
            first | (have hR : sp_R x 0 1 := h40) | (have hR : ¬ sp_R x 0 1 := h40)
            have hB : c_lk m b (nI j) (nI k1) y z x := ⟨h1, h2, hO, hP, hR⟩
            unfold sp_likely
            rw [if_pos hB, hje, hk1]
            obtain ⟨hy1, hye⟩ := sp_n_K hO
            obtain ⟨hz1, hze⟩ : sp_n z ≤ 10 ∧ z = nI (sp_n z) := ⟨by have := hP.1; have := hP.2; unfold sp_n Int32.toNatClampNeg; omega, nI_ofI hP.1⟩
            generalize hq1 : sp_n y = y1 at *
            generalize hq2 : sp_n z = p1 at *
            subst hye
            subst hze
            change nk_J G mX7_likely 15 (nk_rl (if c_lk2 (gm (shF r 0 j)) k1 y1 then lk_v p1 (lk_n (gm (shF r 0 j)) k1 y1) x else -1000002) K) 0 0 47 _ [] K
            have t1 : (nI (k1 + 1)).toInt = (k1 : Int) + 1 := by rw [nI_toInt (by omega)]; omega
            have t2 := nk_m1 (n := y1) (by omega)
            have hlk : fb_ct (cwp (shF r 0 j) (nI (k1 + 1)).toInt (nI y1 - 1).toInt) 1024 = lk_n (gm (shF r 0 j)) k1 y1 := by rw [t1, t2]; exact cw_lk (by omega)
            have hlb : lk_n (gm (shF r 0 j)) k1 y1 ≤ 1024 := by rw [← hlk]; exact fb_ct_le _ _
            refine nk_aload dX7_likely_47 rfl ?_
            refine nk_iload_n (i := 2) dX7_likely_49 rfl rfl ?_
            refine nk_iconst (v := 1) dX7_likely_50 (by decide) ?_
            refine nk_iadd dX7_likely_51 ?_
            refine nk_top (y := nI (k1 + 1)) (nI_1 k1) ?_
            refine nk_iload_n (i := 3) dX7_likely_52 rfl rfl ?_
            refine nk_iconst (v := 1) dX7_likely_53 (by decide) ?_
            refine nk_isub dX7_likely_54 ?_
            refine nk_cVi kX7_238 (hX.i (fun H' hk => s_X2_sizeWithin hk hb2 hb10 hz (by omega) (by omega))) dX7_likely_55 hX.o rfl rfl (by decide) (Nat.le_of_ble_eq_true rfl) ?_
            refine nk_top (y := nI (lk_n (gm (shF r 0 j)) k1 y1)) (by rw [hlk]) ?_
            refine nk_istoreT dX7_likely_58 (by decide) ?_
            refine nk_aload dX7_likely_60 rfl ?_
            refine nk_iload_n (i := 3) dX7_likely_62 rfl rfl ?_
            refine nk_cVi kX7_128 (hX.i (fun H' hk => s_X2_holds hk hb2 hb10 (k := y1) hy1)) dX7_likely_63 hX.o rfl rfl (by decide) (Nat.le_of_ble_eq_true rfl) ?_
            refine nk_ifeq (tgt := 81) dX7_likely_66 (by decide) (fun h66 => ?_) (fun h66 => ?_)
            · skip
              simp only [nk_b0, Classical.not_not] at h66
              have hB2 : ¬ c_lk2 (gm (shF r 0 j)) k1 y1 := fun q => by
                first
                | exact h66 q.1
                | exact absurd (nk_leI h71 (by omega) (by omega)) (by have := q.2.1; omega)
                | exact absurd ((nI_leI (b := 16) (by omega) (by omega)).mpr q.2.2) h78
              refine nk_ldc2 qX7_260 dX7_likely_81 ?_
              refine nk_lreturn dX7_likely_84 rfl ?_
              exact ⟨by rw [if_neg hB2], rfl⟩
            · skip
              simp only [nk_b0, Classical.not_not] at h66
              refine nk_iload_n (i := 3) dX7_likely_69 rfl rfl ?_
              refine nk_iload_n (i := 2) dX7_likely_70 rfl rfl ?_
              refine nk_icmple (tgt := 81) dX7_likely_71 (by decide) (fun h71 => ?_) (fun h71 => ?_)
              · skip
                have hB2 : ¬ c_lk2 (gm (shF r 0 j)) k1 y1 := fun q => by
                  first
                  | exact h66 q.1
                  | exact absurd (nk_leI h71 (by omega) (by omega)) (by have := q.2.1; omega)
                  | exact absurd ((nI_leI (b := 16) (by omega) (by omega)).mpr q.2.2) h78
                refine nk_ldc2 qX7_260 dX7_likely_81 ?_
                refine nk_lreturn dX7_likely_84 rfl ?_
                exact ⟨by rw [if_neg hB2], rfl⟩
              · skip
                refine nk_iload dX7_likely_74 rfl ?_
                refine nk_bipush (v := 16) dX7_likely_76 (by decide) ?_
                refine nk_icmple (tgt := 85) dX7_likely_78 (by decide) (fun h78 => ?_) (fun h78 => ?_)
                · skip
                  have hB2 : c_lk2 (gm (shF r 0 j)) k1 y1 := ⟨h66, nk_nleI h71 (by omega) (by omega), nk_leI (b := 16) h78 (by omega) (by omega)⟩
                  rw [if_pos hB2]
                  refine nk_bipush (v := 10) dX7_likely_85 (by decide) ?_
                  refine nk_iload dX7_likely_87 rfl ?_
                  refine nk_isub dX7_likely_89 ?_
                  refine nk_top (y := nI (10 - p1)) (pk_sub (a := 10) (by omega)) ?_
                  refine nk_i2l dX7_likely_90 ?_
                  refine nk_topl (y := lN (lk_a p1 0)) (by rw [nI_l (by omega)]; unfold lk_a; rw [Nat.pow_zero, Nat.mul_one]) ?_
                  refine nk_lstoreT dX7_likely_91 (by decide) ?_
                  refine nk_ldc2 qX7_262 dX7_likely_93 ?_
                  refine nk_lstoreT dX7_likely_96 (by decide) ?_
                  refine nk_iconst (v := 0) dX7_likely_98 (by decide) ?_
                  refine nk_istoreT dX7_likely_99 (by decide) ?_
                  exact (l_X7_likely (x := x) hz1 hB2.2.2 (lk_n (gm (shF r 0 j)) k1 y1 + 1) 0 (by omega) (by omega)).to rfl rfl rfl
                · skip
                  have hB2 : ¬ c_lk2 (gm (shF r 0 j)) k1 y1 := fun q => by
                    first
                    | exact h66 q.1
                    | exact absurd (nk_leI h71 (by omega) (by omega)) (by have := q.2.1; omega)
                    | exact absurd ((nI_leI (b := 16) (by omega) (by omega)).mpr q.2.2) h78
                  refine nk_ldc2 qX7_260 dX7_likely_81 ?_
                  refine nk_lreturn dX7_likely_84 rfl ?_
                  exact ⟨by rw [if_neg hB2], rfl⟩
          · skip
            simp only [ne_eq, nk_b0, Classical.not_not] at h40
            first | (have hR : sp_R x 0 1 := h40) | (have hR : ¬ sp_R x 0 1 := h40)
            have hB : ¬ c_lk m b (nI j) (nI k1) y z x := fun q => by first | exact hO q.2.2.1 | exact hP q.2.2.2.1 | exact hR q.2.2.2.2
            refine nk_ldc2 qX7_258 dX7_likely_43 ?_
            refine nk_lreturn dX7_likely_46 rfl ?_
            exact ⟨by unfold sp_likely; rw [if_neg hB], rfl⟩
    · have hset := s_setWith_n (G := G) hV (x := s) (y := k) (fun z => h2 z.2)
      refine nk_aload_n (i := 0) dX7_likely_0 rfl rfl ?_
      refine nk_iload_n (i := 1) dX7_likely_1 rfl rfl ?_
      refine nk_iload_n (i := 2) dX7_likely_2 rfl rfl ?_
      refine nk_cVq kX7_124 hset dX7_likely_3 hfs rfl rfl (by decide) (Nat.le_of_ble_eq_true rfl) ?_
      refine nk_J.to (st' := [.null]) ?_ rfl rfl rfl
      refine nk_astoreNT dX7_likely_6 (by decide) ?_
      refine nk_aloadN dX7_likely_8 rfl ?_
      refine nk_ifnullN (tgt := 43) dX7_likely_10 (by decide) ?_
      refine nk_ldc2 qX7_258 dX7_likely_43 ?_
      refine nk_lreturn dX7_likely_46 rfl ?_
      have hB : ¬ c_lk m b s k y z x := fun q => h2 q.2.1
      exact ⟨by unfold sp_likely; rw [if_neg hB], rfl⟩
  · have hset := s_setWith_n (G := G) hV (x := s) (y := k) (fun z => h1 z.1)
    refine nk_aload_n (i := 0) dX7_likely_0 rfl rfl ?_
    refine nk_iload_n (i := 1) dX7_likely_1 rfl rfl ?_
    refine nk_iload_n (i := 2) dX7_likely_2 rfl rfl ?_
    refine nk_cVq kX7_124 hset dX7_likely_3 hfs rfl rfl (by decide) (Nat.le_of_ble_eq_true rfl) ?_
    refine nk_J.to (st' := [.null]) ?_ rfl rfl rfl
    refine nk_astoreNT dX7_likely_6 (by decide) ?_
    refine nk_aloadN dX7_likely_8 rfl ?_
    refine nk_ifnullN (tgt := 43) dX7_likely_10 (by decide) ?_
    refine nk_ldc2 qX7_258 dX7_likely_43 ?_
    refine nk_lreturn dX7_likely_46 rfl ?_
    have hB : ¬ c_lk m b s k y z x := fun q => h1 q.1
    exact ⟨by unfold sp_likely; rw [if_neg hB], rfl⟩
set_option maxRecDepth 20000 in
theorem s_X7_drawn {G : nk_EG} {K : nk_AH} {o m b : Nat} {r : Nat → Int32} (hV : cV K o m b r) {n x z : Int32} : nk_S G mX7_drawn 15 10 160 [.ref o, .int n, .int x, .int z] K (fun v K' => v = some (.int (sp_drawn m b (va_cpy r r 0 3618 134) n x z)) ∧ nk_le K K') := by
  refine nk_S.of (by decide +kernel) (Nat.le_of_ble_eq_true rfl) rfl ?_
  rcases hV with ⟨v1, v2, v3, v4, v5, f1, f2, hn, rfl, rfl⟩ | ⟨v1, v2, v3, v4, v5, f1, f2, q, sa, qs, ws, hV2⟩
  · skip
    refine nk_aload_n (i := 0) dX7_drawn_0 rfl rfl ?_
    refine nk_getf fX7_42 dX7_drawn_1 hn rfl ?_
    refine nk_ifnonnullN dX7_drawn_4 ?_
    refine nk_ldc qX7_120 dX7_drawn_7 ?_
    refine nk_ireturn dX7_drawn_9 rfl ?_
    exact ⟨by unfold sp_drawn; rw [if_neg (by omega)], fun _ _ h => h⟩
  · skip
    have hm4 := hV2.2.2.2.2.2.1
    have hb2 := hV2.2.2.2.2.2.2.1
    have hb10 := hV2.2.2.2.2.2.2.2.1
    have hV7 := hV2.2.2.2.2.2.2.2.2
    have hwm := wm_f b hb10 hb2
    have h1m := hV2.2.2.2.2.1
    unfold sp_drawn
    rw [if_pos (show 0 < b by omega)]
    refine nk_aload_n (i := 0) dX7_drawn_0 rfl rfl ?_
    refine nk_getf fX7_42 dX7_drawn_1 hV2.1 rfl ?_
    refine nk_ifnonnullR (tgt := 10) dX7_drawn_4 (by decide) ?_
    refine nk_iload_n (i := 1) dX7_drawn_10 rfl rfl ?_
    refine nk_iconst (v := 0) dX7_drawn_11 (by decide) ?_
    refine nk_sipush (v := 200) dX7_drawn_12 (by decide) ?_
    refine nk_cSi kX7_57 (s_X7_within) dX7_drawn_15 rfl rfl (by decide) (Nat.le_of_ble_eq_true rfl) ?_
    refine nk_ifeq (tgt := 41) dX7_drawn_18 (by decide) (fun h18 => ?_) (fun h18 => ?_)
    · skip
      simp only [ne_eq, nk_b0, Classical.not_not] at h18
      first | (have hN : sp_R n 0 200 := h18) | (have hN : ¬ sp_R n 0 200 := h18)
      have hB : ¬ c_drawn b n x z := fun q => by first | exact hN q.2.1 | exact hX q.2.2.1 | exact hR q.2.2.2
      refine nk_ldc qX7_61 dX7_drawn_41 ?_
      refine nk_ireturn dX7_drawn_43 rfl ?_
      exact ⟨by rw [if_neg hB], fun _ _ h => h⟩
    · skip
      simp only [ne_eq, nk_b0, Classical.not_not] at h18
      first | (have hN : sp_R n 0 200 := h18) | (have hN : ¬ sp_R n 0 200 := h18)
      refine nk_iload_n (i := 2) dX7_drawn_21 rfl rfl ?_
      refine nk_iconst (v := 1) dX7_drawn_22 (by decide) ?_
      refine nk_ldcw qX7_268 dX7_drawn_23 ?_
      refine nk_cSi kX7_57 (s_X7_within) dX7_drawn_26 rfl rfl (by decide) (Nat.le_of_ble_eq_true rfl) ?_
      refine nk_ifeq (tgt := 41) dX7_drawn_29 (by decide) (fun h29 => ?_) (fun h29 => ?_)
      · skip
        simp only [ne_eq, nk_b0, Classical.not_not] at h29
        first | (have hX : sp_R x 1 999999 := h29) | (have hX : ¬ sp_R x 1 999999 := h29)
        have hB : ¬ c_drawn b n x z := fun q => by first | exact hN q.2.1 | exact hX q.2.2.1 | exact hR q.2.2.2
        refine nk_ldc qX7_61 dX7_drawn_41 ?_
        refine nk_ireturn dX7_drawn_43 rfl ?_
        exact ⟨by rw [if_neg hB], fun _ _ h => h⟩
      · skip
        simp only [ne_eq, nk_b0, Classical.not_not] at h29
        first | (have hX : sp_R x 1 999999 := h29) | (have hX : ¬ sp_R x 1 999999 := h29)
        refine nk_iload_n (i := 3) dX7_drawn_32 rfl rfl ?_
        refine nk_iconst (v := 0) dX7_drawn_33 (by decide) ?_
        refine nk_iconst (v := 1) dX7_drawn_34 (by decide) ?_
        refine nk_cSi kX7_57 (s_X7_within) dX7_drawn_35 rfl rfl (by decide) (Nat.le_of_ble_eq_true rfl) ?_
        refine nk_ifne (tgt := 44) dX7_drawn_38 (by decide) (fun h38 => ?_) (fun h38 => ?_)
        · skip
          simp only [ne_eq, nk_b0, Classical.not_not] at h38
          first | (have hR : sp_R z 0 1 := h38) | (have hR : ¬ sp_R z 0 1 := h38)
          have hB : c_drawn b n x z := ⟨by omega, hN, hX, hR⟩
          rw [if_pos hB]
          obtain ⟨hn1, hne⟩ : sp_n n ≤ 200 ∧ n = nI (sp_n n) := ⟨by have := hN.1; have := hN.2; unfold sp_n Int32.toNatClampNeg; omega, nI_ofI hN.1⟩
          obtain ⟨hx1, hxe⟩ : sp_n x ≤ 999999 ∧ x = nI (sp_n x) := ⟨by have := hX.1; have := hX.2; unfold sp_n Int32.toNatClampNeg; omega, nI_ofI (by have := hX.1; omega)⟩
          generalize hq1 : sp_n n = n1 at *
          generalize hq2 : sp_n x = x1 at *
          subst hne
          subst hxe
          refine nk_aload_n (i := 0) dX7_drawn_44 rfl rfl ?_
          refine nk_getf fX7_42 dX7_drawn_45 hV2.1 rfl ?_
          refine nk_cV (bc' := 0) (bs' := 0) kX7_269 (s_X5_twin hV2.2.1 hm4 hb2 hb10) dX7_drawn_48 hV2.2.1.1 rfl rfl (by decide) (Nat.le_of_ble_eq_true rfl) ⟨Nat.le_refl _, Nat.le_refl _⟩ (fun rr H2 hr => ?_)
          obtain ⟨q2, a2, qs2, ws2, rfl, ht⟩ := hr
          have hS2 := ht.2.1.wr (r' := va_cpy r r 0 3618 134) hm4 hb2 hb10 (fun i hi => (va_cpy_out (by omega)).symm)
          refine nk_astoreT dX7_drawn_51 (by decide) ?_
          refine nk_aload dX7_drawn_53 rfl ?_
          refine nk_iload_n (i := 1) dX7_drawn_55 rfl rfl ?_
          refine nk_iload_n (i := 2) dX7_drawn_56 rfl rfl ?_
          refine nk_cV (bc' := 0) (bs' := 0) kX7_272 (s_X5_draw hS2 ht.2.2.2.2.2 h1m hm4 hb2 hb10 hn1 hx1) dX7_drawn_57 hS2.1 rfl rfl (by decide) (Nat.le_of_ble_eq_true rfl) ⟨Nat.le_refl _, Nat.le_refl _⟩ (fun rr H3 hr => ?_)
          obtain ⟨rfl, hS3, hfr⟩ := hr
          have hz3 : ∀ s, s < m → gz (shF (dr_f m (nk_tp b) n1 x1 (va_cpy r r 0 3618 134)) 0 s) b := fun s hs => gz_dr (by omega) hm4 hb2 hb10 (by omega) _ _ _ (fun k k1 k2 => by
            have := (hV7 s hs).2 k k1 k2
            unfold gm at this ⊢
            rw [← shF_cpy (by omega) (by omega) (by omega)]; exact this)
          have hle : nk_le K H3 := fun a e h => by
            rw [hfr a (fun s hs z => by rw [z, (ht.2.2.2.2.1 s hs).2] at h; cases h)]
            exact ht.1 a e h
          refine nk_iload_n (i := 3) dX7_drawn_60 rfl rfl ?_
          refine nk_ifne (tgt := 72) dX7_drawn_61 (by decide) (fun h61 => ?_) (fun h61 => ?_)
          · skip
            refine nk_aload dX7_drawn_72 rfl ?_
            refine nk_cVi kX7_278 (s_X5_nodesOfAll hS3 hm4 hb2 hb10 hz3) dX7_drawn_74 hS3.1 rfl rfl (by decide) (Nat.le_of_ble_eq_true rfl) ?_
            refine nk_ireturn dX7_drawn_77 rfl ?_
            first
            | exact ⟨by rw [if_pos h61]; rfl, hle⟩
            | exact ⟨by rw [if_neg h61]; rfl, hle⟩
            | exact ⟨by rw [if_pos (Classical.not_not.mp h61)]; rfl, hle⟩
          · skip
            refine nk_aload dX7_drawn_64 rfl ?_
            refine nk_cVi kX7_275 (s_X5_sizeOfAll hS3 hm4 hb2 hb10 hz3) dX7_drawn_66 hS3.1 rfl rfl (by decide) (Nat.le_of_ble_eq_true rfl) ?_
            refine nk_goto (tgt := 77) dX7_drawn_69 (by decide) ?_
            refine nk_ireturn dX7_drawn_77 rfl ?_
            first
            | exact ⟨by rw [if_pos h61]; rfl, hle⟩
            | exact ⟨by rw [if_neg h61]; rfl, hle⟩
            | exact ⟨by rw [if_pos (Classical.not_not.mp h61)]; rfl, hle⟩
        · skip
          simp only [ne_eq, nk_b0, Classical.not_not] at h38
          first | (have hR : sp_R z 0 1 := h38) | (have hR : ¬ sp_R z 0 1 := h38)
          have hB : ¬ c_drawn b n x z := fun q => by first | exact hN q.2.1 | exact hX q.2.2.1 | exact hR q.2.2.2
          refine nk_ldc qX7_61 dX7_drawn_41 ?_
          refine nk_ireturn dX7_drawn_43 rfl ?_
          exact ⟨by rw [if_neg hB], fun _ _ h => h⟩

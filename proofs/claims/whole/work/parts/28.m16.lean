/-! the reference: gathers, tells, draws -/
set_option maxRecDepth 20000 in
theorem l_X8_gather1 {G : nk_EG} {ad : Nat → Nat} {A : Nat → Nat → Int32} {I : Nat → Int32} (hi : mInj ad) {m b : Nat} (hm : mSh (A 0) 0 m b) {j r i N : Nat} {Φ : Option Value → nk_AH → Prop} (hr : r < 8) (hN : i + N ≤ 40) (kk : sp_ak (A 4) b (40 * r + i) N = true → ∀ l5 : Option Value, nk_J G mX8_gather 4 Φ 0 0 112 [some (.ref (ad 0)), some (.int (nI j)), some (.int (nI r)), some (.int (nI i)), some (.int (nI N)), l5] [] (mh ad A I)) (kb : ¬ sp_ak (A 4) b (40 * r + i) N = true → Φ (some (.int (-1000010 - 2))) (mh ad A (va_up I 3 2))) : ∀ (n : Nat) (k : Nat) (h1 : k ≤ N) (h2 : N < k + n) (h3 : ∀ q, q < k → sp_K b (A 4 (40 * r + i + q))), nk_J G mX8_gather 4 (Φ) 0 0 71 [some (.ref (ad 0)), some (.int (nI j)), some (.int (nI r)), some (.int (nI i)), some (.int (nI N)), some (.int (nI (40 * r + i + k)))] [] (mh ad A I) := by
  intro n
  induction n with
  | zero => intro k h1 h2 h3; omega
  | succ n ih =>
    intro k h1 h2 h3
    have h4 := hm.2.2.1
    have h10 := hm.2.2.2
    have ht := nk_tp_le h10
    refine nk_iload dX8_gather_71 rfl ?_
    refine nk_bipush (v := 40) dX8_gather_73 (by decide) ?_
    refine nk_iload_n (i := 2) dX8_gather_75 rfl rfl ?_
    refine nk_imul dX8_gather_76 ?_
    refine nk_iload_n (i := 3) dX8_gather_77 rfl rfl ?_
    refine nk_iadd dX8_gather_78 ?_
    refine nk_iload dX8_gather_79 rfl ?_
    refine nk_iadd dX8_gather_81 ?_
    refine nk_top (y := nI (40 * r + i + N)) (by rw [nk_i40, nI_add]) ?_
    refine nk_icmpge (tgt := 112) dX8_gather_82 (by decide) (fun h82 => ?_) (fun h82 => ?_)
    · skip
      have hk := nk_leI (a := 40 * r + i + N) h82 (by omega) (by omega)
      exact kk (sp_ak_of (fun q hq => h3 q (by omega))) _
    · skip
      have hk := nk_nleI (a := 40 * r + i + N) h82 (by omega) (by omega)
      refine nk_aload_n (i := 0) dX8_gather_85 rfl rfl ?_
      refine nk_aload_n (i := 0) dX8_gather_86 rfl rfl ?_
      refine nk_getf fX8_23 dX8_gather_87 mh_0 rfl ?_
      refine nk_iload dX8_gather_90 rfl ?_
      refine nk_ialdN (j := 40 * r + i + k) dX8_gather_92 (mh_5 hi) (rfl) (by omega) (by decide) ?_
      refine nk_i2l dX8_gather_93 ?_
      refine nk_cVi kX8_157 (s_X8_isKey hi hm.2.1 hm.2.2.2) dX8_gather_94 mh_0 rfl rfl (by decide) (Nat.le_of_ble_eq_true rfl) ?_
      refine nk_ifne (tgt := 106) dX8_gather_97 (by decide) (fun h97 => ?_) (fun h97 => ?_)
      · skip
        try simp only [nk_b0, Int32.toInt_toInt64, Classical.not_not, nk_l0, nk_l1, nk_l2, nk_l3, nk_l5, nk_l9, nk_l9m, nk_l40, nk_l255] at h97
        refine nk_iincT dX8_gather_106 rfl (nk_i1 (40 * r + i + k)) (by decide) ?_
        refine nk_goto (tgt := 71) dX8_gather_109 (by decide) ?_
        exact ih (k + 1) (by omega) (by omega) (fun q hq => by
          rcases Nat.eq_or_lt_of_le (Nat.le_of_lt_succ hq) with e | e
          · subst e; exact h97
          · exact h3 q e)
      · skip
        try simp only [nk_b0, Int32.toInt_toInt64, Classical.not_not, nk_l0, nk_l1, nk_l2, nk_l3, nk_l5, nk_l9, nk_l9m, nk_l40, nk_l255] at h97
        refine nk_aload_n (i := 0) dX8_gather_100 rfl rfl ?_
        refine nk_iconst (v := 2) dX8_gather_101 (by decide) ?_
        refine nk_cVi kX8_50 (s_X8_find hi) dX8_gather_102 mh_0 rfl rfl (by decide) (Nat.le_of_ble_eq_true rfl) ?_
        refine nk_ireturn dX8_gather_105 rfl ?_
        exact kb (fun z => h97 (sp_ak_at z k (by omega)))
set_option maxRecDepth 20000 in
theorem l_X8_gather2 {G : nk_EG} {ad : Nat → Nat} {A : Nat → Nat → Int32} {I : Nat → Int32} (hi : mInj ad) {F : Nat → Int32} {b j r i N : Nat} {Φ : Option Value → nk_AH → Prop} (hj : j < 4) (hr : r < 8) (hN : i + N ≤ 40) (h10 : b ≤ 10) (hak : sp_ak (A 4) b (40 * r + i) N = true) (kk : ∀ l5 : Option Value, nk_J G mX8_gather 4 Φ 0 0 173 [some (.ref (ad 0)), some (.int (nI j)), some (.int (nI r)), some (.int (nI i)), some (.int (nI N)), l5] [] (mh ad (va_up A 0 (a_gt F j (A 4) (40 * r + i) N)) I)) : ∀ (n : Nat) (k : Nat) (h1 : k ≤ N) (h2 : N < k + n), nk_J G mX8_gather 4 (Φ) 0 0 124 [some (.ref (ad 0)), some (.int (nI j)), some (.int (nI r)), some (.int (nI i)), some (.int (nI N)), some (.int (nI (40 * r + i + k)))] [] (mh ad (va_up A 0 (a_gt F j (A 4) (40 * r + i) k)) I) := by
  intro n
  induction n with
  | zero => intro k h1 h2; omega
  | succ n ih =>
    intro k h1 h2
    refine nk_iload dX8_gather_124 rfl ?_
    refine nk_bipush (v := 40) dX8_gather_126 (by decide) ?_
    refine nk_iload_n (i := 2) dX8_gather_128 rfl rfl ?_
    refine nk_imul dX8_gather_129 ?_
    refine nk_iload_n (i := 3) dX8_gather_130 rfl rfl ?_
    refine nk_iadd dX8_gather_131 ?_
    refine nk_iload dX8_gather_132 rfl ?_
    refine nk_iadd dX8_gather_134 ?_
    refine nk_top (y := nI (40 * r + i + N)) (by rw [nk_i40, nI_add]) ?_
    refine nk_icmpge (tgt := 173) dX8_gather_135 (by decide) (fun h135 => ?_) (fun h135 => ?_)
    · skip
      have hk := nk_leI (a := 40 * r + i + N) h135 (by omega) (by omega)
      have e2 : k = N := by omega
      subst e2
      exact kk _
    · skip
      have hk := nk_nleI (a := 40 * r + i + N) h135 (by omega) (by omega)
      have hK := sp_ak_at hak k (by omega)
      have hK2 := sp_n_toInt hK.1
      have ht := nk_tp_le h10
      refine nk_aload_n (i := 0) dX8_gather_138 rfl rfl ?_
      refine nk_iconst (v := 0) dX8_gather_139 (by decide) ?_
      refine nk_iload_n (i := 1) dX8_gather_140 rfl rfl ?_
      refine nk_aload_n (i := 0) dX8_gather_141 rfl rfl ?_
      refine nk_getf fX8_23 dX8_gather_142 mh_0 rfl ?_
      refine nk_iload dX8_gather_145 rfl ?_
      refine nk_ialdN (j := 40 * r + i + k) dX8_gather_147 (mh_5 hi) (rfl) (by omega) (by decide) ?_
      refine nk_top (y := nI (sp_n (A 4 (40 * r + i + k)))) ((sp_n_self hK.1).symm) ?_
      refine nk_cVi kX8_137 (s_X8_hasKey hi (base := 0) (s := j) (k := (sp_n (A 4 (40 * r + i + k)))) (by omega) (by omega)) dX8_gather_148 mh_0 rfl rfl (by decide) (Nat.le_of_ble_eq_true rfl) ?_
      refine nk_ifne (tgt := 167) dX8_gather_151 (by decide) (fun h151 => ?_) (fun h151 => ?_)
      · skip
        simp only [nk_b0, Classical.not_not] at h151
        refine nk_iincT dX8_gather_167 rfl (nk_i1 (40 * r + i + k)) (by decide) ?_
        refine nk_goto (tgt := 124) dX8_gather_170 (by decide) ?_
        first
        | (have c : nk_mem (a_gt F j (A 4) (40 * r + i) k) 0 j (sp_n (A 4 (40 * r + i + k))) = true := h151
           exact (ih (k + 1) (by omega) (by omega)).to rfl rfl (by rw [a_gt, if_pos c]))
        | (have c : ¬ nk_mem (a_gt F j (A 4) (40 * r + i) k) 0 j (sp_n (A 4 (40 * r + i + k))) = true := h151
           exact (ih (k + 1) (by omega) (by omega)).to rfl rfl (by rw [a_gt, if_neg c, bx_uu]; rfl))
      · skip
        simp only [nk_b0, Classical.not_not] at h151
        refine nk_aload_n (i := 0) dX8_gather_154 rfl rfl ?_
        refine nk_iconst (v := 0) dX8_gather_155 (by decide) ?_
        refine nk_iload_n (i := 1) dX8_gather_156 rfl rfl ?_
        refine nk_aload_n (i := 0) dX8_gather_157 rfl rfl ?_
        refine nk_getf fX8_23 dX8_gather_158 mh_0 rfl ?_
        refine nk_iload dX8_gather_161 rfl ?_
        refine nk_ialdN (j := 40 * r + i + k) dX8_gather_163 (mh_5 hi) (rfl) (by omega) (by decide) ?_
        refine nk_top (y := nI (sp_n (A 4 (40 * r + i + k)))) ((sp_n_self hK.1).symm) ?_
        refine nk_cVv kX8_164 (s_X8_turnKey hi (base := 0) (s := j) (k := (sp_n (A 4 (40 * r + i + k)))) (by omega) (by omega)) dX8_gather_164 mh_0 rfl rfl (by decide) (Nat.le_of_ble_eq_true rfl) ?_
        refine nk_iincT dX8_gather_167 rfl (nk_i1 (40 * r + i + k)) (by decide) ?_
        refine nk_goto (tgt := 124) dX8_gather_170 (by decide) ?_
        first
        | (have c : nk_mem (a_gt F j (A 4) (40 * r + i) k) 0 j (sp_n (A 4 (40 * r + i + k))) = true := h151
           exact (ih (k + 1) (by omega) (by omega)).to rfl rfl (by rw [a_gt, if_pos c]))
        | (have c : ¬ nk_mem (a_gt F j (A 4) (40 * r + i) k) 0 j (sp_n (A 4 (40 * r + i + k))) = true := h151
           exact (ih (k + 1) (by omega) (by omega)).to rfl rfl (by rw [a_gt, if_neg c, bx_uu]; rfl))
set_option maxHeartbeats 4000000 in
set_option maxRecDepth 20000 in
theorem s_X8_gather {G : nk_EG} {ad : Nat → Nat} {A : Nat → Nat → Int32} {I : Nat → Int32} (hi : mInj ad) {m b : Nat} (hm : mSh (A 0) 0 m b) {u : Nat} (hu : I 0 = nI u) (hu24 : u ≤ 24) (hR : mRw A) {x1 x2 x3 x4 : Int32} : nk_Si G mX8_gather 4 [.ref (ad 0), .int x1, .int x2, .int x3, .int x4] (mh ad A I) (sp_val (f_gather A m b x1 x2 x3 x4) (nI (fb_ct (nk_mem (a_gth A u (sp_n x1) (sp_n x2) (sp_n x3) (sp_n x4)) 0 (sp_n x1)) 1024))) (mh ad (sp_A (f_gather A m b x1 x2 x3 x4) A (va_up A 0 (a_gth A u (sp_n x1) (sp_n x2) (sp_n x3) (sp_n x4)))) (i_gth (f_gather A m b x1 x2 x3 x4) I u)) := by
  have h4 := hm.2.2.1
  have h10 := hm.2.2.2
  have ht := nk_tp_le h10
  refine nk_S.of (by decide +kernel) (Nat.le_of_ble_eq_true rfl) rfl ?_
  refine nk_aload_n (i := 0) dX8_gather_0 rfl rfl ?_
  refine nk_iload_n (i := 1) dX8_gather_1 rfl rfl ?_
  refine nk_cVi kX8_154 (s_X8_isSet hi hm.1 hm.2.2.1) dX8_gather_2 mh_0 rfl rfl (by decide) (Nat.le_of_ble_eq_true rfl) ?_
  refine nk_ifeq (tgt := 28) dX8_gather_5 (by decide) (fun h5 => ?_) (fun h5 => ?_)
  · skip
    try simp only [nk_b0, Int32.toInt_toInt64, Classical.not_not, nk_l0, nk_l1, nk_l2, nk_l3, nk_l5, nk_l9, nk_l9m, nk_l40, nk_l255] at h5
    refine nk_ldc qX8_49 dX8_gather_28 ?_
    refine nk_ireturn dX8_gather_30 rfl ?_
    first
    | (have hf : f_gather A m b x1 x2 x3 x4 = (-1) := by unfold f_gather; rw [if_neg h5]
       exact ⟨by rw [hf, sp_val_b], by rw [hf, i_gth_b, sp_A_b]⟩)
    | (have hf : f_gather A m b x1 x2 x3 x4 = (-1) := by unfold f_gather; rw [if_pos h5, if_neg h12]
       exact ⟨by rw [hf, sp_val_b], by rw [hf, i_gth_b, sp_A_b]⟩)
    | (have hf : f_gather A m b x1 x2 x3 x4 = (-1) := by unfold f_gather; rw [if_pos h5, if_pos h12, if_neg h25]
       exact ⟨by rw [hf, sp_val_b], by rw [hf, i_gth_b, sp_A_b]⟩)
    | (have hf : f_gather A m b x1 x2 x3 x4 = 1 := by unfold f_gather; rw [if_pos h5, if_pos h12, if_pos h25, nr, if_neg h37]
       exact ⟨by rw [hf, sp_val_1], by rw [hf, i_gth_1, sp_A_1]⟩)
    | (have hf : f_gather A m b x1 x2 x3 x4 = 2 := by unfold f_gather; rw [if_pos h5, if_pos h12, if_pos h25, nr, if_pos h37, if_neg h54]
       exact ⟨by rw [hf, sp_val_2], by rw [hf, i_gth_2, sp_A_2]⟩)
  · skip
    try simp only [nk_b0, Int32.toInt_toInt64, Classical.not_not, nk_l0, nk_l1, nk_l2, nk_l3, nk_l5, nk_l9, nk_l9m, nk_l40, nk_l255] at h5
    refine nk_iload_n (i := 2) dX8_gather_8 rfl rfl ?_
    refine nk_cSi kX8_43 (s_X8_isRow) dX8_gather_9 rfl rfl (by decide) (Nat.le_of_ble_eq_true rfl) ?_
    refine nk_ifeq (tgt := 28) dX8_gather_12 (by decide) (fun h12 => ?_) (fun h12 => ?_)
    · skip
      try simp only [nk_b0, Int32.toInt_toInt64, Classical.not_not, nk_l0, nk_l1, nk_l2, nk_l3, nk_l5, nk_l9, nk_l9m, nk_l40, nk_l255] at h12
      refine nk_ldc qX8_49 dX8_gather_28 ?_
      refine nk_ireturn dX8_gather_30 rfl ?_
      first
      | (have hf : f_gather A m b x1 x2 x3 x4 = (-1) := by unfold f_gather; rw [if_neg h5]
         exact ⟨by rw [hf, sp_val_b], by rw [hf, i_gth_b, sp_A_b]⟩)
      | (have hf : f_gather A m b x1 x2 x3 x4 = (-1) := by unfold f_gather; rw [if_pos h5, if_neg h12]
         exact ⟨by rw [hf, sp_val_b], by rw [hf, i_gth_b, sp_A_b]⟩)
      | (have hf : f_gather A m b x1 x2 x3 x4 = (-1) := by unfold f_gather; rw [if_pos h5, if_pos h12, if_neg h25]
         exact ⟨by rw [hf, sp_val_b], by rw [hf, i_gth_b, sp_A_b]⟩)
      | (have hf : f_gather A m b x1 x2 x3 x4 = 1 := by unfold f_gather; rw [if_pos h5, if_pos h12, if_pos h25, nr, if_neg h37]
         exact ⟨by rw [hf, sp_val_1], by rw [hf, i_gth_1, sp_A_1]⟩)
      | (have hf : f_gather A m b x1 x2 x3 x4 = 2 := by unfold f_gather; rw [if_pos h5, if_pos h12, if_pos h25, nr, if_pos h37, if_neg h54]
         exact ⟨by rw [hf, sp_val_2], by rw [hf, i_gth_2, sp_A_2]⟩)
    · skip
      try simp only [nk_b0, Int32.toInt_toInt64, Classical.not_not, nk_l0, nk_l1, nk_l2, nk_l3, nk_l5, nk_l9, nk_l9m, nk_l40, nk_l255] at h12
      refine nk_iload dX8_gather_15 rfl ?_
      refine nk_i2l dX8_gather_17 ?_
      refine nk_lconst (v := 1) dX8_gather_18 rfl ?_
      refine nk_ldc2 qX8_181 dX8_gather_19 ?_
      refine nk_cSi kX8_39 (s_X8_in) dX8_gather_22 rfl rfl (by decide) (Nat.le_of_ble_eq_true rfl) ?_
      refine nk_ifne (tgt := 31) dX8_gather_25 (by decide) (fun h25 => ?_) (fun h25 => ?_)
      · skip
        try simp only [nk_b0, Int32.toInt_toInt64, Classical.not_not, nk_l0, nk_l1, nk_l2, nk_l3, nk_l5, nk_l9, nk_l9m, nk_l40, nk_l255] at h25
        obtain ⟨r, hr, hre⟩ := nk_getR (n := 7) h12
        have nr : sp_n x2 = r := by rw [hre, sp_n_nI (by omega)]
        have hRr := hR r (by omega)
        refine nk_aload_n (i := 0) dX8_gather_31 rfl rfl ?_
        refine nk_getf fX8_20 dX8_gather_32 mh_0 rfl ?_
        refine nk_iload_n (i := 2) dX8_gather_35 rfl rfl ?_
        refine nk_ialdN (j := r) dX8_gather_36 (mh_4 hi) (hre) (by omega) (by decide) ?_
        refine nk_ifge (tgt := 46) dX8_gather_37 (by decide) (fun h37 => ?_) (fun h37 => ?_)
        · skip
          refine nk_aload_n (i := 0) dX8_gather_46 rfl rfl ?_
          refine nk_iload_n (i := 2) dX8_gather_47 rfl rfl ?_
          refine nk_iload_n (i := 3) dX8_gather_48 rfl rfl ?_
          refine nk_iload dX8_gather_49 rfl ?_
          refine nk_cVi kX8_61 (hre ▸ s_X8_isSpan hi (j := r) (by omega)) dX8_gather_51 mh_0 rfl rfl (by decide) (Nat.le_of_ble_eq_true rfl) ?_
          refine nk_ifne (tgt := 63) dX8_gather_54 (by decide) (fun h54 => ?_) (fun h54 => ?_)
          · skip
            try simp only [nk_b0, Int32.toInt_toInt64, Classical.not_not, nk_l0, nk_l1, nk_l2, nk_l3, nk_l5, nk_l9, nk_l9m, nk_l40, nk_l255] at h54
            obtain ⟨j, hj, hje⟩ := nk_getN h5
            have nj : sp_n x1 = j := by rw [hje, sp_n_nI (by omega)]
            obtain ⟨i, hi1, hie⟩ := nI_of (Int32.not_lt.mpr h54.1)
            obtain ⟨N, hN1, hNe⟩ := nI_of (Int32.not_lt.mpr h54.2.1)
            have ni : sp_n x3 = i := by rw [hie, sp_n_nI hi1]
            have nN : sp_n x4 = N := by rw [hNe, sp_n_nI hN1]
            have t1 : x3.toInt = i := by rw [hie, nI_toInt hi1]
            have t2 : x4.toInt = N := by rw [hNe, nI_toInt hN1]
            have s1 := h54.2.2
            have hf0 : sp_ak (A 4) b (40 * r + i) N = true → f_gather A m b x1 x2 x3 x4 = 0 := fun hak => by unfold f_gather; rw [if_pos h5, if_pos h12, if_pos h25, nr, if_pos h37, if_pos h54, ni, nN, if_pos hak]
            have hf2 : ¬ sp_ak (A 4) b (40 * r + i) N = true → f_gather A m b x1 x2 x3 x4 = 2 := fun hak => by unfold f_gather; rw [if_pos h5, if_pos h12, if_pos h25, nr, if_pos h37, if_pos h54, ni, nN, if_neg hak]
            rw [nj, nr, ni, nN]
            rw [hje, hre, hie, hNe] at hf0 hf2 ⊢
            refine nk_bipush (v := 40) dX8_gather_63 (by decide) ?_
            refine nk_iload_n (i := 2) dX8_gather_65 rfl rfl ?_
            refine nk_imul dX8_gather_66 ?_
            refine nk_iload_n (i := 3) dX8_gather_67 rfl rfl ?_
            refine nk_iadd dX8_gather_68 ?_
            refine nk_top (y := nI (40 * r + i + 0)) (nk_i40 r i) ?_
            refine nk_istoreT dX8_gather_69 (by decide) ?_
            refine l_X8_gather1 hi hm (by omega) (by omega) (fun hak l5 => ?_) (fun hak => ?_) (N + 1) 0 (by omega) (by omega) (fun q hq => by omega)
            · rw [hf0 hak, sp_val_0, i_gth_0, sp_A_0]
              refine nk_aload_n (i := 0) dX8_gather_112 rfl rfl ?_
              refine nk_cVv kX8_161 (s_X8_keepPast hi hu hu24) dX8_gather_113 mh_0 rfl rfl (by decide) (Nat.le_of_ble_eq_true rfl) ?_
              refine nk_bipush (v := 40) dX8_gather_116 (by decide) ?_
              refine nk_iload_n (i := 2) dX8_gather_118 rfl rfl ?_
              refine nk_imul dX8_gather_119 ?_
              refine nk_iload_n (i := 3) dX8_gather_120 rfl rfl ?_
              refine nk_iadd dX8_gather_121 ?_
              refine nk_top (y := nI (40 * r + i + 0)) (nk_i40 r i) ?_
              refine nk_istoreT dX8_gather_122 (by decide) ?_
              refine l_X8_gather2 (A := va_up A 0 (a_kp (A 0) u)) (F := a_kp (A 0) u) hi (by omega) (by omega) (by omega) hm.2.2.2 hak (fun l5 => ?_) (N + 1) 0 (by omega) (by omega) |>.to rfl rfl (by rw [bx_uu]; rfl)
              refine nk_aload_n (i := 0) dX8_gather_173 rfl rfl ?_
              refine nk_aload_n (i := 0) dX8_gather_174 rfl rfl ?_
              refine nk_iconst (v := 0) dX8_gather_175 (by decide) ?_
              refine nk_iload_n (i := 1) dX8_gather_176 rfl rfl ?_
              refine nk_cVi kX8_168 (s_X8_keysOf hi (base := 0) (s := j) (by omega)) dX8_gather_177 mh_0 rfl rfl (by decide) (Nat.le_of_ble_eq_true rfl) ?_
              refine nk_cVi kX8_54 (s_X8_well hi) dX8_gather_180 mh_0 rfl rfl (by decide) (Nat.le_of_ble_eq_true rfl) ?_
              refine nk_ireturn dX8_gather_183 rfl ?_
              exact ⟨rfl, by rw [bx_uu]; rfl⟩
            · rw [hf2 hak, sp_val_2, i_gth_2, sp_A_2]
              exact ⟨rfl, rfl⟩
          · skip
            try simp only [nk_b0, Int32.toInt_toInt64, Classical.not_not, nk_l0, nk_l1, nk_l2, nk_l3, nk_l5, nk_l9, nk_l9m, nk_l40, nk_l255] at h54
            refine nk_aload_n (i := 0) dX8_gather_57 rfl rfl ?_
            refine nk_iconst (v := 2) dX8_gather_58 (by decide) ?_
            refine nk_cVi kX8_50 (s_X8_find hi) dX8_gather_59 mh_0 rfl rfl (by decide) (Nat.le_of_ble_eq_true rfl) ?_
            refine nk_ireturn dX8_gather_62 rfl ?_
            first
            | (have hf : f_gather A m b x1 x2 x3 x4 = (-1) := by unfold f_gather; rw [if_neg h5]
               exact ⟨by rw [hf, sp_val_b], by rw [hf, i_gth_b, sp_A_b]⟩)
            | (have hf : f_gather A m b x1 x2 x3 x4 = (-1) := by unfold f_gather; rw [if_pos h5, if_neg h12]
               exact ⟨by rw [hf, sp_val_b], by rw [hf, i_gth_b, sp_A_b]⟩)
            | (have hf : f_gather A m b x1 x2 x3 x4 = (-1) := by unfold f_gather; rw [if_pos h5, if_pos h12, if_neg h25]
               exact ⟨by rw [hf, sp_val_b], by rw [hf, i_gth_b, sp_A_b]⟩)
            | (have hf : f_gather A m b x1 x2 x3 x4 = 1 := by unfold f_gather; rw [if_pos h5, if_pos h12, if_pos h25, nr, if_neg h37]
               exact ⟨by rw [hf, sp_val_1], by rw [hf, i_gth_1, sp_A_1]⟩)
            | (have hf : f_gather A m b x1 x2 x3 x4 = 2 := by unfold f_gather; rw [if_pos h5, if_pos h12, if_pos h25, nr, if_pos h37, if_neg h54]
               exact ⟨by rw [hf, sp_val_2], by rw [hf, i_gth_2, sp_A_2]⟩)
        · skip
          refine nk_aload_n (i := 0) dX8_gather_40 rfl rfl ?_
          refine nk_iconst (v := 1) dX8_gather_41 (by decide) ?_
          refine nk_cVi kX8_50 (s_X8_find hi) dX8_gather_42 mh_0 rfl rfl (by decide) (Nat.le_of_ble_eq_true rfl) ?_
          refine nk_ireturn dX8_gather_45 rfl ?_
          first
          | (have hf : f_gather A m b x1 x2 x3 x4 = (-1) := by unfold f_gather; rw [if_neg h5]
             exact ⟨by rw [hf, sp_val_b], by rw [hf, i_gth_b, sp_A_b]⟩)
          | (have hf : f_gather A m b x1 x2 x3 x4 = (-1) := by unfold f_gather; rw [if_pos h5, if_neg h12]
             exact ⟨by rw [hf, sp_val_b], by rw [hf, i_gth_b, sp_A_b]⟩)
          | (have hf : f_gather A m b x1 x2 x3 x4 = (-1) := by unfold f_gather; rw [if_pos h5, if_pos h12, if_neg h25]
             exact ⟨by rw [hf, sp_val_b], by rw [hf, i_gth_b, sp_A_b]⟩)
          | (have hf : f_gather A m b x1 x2 x3 x4 = 1 := by unfold f_gather; rw [if_pos h5, if_pos h12, if_pos h25, nr, if_neg h37]
             exact ⟨by rw [hf, sp_val_1], by rw [hf, i_gth_1, sp_A_1]⟩)
          | (have hf : f_gather A m b x1 x2 x3 x4 = 2 := by unfold f_gather; rw [if_pos h5, if_pos h12, if_pos h25, nr, if_pos h37, if_neg h54]
             exact ⟨by rw [hf, sp_val_2], by rw [hf, i_gth_2, sp_A_2]⟩)
      · skip
        try simp only [nk_b0, Int32.toInt_toInt64, Classical.not_not, nk_l0, nk_l1, nk_l2, nk_l3, nk_l5, nk_l9, nk_l9m, nk_l40, nk_l255] at h25
        refine nk_ldc qX8_49 dX8_gather_28 ?_
        refine nk_ireturn dX8_gather_30 rfl ?_
        first
        | (have hf : f_gather A m b x1 x2 x3 x4 = (-1) := by unfold f_gather; rw [if_neg h5]
           exact ⟨by rw [hf, sp_val_b], by rw [hf, i_gth_b, sp_A_b]⟩)
        | (have hf : f_gather A m b x1 x2 x3 x4 = (-1) := by unfold f_gather; rw [if_pos h5, if_neg h12]
           exact ⟨by rw [hf, sp_val_b], by rw [hf, i_gth_b, sp_A_b]⟩)
        | (have hf : f_gather A m b x1 x2 x3 x4 = (-1) := by unfold f_gather; rw [if_pos h5, if_pos h12, if_neg h25]
           exact ⟨by rw [hf, sp_val_b], by rw [hf, i_gth_b, sp_A_b]⟩)
        | (have hf : f_gather A m b x1 x2 x3 x4 = 1 := by unfold f_gather; rw [if_pos h5, if_pos h12, if_pos h25, nr, if_neg h37]
           exact ⟨by rw [hf, sp_val_1], by rw [hf, i_gth_1, sp_A_1]⟩)
        | (have hf : f_gather A m b x1 x2 x3 x4 = 2 := by unfold f_gather; rw [if_pos h5, if_pos h12, if_pos h25, nr, if_pos h37, if_neg h54]
           exact ⟨by rw [hf, sp_val_2], by rw [hf, i_gth_2, sp_A_2]⟩)
set_option maxRecDepth 20000 in
theorem l_X8_tell {G : nk_EG} {ad : Nat → Nat} {A : Nat → Nat → Int32} {I : Nat → Int32} (hi : mInj ad) {m b : Nat} (hm : mSh (A 0) 0 m b) {j r i z : Nat} {x : Int32} {T : (Nat → Int32) × Nat} {Φ : Option Value → nk_AH → Prop} (hj : j < 4) (hr : r < 8) (hz : A 3 r = nI z) (hz40 : z ≤ 40) (hi2 : i ≤ z) (kk : ∀ l6 : Option Value, nk_J G mX8_tell 4 Φ 0 0 152 [some (.ref (ad 0)), some (.int (nI j)), some (.int x), some (.int (nI r)), some (.int (nI i)), some (.int (nI T.2)), l6] [] (mh ad (va_up A 4 T.1) I)) : ∀ (n : Nat) (k : Nat) (o : Option Nat) (F : Nat → Int32) (h1 : i + k ≤ z) (h2 : z < i + k + n) (h3 : ∀ q, o = some q → q < nk_tp b) (hT : sp_tl (nk_mem (A 0) 0 j) (nk_tp b) (A 2 r) z i (40 * r + i) n k o F = T), nk_J G mX8_tell 4 (Φ) 0 0 90 [some (.ref (ad 0)), some (.int (nI j)), some (.int x), some (.int (nI r)), some (.int (nI i)), some (.int (nI k)), some (.int (nk_rN o))] [] (mh ad (va_up A 4 F) I) := by
  intro n
  induction n with
  | zero => intro k o F h1 h2 h3 hT; omega
  | succ n ih =>
    intro k o F h1 h2 h3 hT
    have h4 := hm.2.2.1
    have h10 := hm.2.2.2
    have ht := nk_tp_le h10
    refine nk_iload dX8_tell_90 rfl ?_
    refine nk_ldc qX8_140 dX8_tell_92 ?_
    refine nk_icmpeq (tgt := 152) dX8_tell_94 (by decide) (fun h94 => ?_) (fun h94 => ?_)
    · skip
      rw [nk_rN_none (fun q hq => by have := h3 q hq; omega)] at h94
      first
      | (subst h94
         rw [sp_tl_none] at hT
         subst hT
         exact kk _)
      | (have hk := nk_leI (a := z) h108 (by omega) (by omega)
         rw [sp_tl_full (by omega)] at hT
         subst hT
         exact kk _)
    · skip
      rw [nk_rN_none (fun q hq => by have := h3 q hq; omega)] at h94
      obtain ⟨q, hq⟩ := Option.ne_none_iff_exists'.mp h94
      subst hq
      have hq := h3 q rfl
      refine nk_iload dX8_tell_97 rfl ?_
      refine nk_iload dX8_tell_99 rfl ?_
      refine nk_iadd dX8_tell_101 ?_
      refine nk_aload_n (i := 0) dX8_tell_102 rfl rfl ?_
      refine nk_getf fX8_20 dX8_tell_103 mh_0 rfl ?_
      refine nk_iload_n (i := 3) dX8_tell_106 rfl rfl ?_
      refine nk_ialdN (j := r) dX8_tell_107 (mh_4 hi) (rfl) (by omega) (by decide) ?_
      rw [show va_up A 4 F 3 r = nI z from hz]
      refine nk_icmpge (tgt := 152) dX8_tell_108 (by decide) (fun h108 => ?_) (fun h108 => ?_)
      · skip
        rw [nI_add] at h108
        first
        | (subst h94
           rw [sp_tl_none] at hT
           subst hT
           exact kk _)
        | (have hk := nk_leI (a := z) h108 (by omega) (by omega)
           rw [sp_tl_full (by omega)] at hT
           subst hT
           exact kk _)
      · skip
        rw [nI_add] at h108
        have hk := nk_nleI (a := z) h108 (by omega) (by omega)
        rw [sp_tl, if_pos hk] at hT
        refine nk_aload_n (i := 0) dX8_tell_111 rfl rfl ?_
        refine nk_getf fX8_23 dX8_tell_112 mh_0 rfl ?_
        refine nk_bipush (v := 40) dX8_tell_115 (by decide) ?_
        refine nk_iload_n (i := 3) dX8_tell_117 rfl rfl ?_
        refine nk_imul dX8_tell_118 ?_
        refine nk_iload dX8_tell_119 rfl ?_
        refine nk_iadd dX8_tell_121 ?_
        refine nk_iload dX8_tell_122 rfl ?_
        refine nk_iadd dX8_tell_124 ?_
        refine nk_iload dX8_tell_125 rfl ?_
        refine nk_aload_n (i := 0) dX8_tell_127 rfl rfl ?_
        refine nk_getf fX8_17 dX8_tell_128 mh_0 rfl ?_
        refine nk_iload_n (i := 3) dX8_tell_131 rfl rfl ?_
        refine nk_ialdN (j := r) dX8_tell_132 (mh_3 hi) (rfl) (by omega) (by decide) ?_
        refine nk_cSi kX8_57 (s_X8_narrow) dX8_tell_133 rfl rfl (by decide) (Nat.le_of_ble_eq_true rfl) ?_
        refine nk_iastN (j := 40 * r + i + k) dX8_tell_136 (mh_5 hi) (by rw [nk_i40, nI_add]) (by omega) (by decide) ?_
        refine nk_J.to ?_ rfl rfl (mu_A4 hi)
        refine nk_iincT dX8_tell_137 rfl (nk_i1 k) (by decide) ?_
        refine nk_aload_n (i := 0) dX8_tell_140 rfl rfl ?_
        refine nk_iload_n (i := 1) dX8_tell_141 rfl rfl ?_
        refine nk_iload dX8_tell_142 rfl ?_
        refine nk_top (y := nI q) (rfl) ?_
        refine nk_cVi kX8_141 (s_X8_above hi (A := va_up (va_up A 4 F) 4 (upd ((va_up A 4 F) 4) (40 * r + i + k) (pf_nar (nI q) (A 2 r)))) hm hj (a := q + 1) (nI_1 q) (by omega)) dX8_tell_144 mh_0 rfl rfl (by decide) (Nat.le_of_ble_eq_true rfl) ?_
        refine nk_istoreT dX8_tell_147 (by decide) ?_
        refine nk_goto (tgt := 90) dX8_tell_149 (by decide) ?_
        exact (ih (k + 1) _ _ (by omega) (by omega) (fun q2 hq2 => by have := (nk_up_lt hq2).2.1; omega) hT).to rfl rfl (by rw [bx_uu]; rfl)
set_option maxHeartbeats 4000000 in
set_option maxRecDepth 20000 in
theorem s_X8_tell {G : nk_EG} {ad : Nat → Nat} {A : Nat → Nat → Int32} {I : Nat → Int32} (hi : mInj ad) {m b : Nat} (hm : mSh (A 0) 0 m b) (hR : mRw A) {x1 x2 x3 x4 : Int32} : nk_Si G mX8_tell 4 [.ref (ad 0), .int x1, .int x2, .int x3, .int x4] (mh ad A I) (sp_val (f_tell A m b x1 x2 x3 x4) (nI (sp_tl0 A b (sp_n x1) (sp_n x2) (sp_n x3) (sp_n x4) (nk_mem (A 0) 0 (sp_n x1))).2)) (mh ad (sp_A (f_tell A m b x1 x2 x3 x4) A (va_up A 4 (sp_tl0 A b (sp_n x1) (sp_n x2) (sp_n x3) (sp_n x4) (nk_mem (A 0) 0 (sp_n x1))).1)) (sp_I (f_tell A m b x1 x2 x3 x4) I)) := by
  have h4 := hm.2.2.1
  have h10 := hm.2.2.2
  have ht := nk_tp_le h10
  refine nk_S.of (by decide +kernel) (Nat.le_of_ble_eq_true rfl) rfl ?_
  refine nk_aload_n (i := 0) dX8_tell_0 rfl rfl ?_
  refine nk_iload_n (i := 1) dX8_tell_1 rfl rfl ?_
  refine nk_cVi kX8_154 (s_X8_isSet hi hm.1 hm.2.2.1) dX8_tell_2 mh_0 rfl rfl (by decide) (Nat.le_of_ble_eq_true rfl) ?_
  refine nk_ifeq (tgt := 24) dX8_tell_5 (by decide) (fun h5 => ?_) (fun h5 => ?_)
  · skip
    try simp only [nk_b0, Int32.toInt_toInt64, Classical.not_not, nk_l0, nk_l1, nk_l2, nk_l3, nk_l5, nk_l9, nk_l9m, nk_l40, nk_l255] at h5
    refine nk_ldc qX8_49 dX8_tell_24 ?_
    refine nk_ireturn dX8_tell_26 rfl ?_
    first
    | (have hf : f_tell A m b x1 x2 x3 x4 = (-1) := by unfold f_tell; rw [if_neg h5]
       exact ⟨by rw [hf, sp_val_b], by rw [hf, sp_I_b, sp_A_b]⟩)
    | (have hf : f_tell A m b x1 x2 x3 x4 = (-1) := by unfold f_tell; rw [if_pos h5, if_neg h14]
       exact ⟨by rw [hf, sp_val_b], by rw [hf, sp_I_b, sp_A_b]⟩)
    | (have hf : f_tell A m b x1 x2 x3 x4 = (-1) := by unfold f_tell; rw [if_pos h5, if_pos h14, if_neg h21]
       exact ⟨by rw [hf, sp_val_b], by rw [hf, sp_I_b, sp_A_b]⟩)
    | (have hf : f_tell A m b x1 x2 x3 x4 = 1 := by unfold f_tell; rw [if_pos h5, if_pos h14, if_pos h21, nr, if_neg h33]
       exact ⟨by rw [hf, sp_val_1], by rw [hf, sp_I_1, sp_A_1]⟩)
    | (have hf : f_tell A m b x1 x2 x3 x4 = 2 := by unfold f_tell; rw [if_pos h5, if_pos h14, if_pos h21, nr, if_pos h33, if_neg h56]
       exact ⟨by rw [hf, sp_val_2], by rw [hf, sp_I_2, sp_A_2]⟩)
  · skip
    try simp only [nk_b0, Int32.toInt_toInt64, Classical.not_not, nk_l0, nk_l1, nk_l2, nk_l3, nk_l5, nk_l9, nk_l9m, nk_l40, nk_l255] at h5
    refine nk_aload_n (i := 0) dX8_tell_8 rfl rfl ?_
    refine nk_iload_n (i := 2) dX8_tell_9 rfl rfl ?_
    refine nk_i2l dX8_tell_10 ?_
    refine nk_cVi kX8_157 (s_X8_isKey hi hm.2.1 hm.2.2.2) dX8_tell_11 mh_0 rfl rfl (by decide) (Nat.le_of_ble_eq_true rfl) ?_
    refine nk_ifeq (tgt := 24) dX8_tell_14 (by decide) (fun h14 => ?_) (fun h14 => ?_)
    · skip
      try simp only [nk_b0, Int32.toInt_toInt64, Classical.not_not, nk_l0, nk_l1, nk_l2, nk_l3, nk_l5, nk_l9, nk_l9m, nk_l40, nk_l255] at h14
      refine nk_ldc qX8_49 dX8_tell_24 ?_
      refine nk_ireturn dX8_tell_26 rfl ?_
      first
      | (have hf : f_tell A m b x1 x2 x3 x4 = (-1) := by unfold f_tell; rw [if_neg h5]
         exact ⟨by rw [hf, sp_val_b], by rw [hf, sp_I_b, sp_A_b]⟩)
      | (have hf : f_tell A m b x1 x2 x3 x4 = (-1) := by unfold f_tell; rw [if_pos h5, if_neg h14]
         exact ⟨by rw [hf, sp_val_b], by rw [hf, sp_I_b, sp_A_b]⟩)
      | (have hf : f_tell A m b x1 x2 x3 x4 = (-1) := by unfold f_tell; rw [if_pos h5, if_pos h14, if_neg h21]
         exact ⟨by rw [hf, sp_val_b], by rw [hf, sp_I_b, sp_A_b]⟩)
      | (have hf : f_tell A m b x1 x2 x3 x4 = 1 := by unfold f_tell; rw [if_pos h5, if_pos h14, if_pos h21, nr, if_neg h33]
         exact ⟨by rw [hf, sp_val_1], by rw [hf, sp_I_1, sp_A_1]⟩)
      | (have hf : f_tell A m b x1 x2 x3 x4 = 2 := by unfold f_tell; rw [if_pos h5, if_pos h14, if_pos h21, nr, if_pos h33, if_neg h56]
         exact ⟨by rw [hf, sp_val_2], by rw [hf, sp_I_2, sp_A_2]⟩)
    · skip
      try simp only [nk_b0, Int32.toInt_toInt64, Classical.not_not, nk_l0, nk_l1, nk_l2, nk_l3, nk_l5, nk_l9, nk_l9m, nk_l40, nk_l255] at h14
      refine nk_iload_n (i := 3) dX8_tell_17 rfl rfl ?_
      refine nk_cSi kX8_43 (s_X8_isRow) dX8_tell_18 rfl rfl (by decide) (Nat.le_of_ble_eq_true rfl) ?_
      refine nk_ifne (tgt := 27) dX8_tell_21 (by decide) (fun h21 => ?_) (fun h21 => ?_)
      · skip
        try simp only [nk_b0, Int32.toInt_toInt64, Classical.not_not, nk_l0, nk_l1, nk_l2, nk_l3, nk_l5, nk_l9, nk_l9m, nk_l40, nk_l255] at h21
        obtain ⟨r, hr, hre⟩ := nk_getR (n := 7) h21
        have nr : sp_n x3 = r := by rw [hre, sp_n_nI (by omega)]
        have hRr := hR r (by omega)
        refine nk_aload_n (i := 0) dX8_tell_27 rfl rfl ?_
        refine nk_getf fX8_20 dX8_tell_28 mh_0 rfl ?_
        refine nk_iload_n (i := 3) dX8_tell_31 rfl rfl ?_
        refine nk_ialdN (j := r) dX8_tell_32 (mh_4 hi) (hre) (by omega) (by decide) ?_
        refine nk_ifge (tgt := 42) dX8_tell_33 (by decide) (fun h33 => ?_) (fun h33 => ?_)
        · skip
          refine nk_iload dX8_tell_42 rfl ?_
          refine nk_i2l dX8_tell_44 ?_
          refine nk_lconst (v := 0) dX8_tell_45 rfl ?_
          refine nk_aload_n (i := 0) dX8_tell_46 rfl rfl ?_
          refine nk_getf fX8_20 dX8_tell_47 mh_0 rfl ?_
          refine nk_iload_n (i := 3) dX8_tell_50 rfl rfl ?_
          refine nk_ialdN (j := r) dX8_tell_51 (mh_4 hi) (hre) (by omega) (by decide) ?_
          refine nk_i2l dX8_tell_52 ?_
          refine nk_cSi kX8_39 (s_X8_in) dX8_tell_53 rfl rfl (by decide) (Nat.le_of_ble_eq_true rfl) ?_
          refine nk_ifne (tgt := 65) dX8_tell_56 (by decide) (fun h56 => ?_) (fun h56 => ?_)
          · skip
            try simp only [nk_b0, Int32.toInt_toInt64, Classical.not_not, nk_l0, nk_l1, nk_l2, nk_l3, nk_l5, nk_l9, nk_l9m, nk_l40, nk_l255] at h56
            obtain ⟨j, hj, hje⟩ := nk_getN h5
            have nj : sp_n x1 = j := by rw [hje, sp_n_nI (by omega)]
            obtain ⟨k, hk, hke⟩ := nk_getN h14
            have nk : sp_n x2 = k := by rw [hke, sp_n_nI (by omega)]
            obtain ⟨z, hz1, hz⟩ := nI_of (Int32.not_lt.mpr h33)
            have nz : sp_n (A 3 r) = z := by rw [hz, sp_n_nI hz1]
            have tz : (A 3 r).toInt = z := by rw [hz, nI_toInt hz1]
            obtain ⟨i, hi1, hie⟩ := nk_getR (x := x4) (n := z) ⟨h56.1, by rw [← tz]; exact h56.2⟩
            have ni : sp_n x4 = i := by rw [hie, sp_n_nI (by omega)]
            have hf : f_tell A m b x1 x2 x3 x4 = 0 := by unfold f_tell; rw [if_pos h5, if_pos h14, if_pos h21, nr, if_pos h33, if_pos h56]
            rw [hf, sp_val_0, sp_I_0, sp_A_0, nj, nk, nr, ni]
            rw [hje, hke, hre, hie]
            generalize hg : sp_tl0 A b j k r i (nk_mem (A 0) 0 j) = g
            unfold sp_tl0 at hg
            rw [nz] at hg
            refine nk_iconst (v := 0) dX8_tell_65 (by decide) ?_
            refine nk_istoreT dX8_tell_66 (by decide) ?_
            refine nk_aload_n (i := 0) dX8_tell_68 rfl rfl ?_
            refine nk_iconst (v := 0) dX8_tell_69 (by decide) ?_
            refine nk_iload_n (i := 1) dX8_tell_70 rfl rfl ?_
            refine nk_iload_n (i := 2) dX8_tell_71 rfl rfl ?_
            refine nk_cVi kX8_137 (s_X8_hasKey hi (base := 0) (s := j) (k := k) (by omega) (by omega)) dX8_tell_72 mh_0 rfl rfl (by decide) (Nat.le_of_ble_eq_true rfl) ?_
            refine nk_ifeq (tgt := 82) dX8_tell_75 (by decide) (fun h75 => ?_) (fun h75 => ?_)
            · skip
              simp only [nk_b0, Classical.not_not] at h75
              refine nk_aload_n (i := 0) dX8_tell_82 rfl rfl ?_
              refine nk_iload_n (i := 1) dX8_tell_83 rfl rfl ?_
              refine nk_iload_n (i := 2) dX8_tell_84 rfl rfl ?_
              refine nk_cVi kX8_141 (s_X8_above hi hm (by omega) (a := k + 1) (nI_1 k) (by omega)) dX8_tell_85 mh_0 rfl rfl (by decide) (Nat.le_of_ble_eq_true rfl) ?_
              refine nk_istoreT dX8_tell_88 (by decide) ?_
              first
              | (rw [if_pos h75] at hg
                 refine (l_X8_tell hi hm (by omega) (by omega) hz (by omega) hi1 (fun l6 => ?_) 41 0 (some k) (A 4) (by omega) (by omega) (fun q hq => by cases hq; exact hk) hg).to rfl rfl (by rw [va_up_same])
                 refine nk_aload_n (i := 0) dX8_tell_152 rfl rfl ?_
                 refine nk_iload dX8_tell_153 rfl ?_
                 refine nk_cVi kX8_54 (s_X8_well hi) dX8_tell_155 mh_0 rfl rfl (by decide) (Nat.le_of_ble_eq_true rfl) ?_
                 refine nk_ireturn dX8_tell_158 rfl ?_
                 exact ⟨rfl, rfl⟩)
              | (rw [if_neg h75] at hg
                 refine (l_X8_tell hi hm (by omega) (by omega) hz (by omega) hi1 (fun l6 => ?_) 41 0 (sp_abv (nk_mem (A 0) 0 j) (nk_tp b) k) (A 4) (by omega) (by omega) (fun q hq => by have := (nk_up_lt hq).2.1; omega) hg).to rfl rfl (by rw [va_up_same])
                 refine nk_aload_n (i := 0) dX8_tell_152 rfl rfl ?_
                 refine nk_iload dX8_tell_153 rfl ?_
                 refine nk_cVi kX8_54 (s_X8_well hi) dX8_tell_155 mh_0 rfl rfl (by decide) (Nat.le_of_ble_eq_true rfl) ?_
                 refine nk_ireturn dX8_tell_158 rfl ?_
                 exact ⟨rfl, rfl⟩)
            · skip
              simp only [nk_b0, Classical.not_not] at h75
              refine nk_iload_n (i := 2) dX8_tell_78 rfl rfl ?_
              refine nk_goto (tgt := 88) dX8_tell_79 (by decide) ?_
              refine nk_istoreT dX8_tell_88 (by decide) ?_
              first
              | (rw [if_pos h75] at hg
                 refine (l_X8_tell hi hm (by omega) (by omega) hz (by omega) hi1 (fun l6 => ?_) 41 0 (some k) (A 4) (by omega) (by omega) (fun q hq => by cases hq; exact hk) hg).to rfl rfl (by rw [va_up_same])
                 refine nk_aload_n (i := 0) dX8_tell_152 rfl rfl ?_
                 refine nk_iload dX8_tell_153 rfl ?_
                 refine nk_cVi kX8_54 (s_X8_well hi) dX8_tell_155 mh_0 rfl rfl (by decide) (Nat.le_of_ble_eq_true rfl) ?_
                 refine nk_ireturn dX8_tell_158 rfl ?_
                 exact ⟨rfl, rfl⟩)
              | (rw [if_neg h75] at hg
                 refine (l_X8_tell hi hm (by omega) (by omega) hz (by omega) hi1 (fun l6 => ?_) 41 0 (sp_abv (nk_mem (A 0) 0 j) (nk_tp b) k) (A 4) (by omega) (by omega) (fun q hq => by have := (nk_up_lt hq).2.1; omega) hg).to rfl rfl (by rw [va_up_same])
                 refine nk_aload_n (i := 0) dX8_tell_152 rfl rfl ?_
                 refine nk_iload dX8_tell_153 rfl ?_
                 refine nk_cVi kX8_54 (s_X8_well hi) dX8_tell_155 mh_0 rfl rfl (by decide) (Nat.le_of_ble_eq_true rfl) ?_
                 refine nk_ireturn dX8_tell_158 rfl ?_
                 exact ⟨rfl, rfl⟩)
          · skip
            try simp only [nk_b0, Int32.toInt_toInt64, Classical.not_not, nk_l0, nk_l1, nk_l2, nk_l3, nk_l5, nk_l9, nk_l9m, nk_l40, nk_l255] at h56
            refine nk_aload_n (i := 0) dX8_tell_59 rfl rfl ?_
            refine nk_iconst (v := 2) dX8_tell_60 (by decide) ?_
            refine nk_cVi kX8_50 (s_X8_find hi) dX8_tell_61 mh_0 rfl rfl (by decide) (Nat.le_of_ble_eq_true rfl) ?_
            refine nk_ireturn dX8_tell_64 rfl ?_
            first
            | (have hf : f_tell A m b x1 x2 x3 x4 = (-1) := by unfold f_tell; rw [if_neg h5]
               exact ⟨by rw [hf, sp_val_b], by rw [hf, sp_I_b, sp_A_b]⟩)
            | (have hf : f_tell A m b x1 x2 x3 x4 = (-1) := by unfold f_tell; rw [if_pos h5, if_neg h14]
               exact ⟨by rw [hf, sp_val_b], by rw [hf, sp_I_b, sp_A_b]⟩)
            | (have hf : f_tell A m b x1 x2 x3 x4 = (-1) := by unfold f_tell; rw [if_pos h5, if_pos h14, if_neg h21]
               exact ⟨by rw [hf, sp_val_b], by rw [hf, sp_I_b, sp_A_b]⟩)
            | (have hf : f_tell A m b x1 x2 x3 x4 = 1 := by unfold f_tell; rw [if_pos h5, if_pos h14, if_pos h21, nr, if_neg h33]
               exact ⟨by rw [hf, sp_val_1], by rw [hf, sp_I_1, sp_A_1]⟩)
            | (have hf : f_tell A m b x1 x2 x3 x4 = 2 := by unfold f_tell; rw [if_pos h5, if_pos h14, if_pos h21, nr, if_pos h33, if_neg h56]
               exact ⟨by rw [hf, sp_val_2], by rw [hf, sp_I_2, sp_A_2]⟩)
        · skip
          refine nk_aload_n (i := 0) dX8_tell_36 rfl rfl ?_
          refine nk_iconst (v := 1) dX8_tell_37 (by decide) ?_
          refine nk_cVi kX8_50 (s_X8_find hi) dX8_tell_38 mh_0 rfl rfl (by decide) (Nat.le_of_ble_eq_true rfl) ?_
          refine nk_ireturn dX8_tell_41 rfl ?_
          first
          | (have hf : f_tell A m b x1 x2 x3 x4 = (-1) := by unfold f_tell; rw [if_neg h5]
             exact ⟨by rw [hf, sp_val_b], by rw [hf, sp_I_b, sp_A_b]⟩)
          | (have hf : f_tell A m b x1 x2 x3 x4 = (-1) := by unfold f_tell; rw [if_pos h5, if_neg h14]
             exact ⟨by rw [hf, sp_val_b], by rw [hf, sp_I_b, sp_A_b]⟩)
          | (have hf : f_tell A m b x1 x2 x3 x4 = (-1) := by unfold f_tell; rw [if_pos h5, if_pos h14, if_neg h21]
             exact ⟨by rw [hf, sp_val_b], by rw [hf, sp_I_b, sp_A_b]⟩)
          | (have hf : f_tell A m b x1 x2 x3 x4 = 1 := by unfold f_tell; rw [if_pos h5, if_pos h14, if_pos h21, nr, if_neg h33]
             exact ⟨by rw [hf, sp_val_1], by rw [hf, sp_I_1, sp_A_1]⟩)
          | (have hf : f_tell A m b x1 x2 x3 x4 = 2 := by unfold f_tell; rw [if_pos h5, if_pos h14, if_pos h21, nr, if_pos h33, if_neg h56]
             exact ⟨by rw [hf, sp_val_2], by rw [hf, sp_I_2, sp_A_2]⟩)
      · skip
        try simp only [nk_b0, Int32.toInt_toInt64, Classical.not_not, nk_l0, nk_l1, nk_l2, nk_l3, nk_l5, nk_l9, nk_l9m, nk_l40, nk_l255] at h21
        refine nk_ldc qX8_49 dX8_tell_24 ?_
        refine nk_ireturn dX8_tell_26 rfl ?_
        first
        | (have hf : f_tell A m b x1 x2 x3 x4 = (-1) := by unfold f_tell; rw [if_neg h5]
           exact ⟨by rw [hf, sp_val_b], by rw [hf, sp_I_b, sp_A_b]⟩)
        | (have hf : f_tell A m b x1 x2 x3 x4 = (-1) := by unfold f_tell; rw [if_pos h5, if_neg h14]
           exact ⟨by rw [hf, sp_val_b], by rw [hf, sp_I_b, sp_A_b]⟩)
        | (have hf : f_tell A m b x1 x2 x3 x4 = (-1) := by unfold f_tell; rw [if_pos h5, if_pos h14, if_neg h21]
           exact ⟨by rw [hf, sp_val_b], by rw [hf, sp_I_b, sp_A_b]⟩)
        | (have hf : f_tell A m b x1 x2 x3 x4 = 1 := by unfold f_tell; rw [if_pos h5, if_pos h14, if_pos h21, nr, if_neg h33]
           exact ⟨by rw [hf, sp_val_1], by rw [hf, sp_I_1, sp_A_1]⟩)
        | (have hf : f_tell A m b x1 x2 x3 x4 = 2 := by unfold f_tell; rw [if_pos h5, if_pos h14, if_pos h21, nr, if_pos h33, if_neg h56]
           exact ⟨by rw [hf, sp_val_2], by rw [hf, sp_I_2, sp_A_2]⟩)

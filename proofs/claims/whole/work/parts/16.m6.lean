/-! the reference: covers, gaps, words and their bits -/
set_option maxRecDepth 20000 in
theorem l_X8_cover {G : nk_EG} {ad : Nat → Nat} {A : Nat → Nat → Int32} {I : Nat → Int32} (hi : mInj ad) {m b : Nat} (hm : mSh (A 0) 0 m b) {a c : Nat} {x : Int32} {Φ : Option Value → nk_AH → Prop} (ha : a ≤ c) (hc : c < nk_tp b) (kk : nk_J G mX8_cover 4 Φ 0 0 97 [some (.ref (ad 0)), some (.int (nI a)), some (.int (nI c)), some (.int x), some (.int (nk_rN (sp_cv (fun x => sp_cov (nk_mem (A 0) 0) m (nI x) a (c + 1 - a)) (2 ^ m - 1)))), some (.int (nI (2 ^ m)))] [] (mh ad A I)) : ∀ (n : Nat) (i : Nat) (h1 : i + 1 ≤ 2 ^ m) (h2 : 2 ^ m < i + 1 + n), nk_J G mX8_cover 4 (Φ) 0 0 43 [some (.ref (ad 0)), some (.int (nI a)), some (.int (nI c)), some (.int x), some (.int (nk_rN (sp_cv (fun x => sp_cov (nk_mem (A 0) 0) m (nI x) a (c + 1 - a)) i))), some (.int (nI (i + 1)))] [] (mh ad A I) := by
  intro n
  induction n with
  | zero => intro i h1 h2; omega
  | succ n ih =>
    intro i h1 h2
    have h4 := hm.2.2.1
    have h10 := hm.2.2.2
    have ht := nk_tp_le h10
    have h16 := nk_2p h4
    refine nk_iload dX8_cover_43 rfl ?_
    refine nk_iconst (v := 1) dX8_cover_45 (by decide) ?_
    refine nk_aload_n (i := 0) dX8_cover_46 rfl rfl ?_
    refine nk_getf fX8_7 dX8_cover_47 mh_0 rfl ?_
    refine nk_iconst (v := 0) dX8_cover_50 (by decide) ?_
    refine nk_ialdN (j := 0) dX8_cover_51 (mh_1 hi) (rfl) (by omega) (by decide) ?_
    rw [hm.1]
    refine nk_ishl dX8_cover_52 ?_
    refine nk_top (y := nI (2 ^ m)) (nk_sh1 (by omega)) ?_
    refine nk_icmpge (tgt := 97) dX8_cover_53 (by decide) (fun h53 => ?_) (fun h53 => ?_)
    · skip
      have e2 := nk_leI (a := 2 ^ m) h53 (by omega) (by omega)
      have e3 : i + 1 = 2 ^ m := Nat.le_antisymm h1 e2
      rw [e3, show i = 2 ^ m - 1 by omega]
      exact kk
    · skip
      have hi2 := nk_nleI (a := 2 ^ m) h53 (by omega) (by omega)
      refine nk_aload_n (i := 0) dX8_cover_56 rfl rfl ?_
      refine nk_iload dX8_cover_57 rfl ?_
      refine nk_iload_n (i := 1) dX8_cover_59 rfl rfl ?_
      refine nk_iload_n (i := 2) dX8_cover_60 rfl rfl ?_
      refine nk_cVi kX8_283 (s_X8_isCovered hi hm ha hc) dX8_cover_61 mh_0 rfl rfl (by decide) (Nat.le_of_ble_eq_true rfl) ?_
      refine nk_ifeq (tgt := 91) dX8_cover_64 (by decide) (fun h64 => ?_) (fun h64 => ?_)
      · skip
        rw [nk_b0] at h64
        refine nk_iincT dX8_cover_91 rfl (nk_i1 (i + 1)) (by decide) ?_
        refine nk_goto (tgt := 43) dX8_cover_94 (by decide) ?_
        refine (ih (i + 1) (by omega) (by omega)).to ?_ rfl rfl
        first
        | (rw [sp_cv, if_neg (fun z => h64 z.1)]; rfl)
        | (rw [sp_cv, if_pos ⟨Classical.not_not.mp h64, fun q hq => by rw [h71] at hq; cases hq⟩]; rfl)
        | (rw [sp_cv, if_neg (fun z => absurd (z.2 v hv) (Nat.not_lt.mpr (nk_leI h84 (by omega) (by omega)))), hv]; rfl)
        | (rw [sp_cv, if_pos ⟨Classical.not_not.mp h64, fun q hq => by rw [hv] at hq; cases hq; exact nk_nleI h84 (by omega) (by omega)⟩]; rfl)
      · skip
        rw [nk_b0] at h64
        refine nk_iload dX8_cover_67 rfl ?_
        refine nk_ldc qX8_140 dX8_cover_69 ?_
        refine nk_icmpeq (tgt := 87) dX8_cover_71 (by decide) (fun h71 => ?_) (fun h71 => ?_)
        · skip
          rw [nk_rN_none (fun k hk => by have := sp_cv_lt hk; omega)] at h71
          refine nk_iload dX8_cover_87 rfl ?_
          refine nk_istoreT dX8_cover_89 (by decide) ?_
          refine nk_iincT dX8_cover_91 rfl (nk_i1 (i + 1)) (by decide) ?_
          refine nk_goto (tgt := 43) dX8_cover_94 (by decide) ?_
          refine (ih (i + 1) (by omega) (by omega)).to ?_ rfl rfl
          first
          | (rw [sp_cv, if_neg (fun z => h64 z.1)]; rfl)
          | (rw [sp_cv, if_pos ⟨Classical.not_not.mp h64, fun q hq => by rw [h71] at hq; cases hq⟩]; rfl)
          | (rw [sp_cv, if_neg (fun z => absurd (z.2 v hv) (Nat.not_lt.mpr (nk_leI h84 (by omega) (by omega)))), hv]; rfl)
          | (rw [sp_cv, if_pos ⟨Classical.not_not.mp h64, fun q hq => by rw [hv] at hq; cases hq; exact nk_nleI h84 (by omega) (by omega)⟩]; rfl)
        · skip
          rw [nk_rN_none (fun k hk => by have := sp_cv_lt hk; omega)] at h71
          obtain ⟨v, hv⟩ := Option.ne_none_iff_exists'.mp h71
          have hv2 := sp_cv_lt hv
          rw [hv]
          refine nk_iload dX8_cover_74 rfl ?_
          refine nk_cSi kX8_134 (s_X8_ones) dX8_cover_76 rfl rfl (by decide) (Nat.le_of_ble_eq_true rfl) ?_
          refine nk_iload dX8_cover_79 rfl ?_
          refine nk_top (y := nI v) (rfl) ?_
          refine nk_cSi kX8_134 (s_X8_ones) dX8_cover_81 rfl rfl (by decide) (Nat.le_of_ble_eq_true rfl) ?_
          have c1 := fb_ct_le (bt (nI (i + 1))) 32
          have c2 := fb_ct_le (bt (nI v)) 32
          refine nk_icmpge (tgt := 91) dX8_cover_84 (by decide) (fun h84 => ?_) (fun h84 => ?_)
          · skip
            refine nk_iincT dX8_cover_91 rfl (nk_i1 (i + 1)) (by decide) ?_
            refine nk_goto (tgt := 43) dX8_cover_94 (by decide) ?_
            refine (ih (i + 1) (by omega) (by omega)).to ?_ rfl rfl
            first
            | (rw [sp_cv, if_neg (fun z => h64 z.1)]; rfl)
            | (rw [sp_cv, if_pos ⟨Classical.not_not.mp h64, fun q hq => by rw [h71] at hq; cases hq⟩]; rfl)
            | (rw [sp_cv, if_neg (fun z => absurd (z.2 v hv) (Nat.not_lt.mpr (nk_leI h84 (by omega) (by omega)))), hv]; rfl)
            | (rw [sp_cv, if_pos ⟨Classical.not_not.mp h64, fun q hq => by rw [hv] at hq; cases hq; exact nk_nleI h84 (by omega) (by omega)⟩]; rfl)
          · skip
            refine nk_iload dX8_cover_87 rfl ?_
            refine nk_istoreT dX8_cover_89 (by decide) ?_
            refine nk_iincT dX8_cover_91 rfl (nk_i1 (i + 1)) (by decide) ?_
            refine nk_goto (tgt := 43) dX8_cover_94 (by decide) ?_
            refine (ih (i + 1) (by omega) (by omega)).to ?_ rfl rfl
            first
            | (rw [sp_cv, if_neg (fun z => h64 z.1)]; rfl)
            | (rw [sp_cv, if_pos ⟨Classical.not_not.mp h64, fun q hq => by rw [h71] at hq; cases hq⟩]; rfl)
            | (rw [sp_cv, if_neg (fun z => absurd (z.2 v hv) (Nat.not_lt.mpr (nk_leI h84 (by omega) (by omega)))), hv]; rfl)
            | (rw [sp_cv, if_pos ⟨Classical.not_not.mp h64, fun q hq => by rw [hv] at hq; cases hq; exact nk_nleI h84 (by omega) (by omega)⟩]; rfl)
set_option maxRecDepth 20000 in
theorem s_X8_cover {G : nk_EG} {ad : Nat → Nat} {A : Nat → Nat → Int32} {I : Nat → Int32} (hi : mInj ad) {m b : Nat} (hm : mSh (A 0) 0 m b) {a c x : Int32} : nk_Si G mX8_cover 4 [.ref (ad 0), .int a, .int c, .int x] (mh ad A I) (sp_cover m b (nk_mem (A 0) 0) a c x) (mh ad A I) := by
  have h4 := hm.2.2.1
  have h10 := hm.2.2.2
  have ht := nk_tp_le h10
  have h16 := nk_2p h4
  have h1m : 1 ≤ 2 ^ m := Nat.one_le_two_pow
  refine nk_S.of (by decide +kernel) (Nat.le_of_ble_eq_true rfl) rfl ?_
  refine nk_aload_n (i := 0) dX8_cover_0 rfl rfl ?_
  refine nk_iload_n (i := 1) dX8_cover_1 rfl rfl ?_
  refine nk_i2l dX8_cover_2 ?_
  refine nk_cVi kX8_157 (s_X8_isKey hi hm.2.1 hm.2.2.2) dX8_cover_3 mh_0 rfl rfl (by decide) (Nat.le_of_ble_eq_true rfl) ?_
  refine nk_ifeq (tgt := 33) dX8_cover_6 (by decide) (fun h6 => ?_) (fun h6 => ?_)
  · skip
    try simp only [nk_b0, Int32.toInt_toInt64, Classical.not_not, nk_l0, nk_l1, nk_l2, nk_l60] at h6
    refine nk_ldc qX8_49 dX8_cover_33 ?_
    refine nk_ireturn dX8_cover_35 rfl ?_
    first
    | exact ⟨by unfold sp_cover; rw [if_neg h6], rfl⟩
    | exact ⟨by unfold sp_cover; rw [if_pos h6, if_neg h15], rfl⟩
    | exact ⟨by unfold sp_cover; rw [if_pos h6, if_pos h15, if_neg (Int32.not_le.mpr h20)], rfl⟩
    | exact ⟨by unfold sp_cover; rw [if_pos h6, if_pos h15, if_pos (Int32.not_lt.mp h20), if_neg h30], rfl⟩
  · skip
    try simp only [nk_b0, Int32.toInt_toInt64, Classical.not_not, nk_l0, nk_l1, nk_l2, nk_l60] at h6
    refine nk_aload_n (i := 0) dX8_cover_9 rfl rfl ?_
    refine nk_iload_n (i := 2) dX8_cover_10 rfl rfl ?_
    refine nk_i2l dX8_cover_11 ?_
    refine nk_cVi kX8_157 (s_X8_isKey hi hm.2.1 hm.2.2.2) dX8_cover_12 mh_0 rfl rfl (by decide) (Nat.le_of_ble_eq_true rfl) ?_
    refine nk_ifeq (tgt := 33) dX8_cover_15 (by decide) (fun h15 => ?_) (fun h15 => ?_)
    · skip
      try simp only [nk_b0, Int32.toInt_toInt64, Classical.not_not, nk_l0, nk_l1, nk_l2, nk_l60] at h15
      refine nk_ldc qX8_49 dX8_cover_33 ?_
      refine nk_ireturn dX8_cover_35 rfl ?_
      first
      | exact ⟨by unfold sp_cover; rw [if_neg h6], rfl⟩
      | exact ⟨by unfold sp_cover; rw [if_pos h6, if_neg h15], rfl⟩
      | exact ⟨by unfold sp_cover; rw [if_pos h6, if_pos h15, if_neg (Int32.not_le.mpr h20)], rfl⟩
      | exact ⟨by unfold sp_cover; rw [if_pos h6, if_pos h15, if_pos (Int32.not_lt.mp h20), if_neg h30], rfl⟩
    · skip
      try simp only [nk_b0, Int32.toInt_toInt64, Classical.not_not, nk_l0, nk_l1, nk_l2, nk_l60] at h15
      refine nk_iload_n (i := 1) dX8_cover_18 rfl rfl ?_
      refine nk_iload_n (i := 2) dX8_cover_19 rfl rfl ?_
      refine nk_icmpgt (tgt := 33) dX8_cover_20 (by decide) (fun h20 => ?_) (fun h20 => ?_)
      · skip
        try simp only [nk_b0, Int32.toInt_toInt64, Classical.not_not, nk_l0, nk_l1, nk_l2, nk_l60] at h20
        refine nk_ldc qX8_49 dX8_cover_33 ?_
        refine nk_ireturn dX8_cover_35 rfl ?_
        first
        | exact ⟨by unfold sp_cover; rw [if_neg h6], rfl⟩
        | exact ⟨by unfold sp_cover; rw [if_pos h6, if_neg h15], rfl⟩
        | exact ⟨by unfold sp_cover; rw [if_pos h6, if_pos h15, if_neg (Int32.not_le.mpr h20)], rfl⟩
        | exact ⟨by unfold sp_cover; rw [if_pos h6, if_pos h15, if_pos (Int32.not_lt.mp h20), if_neg h30], rfl⟩
      · skip
        try simp only [nk_b0, Int32.toInt_toInt64, Classical.not_not, nk_l0, nk_l1, nk_l2, nk_l60] at h20
        refine nk_iload_n (i := 3) dX8_cover_23 rfl rfl ?_
        refine nk_i2l dX8_cover_24 ?_
        refine nk_lconst (v := 0) dX8_cover_25 rfl ?_
        refine nk_lconst (v := 1) dX8_cover_26 rfl ?_
        refine nk_cSi kX8_39 (s_X8_in) dX8_cover_27 rfl rfl (by decide) (Nat.le_of_ble_eq_true rfl) ?_
        refine nk_ifne (tgt := 36) dX8_cover_30 (by decide) (fun h30 => ?_) (fun h30 => ?_)
        · skip
          try simp only [nk_b0, Int32.toInt_toInt64, Classical.not_not, nk_l0, nk_l1, nk_l2, nk_l60] at h30
          obtain ⟨a, ha, rfl⟩ := nk_getN h6
          obtain ⟨c, hc, rfl⟩ := nk_getN h15
          have hac := nk_nltI h20 (by omega) (by omega)
          have hac2 : nI a ≤ nI c := nI_le hac (by omega)
          unfold sp_cover
          rw [if_pos h6, if_pos h15, if_pos hac2, if_pos h30, sp_n_nI (by omega), sp_n_nI (by omega)]
          refine nk_ldc qX8_140 dX8_cover_36 ?_
          refine nk_istoreT dX8_cover_38 (by decide) ?_
          refine nk_iconst (v := 1) dX8_cover_40 (by decide) ?_
          refine nk_istoreT dX8_cover_41 (by decide) ?_
          refine l_X8_cover hi hm hac hc ?_ (2 ^ m) 0 (by omega) (by omega)
          generalize hg : sp_cv (fun x => sp_cov (nk_mem (A 0) 0) m (nI x) a (c + 1 - a)) (2 ^ m - 1) = g
          have hgb : ∀ k, g = some k → k < 2 ^ 31 := fun k hk => by have := sp_cv_lt (hg.trans hk); omega
          refine nk_iload_n (i := 3) dX8_cover_97 rfl rfl ?_
          refine nk_iconst (v := 1) dX8_cover_98 (by decide) ?_
          refine nk_icmpeq (tgt := 109) dX8_cover_99 (by decide) (fun h99 => ?_) (fun h99 => ?_)
          · skip
            refine nk_iload dX8_cover_109 rfl ?_
            refine nk_goto (tgt := 119) dX8_cover_111 (by decide) ?_
            refine nk_ireturn dX8_cover_119 rfl ?_
            first
            | (cases g with
               | none => exact ⟨rfl, rfl⟩
               | some v => exact ⟨by show _ = some (Value.int (if x = 1 then nI v else nI (fb_ct (bt (nI v)) 32))); rw [if_pos h99]; rfl, rfl⟩)
            | (subst h106; exact ⟨rfl, rfl⟩)
            | exact ⟨by show _ = some (Value.int (if x = 1 then nI v else nI (fb_ct (bt (nI v)) 32))); rw [if_neg h99], rfl⟩
          · skip
            refine nk_iload dX8_cover_102 rfl ?_
            refine nk_ldc qX8_140 dX8_cover_104 ?_
            refine nk_icmpne (tgt := 114) dX8_cover_106 (by decide) (fun h106 => ?_) (fun h106 => ?_)
            · skip
              rw [nk_rN_none hgb] at h106
              obtain ⟨v, hv⟩ := Option.ne_none_iff_exists'.mp h106
              subst hv
              refine nk_iload dX8_cover_114 rfl ?_
              refine nk_top (y := nI v) (rfl) ?_
              refine nk_cSi kX8_134 (s_X8_ones) dX8_cover_116 rfl rfl (by decide) (Nat.le_of_ble_eq_true rfl) ?_
              refine nk_ireturn dX8_cover_119 rfl ?_
              first
              | (cases g with
                 | none => exact ⟨rfl, rfl⟩
                 | some v => exact ⟨by show _ = some (Value.int (if x = 1 then nI v else nI (fb_ct (bt (nI v)) 32))); rw [if_pos h99]; rfl, rfl⟩)
              | (subst h106; exact ⟨rfl, rfl⟩)
              | exact ⟨by show _ = some (Value.int (if x = 1 then nI v else nI (fb_ct (bt (nI v)) 32))); rw [if_neg h99], rfl⟩
            · skip
              rw [nk_rN_none hgb] at h106
              refine nk_iload dX8_cover_109 rfl ?_
              refine nk_goto (tgt := 119) dX8_cover_111 (by decide) ?_
              refine nk_ireturn dX8_cover_119 rfl ?_
              first
              | (cases g with
                 | none => exact ⟨rfl, rfl⟩
                 | some v => exact ⟨by show _ = some (Value.int (if x = 1 then nI v else nI (fb_ct (bt (nI v)) 32))); rw [if_pos h99]; rfl, rfl⟩)
              | (subst h106; exact ⟨rfl, rfl⟩)
              | exact ⟨by show _ = some (Value.int (if x = 1 then nI v else nI (fb_ct (bt (nI v)) 32))); rw [if_neg h99], rfl⟩
        · skip
          try simp only [nk_b0, Int32.toInt_toInt64, Classical.not_not, nk_l0, nk_l1, nk_l2, nk_l60] at h30
          refine nk_ldc qX8_49 dX8_cover_33 ?_
          refine nk_ireturn dX8_cover_35 rfl ?_
          first
          | exact ⟨by unfold sp_cover; rw [if_neg h6], rfl⟩
          | exact ⟨by unfold sp_cover; rw [if_pos h6, if_neg h15], rfl⟩
          | exact ⟨by unfold sp_cover; rw [if_pos h6, if_pos h15, if_neg (Int32.not_le.mpr h20)], rfl⟩
          | exact ⟨by unfold sp_cover; rw [if_pos h6, if_pos h15, if_pos (Int32.not_lt.mp h20), if_neg h30], rfl⟩
set_option maxRecDepth 20000 in
theorem l_X8_gap {G : nk_EG} {ad : Nat → Nat} {A : Nat → Nat → Int32} {I : Nat → Int32} (hi : mInj ad) {m b : Nat} (hm : mSh (A 0) 0 m b) {j : Nat} {x : Int32} {T : Nat × Option Nat} {Φ : Option Value → nk_AH → Prop} (hj : j < 4) (kk : ∀ (l5 l6 : Option Value), nk_J G mX8_gap 5 Φ 0 0 115 [some (.ref (ad 0)), some (.int (nI j)), some (.int x), some (.int (nI T.1)), some (.int (nk_rN T.2)), l5, l6] [] (mh ad A I)) : ∀ (n : Nat) (key most : Nat) (l : Option Nat) (h1 : key < nk_tp b) (h2 : nk_tp b < key + n + 1) (h3 : most ≤ 1024) (hT : sp_gp (nk_mem (A 0) 0 j) (nk_tp b) n most l key = T), nk_J G mX8_gap 5 (Φ) 0 0 55 [some (.ref (ad 0)), some (.int (nI j)), some (.int x), some (.int (nI most)), some (.int (nk_rN l)), some (.int (nI key)), some (.int (nk_rN (sp_abv (nk_mem (A 0) 0 j) (nk_tp b) key)))] [] (mh ad A I) := by
  intro n
  induction n with
  | zero => intro key most l h1 h2 h3 hT; omega
  | succ n ih =>
    intro key most l h1 h2 h3 hT
    have h4 := hm.2.2.1
    have h10 := hm.2.2.2
    have ht := nk_tp_le h10
    refine nk_iload dX8_gap_55 rfl ?_
    refine nk_ldc qX8_140 dX8_gap_57 ?_
    refine nk_icmpeq (tgt := 115) dX8_gap_59 (by decide) (fun h59 => ?_) (fun h59 => ?_)
    · skip
      unfold sp_abv at h59; rw [nk_rN_none (nk_up_b (by omega))] at h59
      rw [sp_gp_none h59] at hT
      subst hT
      exact kk _ _
    · skip
      unfold sp_abv at h59; rw [nk_rN_none (nk_up_b (by omega))] at h59
      obtain ⟨u, hu⟩ := Option.ne_none_iff_exists'.mp h59
      have hu1 := nk_up_lt hu
      have hu : sp_abv (nk_mem (A 0) 0 j) (nk_tp b) key = some u := hu
      rw [hu]
      refine nk_iload dX8_gap_62 rfl ?_
      refine nk_iload dX8_gap_64 rfl ?_
      refine nk_isub dX8_gap_66 ?_
      refine nk_top (y := nI (u - key)) (pk_sub (by omega)) ?_
      refine nk_iload_n (i := 3) dX8_gap_67 rfl rfl ?_
      refine nk_icmple (tgt := 76) dX8_gap_68 (by decide) (fun h68 => ?_) (fun h68 => ?_)
      · skip
        refine nk_iload dX8_gap_76 rfl ?_
        refine nk_istoreT dX8_gap_78 (by decide) ?_
        refine nk_iload dX8_gap_80 rfl ?_
        refine nk_iload dX8_gap_82 rfl ?_
        refine nk_isub dX8_gap_84 ?_
        refine nk_top (y := nI (u - key)) (pk_sub (by omega)) ?_
        refine nk_iload_n (i := 3) dX8_gap_85 rfl rfl ?_
        refine nk_icmple (tgt := 97) dX8_gap_86 (by decide) (fun h86 => ?_) (fun h86 => ?_)
        · skip
          refine nk_iload_n (i := 3) dX8_gap_97 rfl rfl ?_
          refine nk_istore_nT (i := 3) dX8_gap_98 rfl (by decide) ?_
          refine nk_iload dX8_gap_99 rfl ?_
          refine nk_istoreT dX8_gap_101 (by decide) ?_
          refine nk_aload_n (i := 0) dX8_gap_103 rfl rfl ?_
          refine nk_iload_n (i := 1) dX8_gap_104 rfl rfl ?_
          refine nk_iload dX8_gap_105 rfl ?_
          refine nk_top (y := nI u) (rfl) ?_
          refine nk_cVi kX8_141 (s_X8_above hi hm hj (a := u + 1) (nI_1 u) (by omega)) dX8_gap_107 mh_0 rfl rfl (by decide) (Nat.le_of_ble_eq_true rfl) ?_
          refine nk_istoreT dX8_gap_110 (by decide) ?_
          refine nk_goto (tgt := 55) dX8_gap_112 (by decide) ?_
          first
          | exact absurd h68 h86
          | exact absurd h86 h68
          | (have c1 := nk_leI h68 (by omega) (by omega)
             rw [sp_gp_no hu (by omega)] at hT
             exact ih u most l (by omega) (by omega) (by omega) hT)
          | (have c1 := nk_nleI h68 (by omega) (by omega)
             rw [sp_gp_yes hu (by omega)] at hT
             exact ih u (u - key) (some key) (by omega) (by omega) (by omega) hT)
        · skip
          refine nk_iload dX8_gap_89 rfl ?_
          refine nk_iload dX8_gap_91 rfl ?_
          refine nk_isub dX8_gap_93 ?_
          refine nk_top (y := nI (u - key)) (pk_sub (by omega)) ?_
          refine nk_goto (tgt := 98) dX8_gap_94 (by decide) ?_
          refine nk_istore_nT (i := 3) dX8_gap_98 rfl (by decide) ?_
          refine nk_iload dX8_gap_99 rfl ?_
          refine nk_istoreT dX8_gap_101 (by decide) ?_
          refine nk_aload_n (i := 0) dX8_gap_103 rfl rfl ?_
          refine nk_iload_n (i := 1) dX8_gap_104 rfl rfl ?_
          refine nk_iload dX8_gap_105 rfl ?_
          refine nk_top (y := nI u) (rfl) ?_
          refine nk_cVi kX8_141 (s_X8_above hi hm hj (a := u + 1) (nI_1 u) (by omega)) dX8_gap_107 mh_0 rfl rfl (by decide) (Nat.le_of_ble_eq_true rfl) ?_
          refine nk_istoreT dX8_gap_110 (by decide) ?_
          refine nk_goto (tgt := 55) dX8_gap_112 (by decide) ?_
          first
          | exact absurd h68 h86
          | exact absurd h86 h68
          | (have c1 := nk_leI h68 (by omega) (by omega)
             rw [sp_gp_no hu (by omega)] at hT
             exact ih u most l (by omega) (by omega) (by omega) hT)
          | (have c1 := nk_nleI h68 (by omega) (by omega)
             rw [sp_gp_yes hu (by omega)] at hT
             exact ih u (u - key) (some key) (by omega) (by omega) (by omega) hT)
      · skip
        refine nk_iload dX8_gap_71 rfl ?_
        refine nk_goto (tgt := 78) dX8_gap_73 (by decide) ?_
        refine nk_istoreT dX8_gap_78 (by decide) ?_
        refine nk_iload dX8_gap_80 rfl ?_
        refine nk_iload dX8_gap_82 rfl ?_
        refine nk_isub dX8_gap_84 ?_
        refine nk_top (y := nI (u - key)) (pk_sub (by omega)) ?_
        refine nk_iload_n (i := 3) dX8_gap_85 rfl rfl ?_
        refine nk_icmple (tgt := 97) dX8_gap_86 (by decide) (fun h86 => ?_) (fun h86 => ?_)
        · skip
          refine nk_iload_n (i := 3) dX8_gap_97 rfl rfl ?_
          refine nk_istore_nT (i := 3) dX8_gap_98 rfl (by decide) ?_
          refine nk_iload dX8_gap_99 rfl ?_
          refine nk_istoreT dX8_gap_101 (by decide) ?_
          refine nk_aload_n (i := 0) dX8_gap_103 rfl rfl ?_
          refine nk_iload_n (i := 1) dX8_gap_104 rfl rfl ?_
          refine nk_iload dX8_gap_105 rfl ?_
          refine nk_top (y := nI u) (rfl) ?_
          refine nk_cVi kX8_141 (s_X8_above hi hm hj (a := u + 1) (nI_1 u) (by omega)) dX8_gap_107 mh_0 rfl rfl (by decide) (Nat.le_of_ble_eq_true rfl) ?_
          refine nk_istoreT dX8_gap_110 (by decide) ?_
          refine nk_goto (tgt := 55) dX8_gap_112 (by decide) ?_
          first
          | exact absurd h68 h86
          | exact absurd h86 h68
          | (have c1 := nk_leI h68 (by omega) (by omega)
             rw [sp_gp_no hu (by omega)] at hT
             exact ih u most l (by omega) (by omega) (by omega) hT)
          | (have c1 := nk_nleI h68 (by omega) (by omega)
             rw [sp_gp_yes hu (by omega)] at hT
             exact ih u (u - key) (some key) (by omega) (by omega) (by omega) hT)
        · skip
          refine nk_iload dX8_gap_89 rfl ?_
          refine nk_iload dX8_gap_91 rfl ?_
          refine nk_isub dX8_gap_93 ?_
          refine nk_top (y := nI (u - key)) (pk_sub (by omega)) ?_
          refine nk_goto (tgt := 98) dX8_gap_94 (by decide) ?_
          refine nk_istore_nT (i := 3) dX8_gap_98 rfl (by decide) ?_
          refine nk_iload dX8_gap_99 rfl ?_
          refine nk_istoreT dX8_gap_101 (by decide) ?_
          refine nk_aload_n (i := 0) dX8_gap_103 rfl rfl ?_
          refine nk_iload_n (i := 1) dX8_gap_104 rfl rfl ?_
          refine nk_iload dX8_gap_105 rfl ?_
          refine nk_top (y := nI u) (rfl) ?_
          refine nk_cVi kX8_141 (s_X8_above hi hm hj (a := u + 1) (nI_1 u) (by omega)) dX8_gap_107 mh_0 rfl rfl (by decide) (Nat.le_of_ble_eq_true rfl) ?_
          refine nk_istoreT dX8_gap_110 (by decide) ?_
          refine nk_goto (tgt := 55) dX8_gap_112 (by decide) ?_
          first
          | exact absurd h68 h86
          | exact absurd h86 h68
          | (have c1 := nk_leI h68 (by omega) (by omega)
             rw [sp_gp_no hu (by omega)] at hT
             exact ih u most l (by omega) (by omega) (by omega) hT)
          | (have c1 := nk_nleI h68 (by omega) (by omega)
             rw [sp_gp_yes hu (by omega)] at hT
             exact ih u (u - key) (some key) (by omega) (by omega) (by omega) hT)
set_option maxHeartbeats 4000000 in
set_option maxRecDepth 20000 in
theorem s_X8_gap {G : nk_EG} {ad : Nat → Nat} {A : Nat → Nat → Int32} {I : Nat → Int32} (hi : mInj ad) {m b : Nat} (hm : mSh (A 0) 0 m b) {s x : Int32} : nk_Si G mX8_gap 5 [.ref (ad 0), .int s, .int x] (mh ad A I) (sp_gap m b (nk_mem (A 0) 0) s x) (mh ad A I) := by
  have h4 := hm.2.2.1
  have h10 := hm.2.2.2
  have ht := nk_tp_le h10
  refine nk_S.of (by decide +kernel) (Nat.le_of_ble_eq_true rfl) rfl ?_
  refine nk_aload_n (i := 0) dX8_gap_0 rfl rfl ?_
  refine nk_iload_n (i := 1) dX8_gap_1 rfl rfl ?_
  refine nk_cVi kX8_154 (s_X8_isSet hi hm.1 hm.2.2.1) dX8_gap_2 mh_0 rfl rfl (by decide) (Nat.le_of_ble_eq_true rfl) ?_
  refine nk_ifeq (tgt := 18) dX8_gap_5 (by decide) (fun h5 => ?_) (fun h5 => ?_)
  · skip
    try simp only [nk_b0, Int32.toInt_toInt64, Classical.not_not, nk_l0, nk_l1, nk_l2, nk_l60] at h5
    refine nk_ldc qX8_49 dX8_gap_18 ?_
    refine nk_ireturn dX8_gap_20 rfl ?_
    first
    | exact ⟨by unfold sp_gap; rw [if_neg h5], rfl⟩
    | exact ⟨by unfold sp_gap; rw [if_pos h5, if_neg h15], rfl⟩
  · skip
    try simp only [nk_b0, Int32.toInt_toInt64, Classical.not_not, nk_l0, nk_l1, nk_l2, nk_l60] at h5
    refine nk_iload_n (i := 2) dX8_gap_8 rfl rfl ?_
    refine nk_i2l dX8_gap_9 ?_
    refine nk_lconst (v := 0) dX8_gap_10 rfl ?_
    refine nk_lconst (v := 1) dX8_gap_11 rfl ?_
    refine nk_cSi kX8_39 (s_X8_in) dX8_gap_12 rfl rfl (by decide) (Nat.le_of_ble_eq_true rfl) ?_
    refine nk_ifne (tgt := 21) dX8_gap_15 (by decide) (fun h15 => ?_) (fun h15 => ?_)
    · skip
      try simp only [nk_b0, Int32.toInt_toInt64, Classical.not_not, nk_l0, nk_l1, nk_l2, nk_l60] at h15
      obtain ⟨j, hj, rfl⟩ := nk_getN h5
      unfold sp_gap
      rw [if_pos h5, if_pos h15, sp_n_nI (by omega)]
      have hb2 : (sp_gp0 (nk_mem (A 0) 0 j) (nk_tp b)).2 = (sp_gp0 (nk_mem (A 0) 0 j) (nk_tp b)).2 := rfl
      generalize hg : sp_gp0 (nk_mem (A 0) 0 j) (nk_tp b) = g
      have fin : ∀ (l5 l6 : Option Value), nk_J G mX8_gap 5 (nk_ri (if x = 0 ∨ g.2 = none then nk_rN g.2 else nI g.1) (mh ad A I)) 0 0 115 [some (.ref (ad 0)), some (.int (nI j)), some (.int x), some (.int (nI g.1)), some (.int (nk_rN g.2)), l5, l6] [] (mh ad A I) := by
        intro l5 l6
        have hgb : ∀ k, g.2 = some k → k < 2 ^ 31 := fun k hk => by rw [← hg] at hk; have := sp_gp0_lt hk; omega
        refine nk_iload_n (i := 2) dX8_gap_115 rfl rfl ?_
        refine nk_ifeq (tgt := 126) dX8_gap_116 (by decide) (fun h116 => ?_) (fun h116 => ?_)
        · skip
          refine nk_iload dX8_gap_126 rfl ?_
          refine nk_goto (tgt := 132) dX8_gap_128 (by decide) ?_
          refine nk_ireturn dX8_gap_132 rfl ?_
          first
          | exact ⟨by rw [if_pos (Or.inl h116)], rfl⟩
          | exact ⟨by rw [if_pos (Or.inr h123)], rfl⟩
          | exact ⟨by rw [if_neg (fun z => z.elim h116 h123)], rfl⟩
        · skip
          refine nk_iload dX8_gap_119 rfl ?_
          refine nk_ldc qX8_140 dX8_gap_121 ?_
          refine nk_icmpne (tgt := 131) dX8_gap_123 (by decide) (fun h123 => ?_) (fun h123 => ?_)
          · skip
            rw [nk_rN_none hgb] at h123
            refine nk_iload_n (i := 3) dX8_gap_131 rfl rfl ?_
            refine nk_ireturn dX8_gap_132 rfl ?_
            first
            | exact ⟨by rw [if_pos (Or.inl h116)], rfl⟩
            | exact ⟨by rw [if_pos (Or.inr h123)], rfl⟩
            | exact ⟨by rw [if_neg (fun z => z.elim h116 h123)], rfl⟩
          · skip
            rw [nk_rN_none hgb] at h123
            refine nk_iload dX8_gap_126 rfl ?_
            refine nk_goto (tgt := 132) dX8_gap_128 (by decide) ?_
            refine nk_ireturn dX8_gap_132 rfl ?_
            first
            | exact ⟨by rw [if_pos (Or.inl h116)], rfl⟩
            | exact ⟨by rw [if_pos (Or.inr h123)], rfl⟩
            | exact ⟨by rw [if_neg (fun z => z.elim h116 h123)], rfl⟩
      refine nk_iconst (v := 0) dX8_gap_21 (by decide) ?_
      refine nk_istore_nT (i := 3) dX8_gap_22 rfl (by decide) ?_
      refine nk_ldc qX8_140 dX8_gap_23 ?_
      refine nk_istoreT dX8_gap_25 (by decide) ?_
      refine nk_aload_n (i := 0) dX8_gap_27 rfl rfl ?_
      refine nk_iload_n (i := 1) dX8_gap_28 rfl rfl ?_
      refine nk_cVi kX8_147 (s_X8_leastOf hi hm (by have := hm.2.2.1; omega)) dX8_gap_29 mh_0 rfl rfl (by decide) (Nat.le_of_ble_eq_true rfl) ?_
      refine nk_istoreT dX8_gap_32 (by decide) ?_
      refine nk_iload dX8_gap_34 rfl ?_
      refine nk_ldc qX8_140 dX8_gap_36 ?_
      refine nk_icmpne (tgt := 46) dX8_gap_38 (by decide) (fun h38 => ?_) (fun h38 => ?_)
      · skip
        rw [nk_rN_none (nk_up_b (by omega))] at h38
        obtain ⟨v, hv⟩ := Option.ne_none_iff_exists'.mp h38
        have hv1 := nk_up_lt hv
        rw [hv]
        refine nk_aload_n (i := 0) dX8_gap_46 rfl rfl ?_
        refine nk_iload_n (i := 1) dX8_gap_47 rfl rfl ?_
        refine nk_iload dX8_gap_48 rfl ?_
        refine nk_top (y := nI v) (rfl) ?_
        refine nk_cVi kX8_141 (s_X8_above hi hm (by omega) (a := v + 1) (nI_1 v) (by omega)) dX8_gap_50 mh_0 rfl rfl (by decide) (Nat.le_of_ble_eq_true rfl) ?_
        refine nk_istoreT dX8_gap_53 (by decide) ?_
        have hg2 : sp_gp (nk_mem (A 0) 0 j) (nk_tp b) (nk_tp b) 0 none v = g := by rw [← hg, sp_gp0, hv]
        exact l_X8_gap hi hm (by omega) fin (nk_tp b) v 0 none (by omega) (by omega) (by omega) hg2
      · skip
        rw [nk_rN_none (nk_up_b (by omega))] at h38
        have hg2 : g = (0, none) := by rw [← hg, sp_gp0, h38]
        subst hg2
        refine nk_ldc qX8_140 dX8_gap_41 ?_
        refine nk_goto (tgt := 53) dX8_gap_43 (by decide) ?_
        refine nk_istoreT dX8_gap_53 (by decide) ?_
        refine nk_iload dX8_gap_55 rfl ?_
        refine nk_ldc qX8_140 dX8_gap_57 ?_
        refine nk_icmpeq (tgt := 115) dX8_gap_59 (by decide) (fun _ => ?_) (fun h59 => absurd rfl h59)
        exact fin _ _
    · skip
      try simp only [nk_b0, Int32.toInt_toInt64, Classical.not_not, nk_l0, nk_l1, nk_l2, nk_l60] at h15
      refine nk_ldc qX8_49 dX8_gap_18 ?_
      refine nk_ireturn dX8_gap_20 rfl ?_
      first
      | exact ⟨by unfold sp_gap; rw [if_neg h5], rfl⟩
      | exact ⟨by unfold sp_gap; rw [if_pos h5, if_neg h15], rfl⟩
set_option maxRecDepth 20000 in
theorem s_X8_wordMany {G : nk_EG} {ad : Nat → Nat} {A : Nat → Nat → Int32} {I : Nat → Int32} (hi : mInj ad) {m b : Nat} (hm : mSh (A 0) 0 m b) : nk_Si G mX8_wordMany 3 [.ref (ad 0)] (mh ad A I) (nI (nk_wm b)) (mh ad A I) := by
  have h4 := hm.2.2.1
  have h10 := hm.2.2.2
  have ht := nk_tp_le h10
  refine nk_S.of (by decide +kernel) (Nat.le_of_ble_eq_true rfl) rfl ?_
  refine nk_aload_n (i := 0) dX8_wordMany_0 rfl rfl ?_
  refine nk_cVi kX8_127 (s_X8_top hi hm.2.1 hm.2.2.2) dX8_wordMany_1 mh_0 rfl rfl (by decide) (Nat.le_of_ble_eq_true rfl) ?_
  refine nk_bipush (v := 32) dX8_wordMany_4 (by decide) ?_
  refine nk_icmpge (tgt := 13) dX8_wordMany_6 (by decide) (fun h6 => ?_) (fun h6 => ?_)
  · skip
    refine nk_aload_n (i := 0) dX8_wordMany_13 rfl rfl ?_
    refine nk_cVi kX8_127 (s_X8_top hi hm.2.1 hm.2.2.2) dX8_wordMany_14 mh_0 rfl rfl (by decide) (Nat.le_of_ble_eq_true rfl) ?_
    refine nk_bipush (v := 32) dX8_wordMany_17 (by decide) ?_
    refine nk_idiv dX8_wordMany_19 (by decide) ?_
    refine nk_ireturn dX8_wordMany_20 rfl ?_
    first
    | exact ⟨by unfold nk_wm; rw [if_pos (by have := nk_nleI (a := 32) h6 (by omega) (by omega); omega)]; rfl, rfl⟩
    | exact ⟨by unfold nk_wm; rw [if_neg (by have := nk_leI (a := 32) h6 (by omega) (by omega); omega), nk_d32 (by omega)], rfl⟩
  · skip
    refine nk_iconst (v := 1) dX8_wordMany_9 (by decide) ?_
    refine nk_goto (tgt := 20) dX8_wordMany_10 (by decide) ?_
    refine nk_ireturn dX8_wordMany_20 rfl ?_
    first
    | exact ⟨by unfold nk_wm; rw [if_pos (by have := nk_nleI (a := 32) h6 (by omega) (by omega); omega)]; rfl, rfl⟩
    | exact ⟨by unfold nk_wm; rw [if_neg (by have := nk_leI (a := 32) h6 (by omega) (by omega); omega), nk_d32 (by omega)], rfl⟩
set_option maxRecDepth 20000 in
theorem s_X8_isWord {G : nk_EG} {ad : Nat → Nat} {A : Nat → Nat → Int32} {I : Nat → Int32} (hi : mInj ad) {m b : Nat} (hm : mSh (A 0) 0 m b) {s l i : Int32} : nk_Si G mX8_isWord 4 [.ref (ad 0), .int s, .int l, .int i] (mh ad A I) (if sp_isW m b s l i then 1 else 0) (mh ad A I) := by
  have h4 := hm.2.2.1
  have h10 := hm.2.2.2
  have ht := nk_tp_le h10
  have hw := nk_wm_le h10
  refine nk_S.of (by decide +kernel) (Nat.le_of_ble_eq_true rfl) rfl ?_
  refine nk_aload_n (i := 0) dX8_isWord_0 rfl rfl ?_
  refine nk_iload_n (i := 1) dX8_isWord_1 rfl rfl ?_
  refine nk_cVi kX8_154 (s_X8_isSet hi hm.1 hm.2.2.1) dX8_isWord_2 mh_0 rfl rfl (by decide) (Nat.le_of_ble_eq_true rfl) ?_
  refine nk_ifeq (tgt := 49) dX8_isWord_5 (by decide) (fun h5 => ?_) (fun h5 => ?_)
  · skip
    try simp only [nk_b0, Int32.toInt_toInt64, Classical.not_not, nk_l0, nk_l1, nk_l2, nk_l60] at h5
    refine nk_iconst (v := 0) dX8_isWord_49 (by decide) ?_
    refine nk_zreturn dX8_isWord_50 rfl rfl ?_
    first
    | (refine ⟨nk_v1 ?_, rfl⟩
       first
       | exact ⟨h5, Or.inl ⟨h9, h25.1, by omega⟩⟩
       | exact ⟨h5, Or.inr ⟨h30, h34, nk_nleI (b := 1) h42 (by omega) (by omega)⟩⟩)
    | (refine ⟨nk_v0 (fun z => ?_), rfl⟩
       first
       | exact h5 z.1
       | (have y := z.2
          rcases y with ⟨y1, y2, y3⟩ | ⟨y1, y2, y3⟩
          · first
            | exact h9 y1
            | exact h25 ⟨y2, by omega⟩
          · first
            | exact h30 y1
            | exact h34 y2
            | exact absurd (nk_leI (b := 1) h42 (by omega) (by omega)) (by omega)))
  · skip
    try simp only [nk_b0, Int32.toInt_toInt64, Classical.not_not, nk_l0, nk_l1, nk_l2, nk_l60] at h5
    refine nk_iload_n (i := 2) dX8_isWord_8 rfl rfl ?_
    refine nk_ifne (tgt := 28) dX8_isWord_9 (by decide) (fun h9 => ?_) (fun h9 => ?_)
    · skip
      refine nk_iload_n (i := 2) dX8_isWord_28 rfl rfl ?_
      refine nk_iconst (v := 1) dX8_isWord_29 (by decide) ?_
      refine nk_icmpne (tgt := 49) dX8_isWord_30 (by decide) (fun h30 => ?_) (fun h30 => ?_)
      · skip
        refine nk_iconst (v := 0) dX8_isWord_49 (by decide) ?_
        refine nk_zreturn dX8_isWord_50 rfl rfl ?_
        first
        | (refine ⟨nk_v1 ?_, rfl⟩
           first
           | exact ⟨h5, Or.inl ⟨h9, h25.1, by omega⟩⟩
           | exact ⟨h5, Or.inr ⟨h30, h34, nk_nleI (b := 1) h42 (by omega) (by omega)⟩⟩)
        | (refine ⟨nk_v0 (fun z => ?_), rfl⟩
           first
           | exact h5 z.1
           | (have y := z.2
              rcases y with ⟨y1, y2, y3⟩ | ⟨y1, y2, y3⟩
              · first
                | exact h9 y1
                | exact h25 ⟨y2, by omega⟩
              · first
                | exact h30 y1
                | exact h34 y2
                | exact absurd (nk_leI (b := 1) h42 (by omega) (by omega)) (by omega)))
      · skip
        refine nk_iload_n (i := 3) dX8_isWord_33 rfl rfl ?_
        refine nk_ifne (tgt := 49) dX8_isWord_34 (by decide) (fun h34 => ?_) (fun h34 => ?_)
        · skip
          refine nk_iconst (v := 0) dX8_isWord_49 (by decide) ?_
          refine nk_zreturn dX8_isWord_50 rfl rfl ?_
          first
          | (refine ⟨nk_v1 ?_, rfl⟩
             first
             | exact ⟨h5, Or.inl ⟨h9, h25.1, by omega⟩⟩
             | exact ⟨h5, Or.inr ⟨h30, h34, nk_nleI (b := 1) h42 (by omega) (by omega)⟩⟩)
          | (refine ⟨nk_v0 (fun z => ?_), rfl⟩
             first
             | exact h5 z.1
             | (have y := z.2
                rcases y with ⟨y1, y2, y3⟩ | ⟨y1, y2, y3⟩
                · first
                  | exact h9 y1
                  | exact h25 ⟨y2, by omega⟩
                · first
                  | exact h30 y1
                  | exact h34 y2
                  | exact absurd (nk_leI (b := 1) h42 (by omega) (by omega)) (by omega)))
        · skip
          refine nk_aload_n (i := 0) dX8_isWord_37 rfl rfl ?_
          refine nk_cVi kX8_262 (s_X8_wordMany hi hm) dX8_isWord_38 mh_0 rfl rfl (by decide) (Nat.le_of_ble_eq_true rfl) ?_
          refine nk_iconst (v := 1) dX8_isWord_41 (by decide) ?_
          refine nk_icmple (tgt := 49) dX8_isWord_42 (by decide) (fun h42 => ?_) (fun h42 => ?_)
          · skip
            refine nk_iconst (v := 0) dX8_isWord_49 (by decide) ?_
            refine nk_zreturn dX8_isWord_50 rfl rfl ?_
            first
            | (refine ⟨nk_v1 ?_, rfl⟩
               first
               | exact ⟨h5, Or.inl ⟨h9, h25.1, by omega⟩⟩
               | exact ⟨h5, Or.inr ⟨h30, h34, nk_nleI (b := 1) h42 (by omega) (by omega)⟩⟩)
            | (refine ⟨nk_v0 (fun z => ?_), rfl⟩
               first
               | exact h5 z.1
               | (have y := z.2
                  rcases y with ⟨y1, y2, y3⟩ | ⟨y1, y2, y3⟩
                  · first
                    | exact h9 y1
                    | exact h25 ⟨y2, by omega⟩
                  · first
                    | exact h30 y1
                    | exact h34 y2
                    | exact absurd (nk_leI (b := 1) h42 (by omega) (by omega)) (by omega)))
          · skip
            refine nk_iconst (v := 1) dX8_isWord_45 (by decide) ?_
            refine nk_goto (tgt := 50) dX8_isWord_46 (by decide) ?_
            refine nk_zreturn dX8_isWord_50 rfl rfl ?_
            first
            | (refine ⟨nk_v1 ?_, rfl⟩
               first
               | exact ⟨h5, Or.inl ⟨h9, h25.1, by omega⟩⟩
               | exact ⟨h5, Or.inr ⟨h30, h34, nk_nleI (b := 1) h42 (by omega) (by omega)⟩⟩)
            | (refine ⟨nk_v0 (fun z => ?_), rfl⟩
               first
               | exact h5 z.1
               | (have y := z.2
                  rcases y with ⟨y1, y2, y3⟩ | ⟨y1, y2, y3⟩
                  · first
                    | exact h9 y1
                    | exact h25 ⟨y2, by omega⟩
                  · first
                    | exact h30 y1
                    | exact h34 y2
                    | exact absurd (nk_leI (b := 1) h42 (by omega) (by omega)) (by omega)))
    · skip
      refine nk_iload_n (i := 3) dX8_isWord_12 rfl rfl ?_
      refine nk_i2l dX8_isWord_13 ?_
      refine nk_lconst (v := 0) dX8_isWord_14 rfl ?_
      refine nk_aload_n (i := 0) dX8_isWord_15 rfl rfl ?_
      refine nk_cVi kX8_262 (s_X8_wordMany hi hm) dX8_isWord_16 mh_0 rfl rfl (by decide) (Nat.le_of_ble_eq_true rfl) ?_
      refine nk_iconst (v := 1) dX8_isWord_19 (by decide) ?_
      refine nk_isub dX8_isWord_20 ?_
      refine nk_i2l dX8_isWord_21 ?_
      refine nk_cSi kX8_39 (s_X8_in) dX8_isWord_22 rfl rfl (by decide) (Nat.le_of_ble_eq_true rfl) ?_
      refine nk_ifne (tgt := 45) dX8_isWord_25 (by decide) (fun h25 => ?_) (fun h25 => ?_)
      · skip
        simp only [nk_b0, Int32.toInt_toInt64, Classical.not_not, nk_l0] at h25; rw [nk_m1 (by omega)] at h25
        refine nk_iconst (v := 1) dX8_isWord_45 (by decide) ?_
        refine nk_goto (tgt := 50) dX8_isWord_46 (by decide) ?_
        refine nk_zreturn dX8_isWord_50 rfl rfl ?_
        first
        | (refine ⟨nk_v1 ?_, rfl⟩
           first
           | exact ⟨h5, Or.inl ⟨h9, h25.1, by omega⟩⟩
           | exact ⟨h5, Or.inr ⟨h30, h34, nk_nleI (b := 1) h42 (by omega) (by omega)⟩⟩)
        | (refine ⟨nk_v0 (fun z => ?_), rfl⟩
           first
           | exact h5 z.1
           | (have y := z.2
              rcases y with ⟨y1, y2, y3⟩ | ⟨y1, y2, y3⟩
              · first
                | exact h9 y1
                | exact h25 ⟨y2, by omega⟩
              · first
                | exact h30 y1
                | exact h34 y2
                | exact absurd (nk_leI (b := 1) h42 (by omega) (by omega)) (by omega)))
      · skip
        simp only [nk_b0, Int32.toInt_toInt64, Classical.not_not, nk_l0] at h25; rw [nk_m1 (by omega)] at h25
        refine nk_iload_n (i := 2) dX8_isWord_28 rfl rfl ?_
        refine nk_iconst (v := 1) dX8_isWord_29 (by decide) ?_
        refine nk_icmpne (tgt := 49) dX8_isWord_30 (by decide) (fun h30 => ?_) (fun h30 => ?_)
        · skip
          refine nk_iconst (v := 0) dX8_isWord_49 (by decide) ?_
          refine nk_zreturn dX8_isWord_50 rfl rfl ?_
          first
          | (refine ⟨nk_v1 ?_, rfl⟩
             first
             | exact ⟨h5, Or.inl ⟨h9, h25.1, by omega⟩⟩
             | exact ⟨h5, Or.inr ⟨h30, h34, nk_nleI (b := 1) h42 (by omega) (by omega)⟩⟩)
          | (refine ⟨nk_v0 (fun z => ?_), rfl⟩
             first
             | exact h5 z.1
             | (have y := z.2
                rcases y with ⟨y1, y2, y3⟩ | ⟨y1, y2, y3⟩
                · first
                  | exact h9 y1
                  | exact h25 ⟨y2, by omega⟩
                · first
                  | exact h30 y1
                  | exact h34 y2
                  | exact absurd (nk_leI (b := 1) h42 (by omega) (by omega)) (by omega)))
        · skip
          refine nk_iload_n (i := 3) dX8_isWord_33 rfl rfl ?_
          refine nk_ifne (tgt := 49) dX8_isWord_34 (by decide) (fun h34 => ?_) (fun h34 => ?_)
          · skip
            refine nk_iconst (v := 0) dX8_isWord_49 (by decide) ?_
            refine nk_zreturn dX8_isWord_50 rfl rfl ?_
            first
            | (refine ⟨nk_v1 ?_, rfl⟩
               first
               | exact ⟨h5, Or.inl ⟨h9, h25.1, by omega⟩⟩
               | exact ⟨h5, Or.inr ⟨h30, h34, nk_nleI (b := 1) h42 (by omega) (by omega)⟩⟩)
            | (refine ⟨nk_v0 (fun z => ?_), rfl⟩
               first
               | exact h5 z.1
               | (have y := z.2
                  rcases y with ⟨y1, y2, y3⟩ | ⟨y1, y2, y3⟩
                  · first
                    | exact h9 y1
                    | exact h25 ⟨y2, by omega⟩
                  · first
                    | exact h30 y1
                    | exact h34 y2
                    | exact absurd (nk_leI (b := 1) h42 (by omega) (by omega)) (by omega)))
          · skip
            refine nk_aload_n (i := 0) dX8_isWord_37 rfl rfl ?_
            refine nk_cVi kX8_262 (s_X8_wordMany hi hm) dX8_isWord_38 mh_0 rfl rfl (by decide) (Nat.le_of_ble_eq_true rfl) ?_
            refine nk_iconst (v := 1) dX8_isWord_41 (by decide) ?_
            refine nk_icmple (tgt := 49) dX8_isWord_42 (by decide) (fun h42 => ?_) (fun h42 => ?_)
            · skip
              refine nk_iconst (v := 0) dX8_isWord_49 (by decide) ?_
              refine nk_zreturn dX8_isWord_50 rfl rfl ?_
              first
              | (refine ⟨nk_v1 ?_, rfl⟩
                 first
                 | exact ⟨h5, Or.inl ⟨h9, h25.1, by omega⟩⟩
                 | exact ⟨h5, Or.inr ⟨h30, h34, nk_nleI (b := 1) h42 (by omega) (by omega)⟩⟩)
              | (refine ⟨nk_v0 (fun z => ?_), rfl⟩
                 first
                 | exact h5 z.1
                 | (have y := z.2
                    rcases y with ⟨y1, y2, y3⟩ | ⟨y1, y2, y3⟩
                    · first
                      | exact h9 y1
                      | exact h25 ⟨y2, by omega⟩
                    · first
                      | exact h30 y1
                      | exact h34 y2
                      | exact absurd (nk_leI (b := 1) h42 (by omega) (by omega)) (by omega)))
            · skip
              refine nk_iconst (v := 1) dX8_isWord_45 (by decide) ?_
              refine nk_goto (tgt := 50) dX8_isWord_46 (by decide) ?_
              refine nk_zreturn dX8_isWord_50 rfl rfl ?_
              first
              | (refine ⟨nk_v1 ?_, rfl⟩
                 first
                 | exact ⟨h5, Or.inl ⟨h9, h25.1, by omega⟩⟩
                 | exact ⟨h5, Or.inr ⟨h30, h34, nk_nleI (b := 1) h42 (by omega) (by omega)⟩⟩)
              | (refine ⟨nk_v0 (fun z => ?_), rfl⟩
                 first
                 | exact h5 z.1
                 | (have y := z.2
                    rcases y with ⟨y1, y2, y3⟩ | ⟨y1, y2, y3⟩
                    · first
                      | exact h9 y1
                      | exact h25 ⟨y2, by omega⟩
                    · first
                      | exact h30 y1
                      | exact h34 y2
                      | exact absurd (nk_leI (b := 1) h42 (by omega) (by omega)) (by omega)))

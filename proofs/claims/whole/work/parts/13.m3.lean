/-! the reference: calls that ask of one set -/
set_option maxRecDepth 20000 in
theorem s_X8_contains {G : nk_EG} {ad : Nat → Nat} {A : Nat → Nat → Int32} {I : Nat → Int32} (hi : mInj ad) {m b : Nat} (hm : mSh (A 0) 0 m b) {s k : Int32} : nk_Si G mX8_contains 4 [.ref (ad 0), .int s, .int k] (mh ad A I) (sp_contains m b (nk_mem (A 0) 0) s k) (mh ad A I) := by
  have h4 := hm.2.2.1
  have h10 := hm.2.2.2
  have ht := nk_tp_le h10
  refine nk_S.of (by decide +kernel) (Nat.le_of_ble_eq_true rfl) rfl ?_
  refine nk_aload_n (i := 0) dX8_contains_0 rfl rfl ?_
  refine nk_iload_n (i := 1) dX8_contains_1 rfl rfl ?_
  refine nk_cVi kX8_154 (s_X8_isSet hi hm.1 hm.2.2.1) dX8_contains_2 mh_0 rfl rfl (by decide) (Nat.le_of_ble_eq_true rfl) ?_
  refine nk_ifeq (tgt := 17) dX8_contains_5 (by decide) (fun h5 => ?_) (fun h5 => ?_)
  · skip
    try simp only [nk_b0, Int32.toInt_toInt64, Classical.not_not, nk_l0, nk_l1, nk_l2, nk_l60] at h5
    refine nk_ldc qX8_49 dX8_contains_17 ?_
    refine nk_goto (tgt := 37) dX8_contains_19 (by decide) ?_
    refine nk_ireturn dX8_contains_37 rfl ?_
    first
    | exact ⟨by unfold sp_contains; rw [if_neg h5], rfl⟩
    | exact ⟨by unfold sp_contains; rw [if_pos h5, if_neg h14], rfl⟩
    | exact ⟨by unfold sp_contains; rw [if_pos h5, if_pos h14, sp_n_nI (by omega), sp_n_nI (by omega), if_pos h29], rfl⟩
    | exact ⟨by unfold sp_contains; rw [if_pos h5, if_pos h14, sp_n_nI (by omega), sp_n_nI (by omega), if_neg h29], rfl⟩
  · skip
    try simp only [nk_b0, Int32.toInt_toInt64, Classical.not_not, nk_l0, nk_l1, nk_l2, nk_l60] at h5
    refine nk_aload_n (i := 0) dX8_contains_8 rfl rfl ?_
    refine nk_iload_n (i := 2) dX8_contains_9 rfl rfl ?_
    refine nk_i2l dX8_contains_10 ?_
    refine nk_cVi kX8_157 (s_X8_isKey hi hm.2.1 hm.2.2.2) dX8_contains_11 mh_0 rfl rfl (by decide) (Nat.le_of_ble_eq_true rfl) ?_
    refine nk_ifne (tgt := 22) dX8_contains_14 (by decide) (fun h14 => ?_) (fun h14 => ?_)
    · skip
      try simp only [nk_b0, Int32.toInt_toInt64, Classical.not_not, nk_l0, nk_l1, nk_l2, nk_l60] at h14
      obtain ⟨j, hj, rfl⟩ := nk_getN h5
      obtain ⟨k, hk, rfl⟩ := nk_getN h14
      refine nk_aload_n (i := 0) dX8_contains_22 rfl rfl ?_
      refine nk_iconst (v := 0) dX8_contains_23 (by decide) ?_
      refine nk_iload_n (i := 1) dX8_contains_24 rfl rfl ?_
      refine nk_iload_n (i := 2) dX8_contains_25 rfl rfl ?_
      refine nk_cVi kX8_137 (s_X8_hasKey hi (base := 0) (s := j) (k := k) (by omega) (by omega)) dX8_contains_26 mh_0 rfl rfl (by decide) (Nat.le_of_ble_eq_true rfl) ?_
      refine nk_ifeq (tgt := 36) dX8_contains_29 (by decide) (fun h29 => ?_) (fun h29 => ?_)
      · skip
        try simp only [nk_b0, Int32.toInt_toInt64, Classical.not_not, nk_l0, nk_l1, nk_l2, nk_l60] at h29
        refine nk_iconst (v := 0) dX8_contains_36 (by decide) ?_
        refine nk_ireturn dX8_contains_37 rfl ?_
        first
        | exact ⟨by unfold sp_contains; rw [if_neg h5], rfl⟩
        | exact ⟨by unfold sp_contains; rw [if_pos h5, if_neg h14], rfl⟩
        | exact ⟨by unfold sp_contains; rw [if_pos h5, if_pos h14, sp_n_nI (by omega), sp_n_nI (by omega), if_pos h29], rfl⟩
        | exact ⟨by unfold sp_contains; rw [if_pos h5, if_pos h14, sp_n_nI (by omega), sp_n_nI (by omega), if_neg h29], rfl⟩
      · skip
        try simp only [nk_b0, Int32.toInt_toInt64, Classical.not_not, nk_l0, nk_l1, nk_l2, nk_l60] at h29
        refine nk_iconst (v := 1) dX8_contains_32 (by decide) ?_
        refine nk_goto (tgt := 37) dX8_contains_33 (by decide) ?_
        refine nk_ireturn dX8_contains_37 rfl ?_
        first
        | exact ⟨by unfold sp_contains; rw [if_neg h5], rfl⟩
        | exact ⟨by unfold sp_contains; rw [if_pos h5, if_neg h14], rfl⟩
        | exact ⟨by unfold sp_contains; rw [if_pos h5, if_pos h14, sp_n_nI (by omega), sp_n_nI (by omega), if_pos h29], rfl⟩
        | exact ⟨by unfold sp_contains; rw [if_pos h5, if_pos h14, sp_n_nI (by omega), sp_n_nI (by omega), if_neg h29], rfl⟩
    · skip
      try simp only [nk_b0, Int32.toInt_toInt64, Classical.not_not, nk_l0, nk_l1, nk_l2, nk_l60] at h14
      refine nk_ldc qX8_49 dX8_contains_17 ?_
      refine nk_goto (tgt := 37) dX8_contains_19 (by decide) ?_
      refine nk_ireturn dX8_contains_37 rfl ?_
      first
      | exact ⟨by unfold sp_contains; rw [if_neg h5], rfl⟩
      | exact ⟨by unfold sp_contains; rw [if_pos h5, if_neg h14], rfl⟩
      | exact ⟨by unfold sp_contains; rw [if_pos h5, if_pos h14, sp_n_nI (by omega), sp_n_nI (by omega), if_pos h29], rfl⟩
      | exact ⟨by unfold sp_contains; rw [if_pos h5, if_pos h14, sp_n_nI (by omega), sp_n_nI (by omega), if_neg h29], rfl⟩
set_option maxRecDepth 20000 in
theorem s_X8_keys {G : nk_EG} {ad : Nat → Nat} {A : Nat → Nat → Int32} {I : Nat → Int32} (hi : mInj ad) {m b : Nat} (hm : mSh (A 0) 0 m b) {s : Int32} : nk_Si G mX8_keys 3 [.ref (ad 0), .int s] (mh ad A I) (sp_keys m (nk_mem (A 0) 0) s) (mh ad A I) := by
  have h4 := hm.2.2.1
  have h10 := hm.2.2.2
  have ht := nk_tp_le h10
  refine nk_S.of (by decide +kernel) (Nat.le_of_ble_eq_true rfl) rfl ?_
  refine nk_aload_n (i := 0) dX8_keys_0 rfl rfl ?_
  refine nk_iload_n (i := 1) dX8_keys_1 rfl rfl ?_
  refine nk_cVi kX8_154 (s_X8_isSet hi hm.1 hm.2.2.1) dX8_keys_2 mh_0 rfl rfl (by decide) (Nat.le_of_ble_eq_true rfl) ?_
  refine nk_ifeq (tgt := 17) dX8_keys_5 (by decide) (fun h5 => ?_) (fun h5 => ?_)
  · skip
    try simp only [nk_b0, Int32.toInt_toInt64, Classical.not_not, nk_l0, nk_l1, nk_l2, nk_l60] at h5
    refine nk_ldc qX8_49 dX8_keys_17 ?_
    refine nk_ireturn dX8_keys_19 rfl ?_
    first
    | exact ⟨by unfold sp_keys; rw [if_neg h5], rfl⟩
    | exact ⟨by unfold sp_keys; rw [if_pos h5, sp_n_nI (by omega)], rfl⟩
  · skip
    try simp only [nk_b0, Int32.toInt_toInt64, Classical.not_not, nk_l0, nk_l1, nk_l2, nk_l60] at h5
    obtain ⟨j, hj, rfl⟩ := nk_getN h5
    refine nk_aload_n (i := 0) dX8_keys_8 rfl rfl ?_
    refine nk_iconst (v := 0) dX8_keys_9 (by decide) ?_
    refine nk_iload_n (i := 1) dX8_keys_10 rfl rfl ?_
    refine nk_cVi kX8_168 (s_X8_keysOf hi (base := 0) (s := j) (by omega)) dX8_keys_11 mh_0 rfl rfl (by decide) (Nat.le_of_ble_eq_true rfl) ?_
    refine nk_goto (tgt := 19) dX8_keys_14 (by decide) ?_
    refine nk_ireturn dX8_keys_19 rfl ?_
    first
    | exact ⟨by unfold sp_keys; rw [if_neg h5], rfl⟩
    | exact ⟨by unfold sp_keys; rw [if_pos h5, sp_n_nI (by omega)], rfl⟩
set_option maxRecDepth 20000 in
theorem s_X8_end {G : nk_EG} {ad : Nat → Nat} {A : Nat → Nat → Int32} {I : Nat → Int32} (hi : mInj ad) {m b : Nat} (hm : mSh (A 0) 0 m b) {s x : Int32} : nk_Si G mX8_end 5 [.ref (ad 0), .int s, .int x] (mh ad A I) (sp_end m b (nk_mem (A 0) 0) s x) (mh ad A I) := by
  have h4 := hm.2.2.1
  have h10 := hm.2.2.2
  have ht := nk_tp_le h10
  refine nk_S.of (by decide +kernel) (Nat.le_of_ble_eq_true rfl) rfl ?_
  refine nk_aload_n (i := 0) dX8_end_0 rfl rfl ?_
  refine nk_iload_n (i := 1) dX8_end_1 rfl rfl ?_
  refine nk_cVi kX8_154 (s_X8_isSet hi hm.1 hm.2.2.1) dX8_end_2 mh_0 rfl rfl (by decide) (Nat.le_of_ble_eq_true rfl) ?_
  refine nk_ifeq (tgt := 18) dX8_end_5 (by decide) (fun h5 => ?_) (fun h5 => ?_)
  · skip
    try simp only [nk_b0, Int32.toInt_toInt64, Classical.not_not, nk_l0, nk_l1, nk_l2, nk_l60] at h5
    refine nk_ldc qX8_49 dX8_end_18 ?_
    refine nk_goto (tgt := 40) dX8_end_20 (by decide) ?_
    refine nk_ireturn dX8_end_40 rfl ?_
    first
    | exact ⟨by unfold sp_end; rw [if_neg h5], rfl⟩
    | exact ⟨by unfold sp_end; rw [if_pos h5, if_neg h15], rfl⟩
    | exact ⟨by unfold sp_end; rw [if_pos h5, if_pos h15, sp_n_nI (by omega), if_pos h24], rfl⟩
    | exact ⟨by unfold sp_end; rw [if_pos h5, if_pos h15, sp_n_nI (by omega), if_neg h24], rfl⟩
  · skip
    try simp only [nk_b0, Int32.toInt_toInt64, Classical.not_not, nk_l0, nk_l1, nk_l2, nk_l60] at h5
    refine nk_iload_n (i := 2) dX8_end_8 rfl rfl ?_
    refine nk_i2l dX8_end_9 ?_
    refine nk_lconst (v := 0) dX8_end_10 rfl ?_
    refine nk_lconst (v := 1) dX8_end_11 rfl ?_
    refine nk_cSi kX8_39 (s_X8_in) dX8_end_12 rfl rfl (by decide) (Nat.le_of_ble_eq_true rfl) ?_
    refine nk_ifne (tgt := 23) dX8_end_15 (by decide) (fun h15 => ?_) (fun h15 => ?_)
    · skip
      try simp only [nk_b0, Int32.toInt_toInt64, Classical.not_not, nk_l0, nk_l1, nk_l2, nk_l60] at h15
      obtain ⟨j, hj, rfl⟩ := nk_getN h5
      refine nk_iload_n (i := 2) dX8_end_23 rfl rfl ?_
      refine nk_ifne (tgt := 35) dX8_end_24 (by decide) (fun h24 => ?_) (fun h24 => ?_)
      · skip
        try simp only [nk_b0, Int32.toInt_toInt64, Classical.not_not, nk_l0, nk_l1, nk_l2, nk_l60] at h24
        refine nk_aload_n (i := 0) dX8_end_35 rfl rfl ?_
        refine nk_iload_n (i := 1) dX8_end_36 rfl rfl ?_
        refine nk_cVi kX8_150 (s_X8_greatestOf hi hm (by have := hm.2.2.1; omega)) dX8_end_37 mh_0 rfl rfl (by decide) (Nat.le_of_ble_eq_true rfl) ?_
        refine nk_ireturn dX8_end_40 rfl ?_
        first
        | exact ⟨by unfold sp_end; rw [if_neg h5], rfl⟩
        | exact ⟨by unfold sp_end; rw [if_pos h5, if_neg h15], rfl⟩
        | exact ⟨by unfold sp_end; rw [if_pos h5, if_pos h15, sp_n_nI (by omega), if_pos h24], rfl⟩
        | exact ⟨by unfold sp_end; rw [if_pos h5, if_pos h15, sp_n_nI (by omega), if_neg h24], rfl⟩
      · skip
        try simp only [nk_b0, Int32.toInt_toInt64, Classical.not_not, nk_l0, nk_l1, nk_l2, nk_l60] at h24
        refine nk_aload_n (i := 0) dX8_end_27 rfl rfl ?_
        refine nk_iload_n (i := 1) dX8_end_28 rfl rfl ?_
        refine nk_cVi kX8_147 (s_X8_leastOf hi hm (by have := hm.2.2.1; omega)) dX8_end_29 mh_0 rfl rfl (by decide) (Nat.le_of_ble_eq_true rfl) ?_
        refine nk_goto (tgt := 40) dX8_end_32 (by decide) ?_
        refine nk_ireturn dX8_end_40 rfl ?_
        first
        | exact ⟨by unfold sp_end; rw [if_neg h5], rfl⟩
        | exact ⟨by unfold sp_end; rw [if_pos h5, if_neg h15], rfl⟩
        | exact ⟨by unfold sp_end; rw [if_pos h5, if_pos h15, sp_n_nI (by omega), if_pos h24], rfl⟩
        | exact ⟨by unfold sp_end; rw [if_pos h5, if_pos h15, sp_n_nI (by omega), if_neg h24], rfl⟩
    · skip
      try simp only [nk_b0, Int32.toInt_toInt64, Classical.not_not, nk_l0, nk_l1, nk_l2, nk_l60] at h15
      refine nk_ldc qX8_49 dX8_end_18 ?_
      refine nk_goto (tgt := 40) dX8_end_20 (by decide) ?_
      refine nk_ireturn dX8_end_40 rfl ?_
      first
      | exact ⟨by unfold sp_end; rw [if_neg h5], rfl⟩
      | exact ⟨by unfold sp_end; rw [if_pos h5, if_neg h15], rfl⟩
      | exact ⟨by unfold sp_end; rw [if_pos h5, if_pos h15, sp_n_nI (by omega), if_pos h24], rfl⟩
      | exact ⟨by unfold sp_end; rw [if_pos h5, if_pos h15, sp_n_nI (by omega), if_neg h24], rfl⟩
set_option maxRecDepth 20000 in
theorem s_X8_nextOf {G : nk_EG} {ad : Nat → Nat} {A : Nat → Nat → Int32} {I : Nat → Int32} (hi : mInj ad) {m b s k : Nat} (hm : mSh (A 0) 0 m b) (hs : s < 4) (hk : k < nk_tp b) : nk_Si G mX8_nextOf 5 [.ref (ad 0), .int (nI s), .int (nI k)] (mh ad A I) (nk_rN (sp_nx (nk_mem (A 0) 0 s) (nk_tp b) (A 0 (2 + s)) k)) (mh ad A I) := by
  have h4 := hm.2.2.1
  have h10 := hm.2.2.2
  have ht := nk_tp_le h10
  refine nk_S.of (by decide +kernel) (Nat.le_of_ble_eq_true rfl) rfl ?_
  refine nk_aload_n (i := 0) dX8_nextOf_0 rfl rfl ?_
  refine nk_iload_n (i := 1) dX8_nextOf_1 rfl rfl ?_
  refine nk_iload_n (i := 2) dX8_nextOf_2 rfl rfl ?_
  refine nk_cVi kX8_141 (s_X8_above hi hm hs (a := k + 1) (nI_1 k) (by omega)) dX8_nextOf_3 mh_0 rfl rfl (by decide) (Nat.le_of_ble_eq_true rfl) ?_
  refine nk_istore_nT (i := 3) dX8_nextOf_6 rfl (by decide) ?_
  refine nk_aload_n (i := 0) dX8_nextOf_7 rfl rfl ?_
  refine nk_iload_n (i := 1) dX8_nextOf_8 rfl rfl ?_
  refine nk_iload_n (i := 2) dX8_nextOf_9 rfl rfl ?_
  refine nk_cVi kX8_144 (s_X8_below hi hm hs (a := k) (by omega)) dX8_nextOf_10 mh_0 rfl rfl (by decide) (Nat.le_of_ble_eq_true rfl) ?_
  refine nk_istoreT dX8_nextOf_13 (by decide) ?_
  refine nk_aload_n (i := 0) dX8_nextOf_15 rfl rfl ?_
  refine nk_getf fX8_7 dX8_nextOf_16 mh_0 rfl ?_
  refine nk_iconst (v := 2) dX8_nextOf_19 (by decide) ?_
  refine nk_iload_n (i := 1) dX8_nextOf_20 rfl rfl ?_
  refine nk_iadd dX8_nextOf_21 ?_
  refine nk_ialdN (j := 2 + s) dX8_nextOf_22 (mh_1 hi) (nI_add 2 s) (by omega) (by decide) ?_
  by_cases c23_2 : A 0 (2 + s) = 2
  · skip
    refine nk_top (y := 2) c23_2 ?_
    refine nk_tableIn (tgt := 52) (off := 29) dX8_nextOf_23 (by decide) (by decide) (by decide) (by decide) ?_
    refine nk_iload_n (i := 3) dX8_nextOf_52 rfl rfl ?_
    refine nk_ldc qX8_140 dX8_nextOf_53 ?_
    refine nk_icmpne (tgt := 66) dX8_nextOf_55 (by decide) (fun h55 => ?_) (fun h55 => ?_)
    · skip
      rw [nk_rN_none (nk_up_b (by omega))] at h55
      refine nk_iload_n (i := 3) dX8_nextOf_66 rfl rfl ?_
      refine nk_ireturn dX8_nextOf_67 rfl ?_
      first
      | exact ⟨by unfold sp_nx; rw [if_pos c23_2, sp_abv, if_pos h55], rfl⟩
      | exact ⟨by unfold sp_nx; rw [if_pos c23_2, sp_abv, if_neg h55], rfl⟩
      | exact ⟨by unfold sp_nx; rw [if_neg c23_2, if_pos c23_3, if_neg h75, sp_abv], rfl⟩
      | exact ⟨by unfold sp_nx; rw [if_neg c23_2, if_pos c23_3, if_pos (Classical.not_not.mp h75)]; rfl, rfl⟩
      | exact ⟨by unfold sp_nx; rw [if_neg c23_2, if_neg c23_3, if_pos c23_4], rfl⟩
      | exact ⟨by unfold sp_nx; rw [if_neg c23_2, if_neg c23_3, if_neg c23_4, if_pos c23_5, if_pos h91], rfl⟩
      | exact ⟨by unfold sp_nx; rw [if_neg c23_2, if_neg c23_3, if_neg c23_4, if_pos c23_5, if_neg h91], rfl⟩
      | exact ⟨by unfold sp_nx; rw [if_neg c23_2, if_neg c23_3, if_neg c23_4, if_neg c23_5, sp_abv], rfl⟩
    · skip
      rw [nk_rN_none (nk_up_b (by omega))] at h55
      refine nk_aload_n (i := 0) dX8_nextOf_58 rfl rfl ?_
      refine nk_iload_n (i := 1) dX8_nextOf_59 rfl rfl ?_
      refine nk_cVi kX8_147 (s_X8_leastOf hi hm hs) dX8_nextOf_60 mh_0 rfl rfl (by decide) (Nat.le_of_ble_eq_true rfl) ?_
      refine nk_goto (tgt := 67) dX8_nextOf_63 (by decide) ?_
      refine nk_ireturn dX8_nextOf_67 rfl ?_
      first
      | exact ⟨by unfold sp_nx; rw [if_pos c23_2, sp_abv, if_pos h55], rfl⟩
      | exact ⟨by unfold sp_nx; rw [if_pos c23_2, sp_abv, if_neg h55], rfl⟩
      | exact ⟨by unfold sp_nx; rw [if_neg c23_2, if_pos c23_3, if_neg h75, sp_abv], rfl⟩
      | exact ⟨by unfold sp_nx; rw [if_neg c23_2, if_pos c23_3, if_pos (Classical.not_not.mp h75)]; rfl, rfl⟩
      | exact ⟨by unfold sp_nx; rw [if_neg c23_2, if_neg c23_3, if_pos c23_4], rfl⟩
      | exact ⟨by unfold sp_nx; rw [if_neg c23_2, if_neg c23_3, if_neg c23_4, if_pos c23_5, if_pos h91], rfl⟩
      | exact ⟨by unfold sp_nx; rw [if_neg c23_2, if_neg c23_3, if_neg c23_4, if_pos c23_5, if_neg h91], rfl⟩
      | exact ⟨by unfold sp_nx; rw [if_neg c23_2, if_neg c23_3, if_neg c23_4, if_neg c23_5, sp_abv], rfl⟩
  by_cases c23_3 : A 0 (2 + s) = 3
  · skip
    refine nk_top (y := 3) c23_3 ?_
    refine nk_tableIn (tgt := 68) (off := 45) dX8_nextOf_23 (by decide) (by decide) (by decide) (by decide) ?_
    refine nk_aload_n (i := 0) dX8_nextOf_68 rfl rfl ?_
    refine nk_iconst (v := 0) dX8_nextOf_69 (by decide) ?_
    refine nk_iload_n (i := 1) dX8_nextOf_70 rfl rfl ?_
    refine nk_iload_n (i := 2) dX8_nextOf_71 rfl rfl ?_
    refine nk_cVi kX8_137 (s_X8_hasKey hi (base := 0) (s := s) (k := k) (by omega) (by omega)) dX8_nextOf_72 mh_0 rfl rfl (by decide) (Nat.le_of_ble_eq_true rfl) ?_
    refine nk_ifeq (tgt := 82) dX8_nextOf_75 (by decide) (fun h75 => ?_) (fun h75 => ?_)
    · skip
      rw [nk_b0] at h75
      refine nk_iload_n (i := 3) dX8_nextOf_82 rfl rfl ?_
      refine nk_ireturn dX8_nextOf_83 rfl ?_
      first
      | exact ⟨by unfold sp_nx; rw [if_pos c23_2, sp_abv, if_pos h55], rfl⟩
      | exact ⟨by unfold sp_nx; rw [if_pos c23_2, sp_abv, if_neg h55], rfl⟩
      | exact ⟨by unfold sp_nx; rw [if_neg c23_2, if_pos c23_3, if_neg h75, sp_abv], rfl⟩
      | exact ⟨by unfold sp_nx; rw [if_neg c23_2, if_pos c23_3, if_pos (Classical.not_not.mp h75)]; rfl, rfl⟩
      | exact ⟨by unfold sp_nx; rw [if_neg c23_2, if_neg c23_3, if_pos c23_4], rfl⟩
      | exact ⟨by unfold sp_nx; rw [if_neg c23_2, if_neg c23_3, if_neg c23_4, if_pos c23_5, if_pos h91], rfl⟩
      | exact ⟨by unfold sp_nx; rw [if_neg c23_2, if_neg c23_3, if_neg c23_4, if_pos c23_5, if_neg h91], rfl⟩
      | exact ⟨by unfold sp_nx; rw [if_neg c23_2, if_neg c23_3, if_neg c23_4, if_neg c23_5, sp_abv], rfl⟩
    · skip
      rw [nk_b0] at h75
      refine nk_iload_n (i := 2) dX8_nextOf_78 rfl rfl ?_
      refine nk_goto (tgt := 83) dX8_nextOf_79 (by decide) ?_
      refine nk_ireturn dX8_nextOf_83 rfl ?_
      first
      | exact ⟨by unfold sp_nx; rw [if_pos c23_2, sp_abv, if_pos h55], rfl⟩
      | exact ⟨by unfold sp_nx; rw [if_pos c23_2, sp_abv, if_neg h55], rfl⟩
      | exact ⟨by unfold sp_nx; rw [if_neg c23_2, if_pos c23_3, if_neg h75, sp_abv], rfl⟩
      | exact ⟨by unfold sp_nx; rw [if_neg c23_2, if_pos c23_3, if_pos (Classical.not_not.mp h75)]; rfl, rfl⟩
      | exact ⟨by unfold sp_nx; rw [if_neg c23_2, if_neg c23_3, if_pos c23_4], rfl⟩
      | exact ⟨by unfold sp_nx; rw [if_neg c23_2, if_neg c23_3, if_neg c23_4, if_pos c23_5, if_pos h91], rfl⟩
      | exact ⟨by unfold sp_nx; rw [if_neg c23_2, if_neg c23_3, if_neg c23_4, if_pos c23_5, if_neg h91], rfl⟩
      | exact ⟨by unfold sp_nx; rw [if_neg c23_2, if_neg c23_3, if_neg c23_4, if_neg c23_5, sp_abv], rfl⟩
  by_cases c23_4 : A 0 (2 + s) = 4
  · skip
    refine nk_top (y := 4) c23_4 ?_
    refine nk_tableIn (tgt := 84) (off := 61) dX8_nextOf_23 (by decide) (by decide) (by decide) (by decide) ?_
    refine nk_iload dX8_nextOf_84 rfl ?_
    refine nk_ireturn dX8_nextOf_86 rfl ?_
    first
    | exact ⟨by unfold sp_nx; rw [if_pos c23_2, sp_abv, if_pos h55], rfl⟩
    | exact ⟨by unfold sp_nx; rw [if_pos c23_2, sp_abv, if_neg h55], rfl⟩
    | exact ⟨by unfold sp_nx; rw [if_neg c23_2, if_pos c23_3, if_neg h75, sp_abv], rfl⟩
    | exact ⟨by unfold sp_nx; rw [if_neg c23_2, if_pos c23_3, if_pos (Classical.not_not.mp h75)]; rfl, rfl⟩
    | exact ⟨by unfold sp_nx; rw [if_neg c23_2, if_neg c23_3, if_pos c23_4], rfl⟩
    | exact ⟨by unfold sp_nx; rw [if_neg c23_2, if_neg c23_3, if_neg c23_4, if_pos c23_5, if_pos h91], rfl⟩
    | exact ⟨by unfold sp_nx; rw [if_neg c23_2, if_neg c23_3, if_neg c23_4, if_pos c23_5, if_neg h91], rfl⟩
    | exact ⟨by unfold sp_nx; rw [if_neg c23_2, if_neg c23_3, if_neg c23_4, if_neg c23_5, sp_abv], rfl⟩
  by_cases c23_5 : A 0 (2 + s) = 5
  · skip
    refine nk_top (y := 5) c23_5 ?_
    refine nk_tableIn (tgt := 87) (off := 64) dX8_nextOf_23 (by decide) (by decide) (by decide) (by decide) ?_
    refine nk_iload dX8_nextOf_87 rfl ?_
    refine nk_ldc qX8_140 dX8_nextOf_89 ?_
    refine nk_icmpne (tgt := 102) dX8_nextOf_91 (by decide) (fun h91 => ?_) (fun h91 => ?_)
    · skip
      rw [nk_rN_none (nk_dn_b (by omega))] at h91
      refine nk_iload dX8_nextOf_102 rfl ?_
      refine nk_ireturn dX8_nextOf_104 rfl ?_
      first
      | exact ⟨by unfold sp_nx; rw [if_pos c23_2, sp_abv, if_pos h55], rfl⟩
      | exact ⟨by unfold sp_nx; rw [if_pos c23_2, sp_abv, if_neg h55], rfl⟩
      | exact ⟨by unfold sp_nx; rw [if_neg c23_2, if_pos c23_3, if_neg h75, sp_abv], rfl⟩
      | exact ⟨by unfold sp_nx; rw [if_neg c23_2, if_pos c23_3, if_pos (Classical.not_not.mp h75)]; rfl, rfl⟩
      | exact ⟨by unfold sp_nx; rw [if_neg c23_2, if_neg c23_3, if_pos c23_4], rfl⟩
      | exact ⟨by unfold sp_nx; rw [if_neg c23_2, if_neg c23_3, if_neg c23_4, if_pos c23_5, if_pos h91], rfl⟩
      | exact ⟨by unfold sp_nx; rw [if_neg c23_2, if_neg c23_3, if_neg c23_4, if_pos c23_5, if_neg h91], rfl⟩
      | exact ⟨by unfold sp_nx; rw [if_neg c23_2, if_neg c23_3, if_neg c23_4, if_neg c23_5, sp_abv], rfl⟩
    · skip
      rw [nk_rN_none (nk_dn_b (by omega))] at h91
      refine nk_aload_n (i := 0) dX8_nextOf_94 rfl rfl ?_
      refine nk_iload_n (i := 1) dX8_nextOf_95 rfl rfl ?_
      refine nk_cVi kX8_150 (s_X8_greatestOf hi hm hs) dX8_nextOf_96 mh_0 rfl rfl (by decide) (Nat.le_of_ble_eq_true rfl) ?_
      refine nk_goto (tgt := 104) dX8_nextOf_99 (by decide) ?_
      refine nk_ireturn dX8_nextOf_104 rfl ?_
      first
      | exact ⟨by unfold sp_nx; rw [if_pos c23_2, sp_abv, if_pos h55], rfl⟩
      | exact ⟨by unfold sp_nx; rw [if_pos c23_2, sp_abv, if_neg h55], rfl⟩
      | exact ⟨by unfold sp_nx; rw [if_neg c23_2, if_pos c23_3, if_neg h75, sp_abv], rfl⟩
      | exact ⟨by unfold sp_nx; rw [if_neg c23_2, if_pos c23_3, if_pos (Classical.not_not.mp h75)]; rfl, rfl⟩
      | exact ⟨by unfold sp_nx; rw [if_neg c23_2, if_neg c23_3, if_pos c23_4], rfl⟩
      | exact ⟨by unfold sp_nx; rw [if_neg c23_2, if_neg c23_3, if_neg c23_4, if_pos c23_5, if_pos h91], rfl⟩
      | exact ⟨by unfold sp_nx; rw [if_neg c23_2, if_neg c23_3, if_neg c23_4, if_pos c23_5, if_neg h91], rfl⟩
      | exact ⟨by unfold sp_nx; rw [if_neg c23_2, if_neg c23_3, if_neg c23_4, if_neg c23_5, sp_abv], rfl⟩
  have e23_2 : (A 0 (2 + s)).toInt ≠ 2 := nk_neI c23_2
  have e23_3 : (A 0 (2 + s)).toInt ≠ 3 := nk_neI c23_3
  have e23_4 : (A 0 (2 + s)).toInt ≠ 4 := nk_neI c23_4
  have e23_5 : (A 0 (2 + s)).toInt ≠ 5 := nk_neI c23_5
  refine nk_tableOut (tgt := 105) dX8_nextOf_23 (by omega) (by decide) ?_
  refine nk_iload_n (i := 3) dX8_nextOf_105 rfl rfl ?_
  refine nk_ireturn dX8_nextOf_106 rfl ?_
  first
  | exact ⟨by unfold sp_nx; rw [if_pos c23_2, sp_abv, if_pos h55], rfl⟩
  | exact ⟨by unfold sp_nx; rw [if_pos c23_2, sp_abv, if_neg h55], rfl⟩
  | exact ⟨by unfold sp_nx; rw [if_neg c23_2, if_pos c23_3, if_neg h75, sp_abv], rfl⟩
  | exact ⟨by unfold sp_nx; rw [if_neg c23_2, if_pos c23_3, if_pos (Classical.not_not.mp h75)]; rfl, rfl⟩
  | exact ⟨by unfold sp_nx; rw [if_neg c23_2, if_neg c23_3, if_pos c23_4], rfl⟩
  | exact ⟨by unfold sp_nx; rw [if_neg c23_2, if_neg c23_3, if_neg c23_4, if_pos c23_5, if_pos h91], rfl⟩
  | exact ⟨by unfold sp_nx; rw [if_neg c23_2, if_neg c23_3, if_neg c23_4, if_pos c23_5, if_neg h91], rfl⟩
  | exact ⟨by unfold sp_nx; rw [if_neg c23_2, if_neg c23_3, if_neg c23_4, if_neg c23_5, sp_abv], rfl⟩
set_option maxRecDepth 20000 in
theorem s_X8_next {G : nk_EG} {ad : Nat → Nat} {A : Nat → Nat → Int32} {I : Nat → Int32} (hi : mInj ad) {m b : Nat} (hm : mSh (A 0) 0 m b) {s k : Int32} : nk_Si G mX8_next 6 [.ref (ad 0), .int s, .int k] (mh ad A I) (sp_next m b (nk_mem (A 0) 0) (fun j => A 0 (2 + j)) s k) (mh ad A I) := by
  have h4 := hm.2.2.1
  have h10 := hm.2.2.2
  have ht := nk_tp_le h10
  refine nk_S.of (by decide +kernel) (Nat.le_of_ble_eq_true rfl) rfl ?_
  refine nk_aload_n (i := 0) dX8_next_0 rfl rfl ?_
  refine nk_iload_n (i := 1) dX8_next_1 rfl rfl ?_
  refine nk_cVi kX8_154 (s_X8_isSet hi hm.1 hm.2.2.1) dX8_next_2 mh_0 rfl rfl (by decide) (Nat.le_of_ble_eq_true rfl) ?_
  refine nk_ifeq (tgt := 26) dX8_next_5 (by decide) (fun h5 => ?_) (fun h5 => ?_)
  · skip
    try simp only [nk_b0, Int32.toInt_toInt64, Classical.not_not, nk_l0, nk_l1, nk_l2, nk_l60] at h5
    refine nk_ldc qX8_49 dX8_next_26 ?_
    refine nk_ireturn dX8_next_28 rfl ?_
    first
    | exact ⟨by unfold sp_next; rw [if_neg h5], rfl⟩
    | exact ⟨by unfold sp_next; rw [if_pos h5, if_neg h14], rfl⟩
    | exact ⟨by unfold sp_next; rw [if_pos h5, if_pos h14, sp_n_nI (by omega), sp_n_nI (by omega)], rfl⟩
  · skip
    try simp only [nk_b0, Int32.toInt_toInt64, Classical.not_not, nk_l0, nk_l1, nk_l2, nk_l60] at h5
    refine nk_aload_n (i := 0) dX8_next_8 rfl rfl ?_
    refine nk_iload_n (i := 2) dX8_next_9 rfl rfl ?_
    refine nk_i2l dX8_next_10 ?_
    refine nk_cVi kX8_157 (s_X8_isKey hi hm.2.1 hm.2.2.2) dX8_next_11 mh_0 rfl rfl (by decide) (Nat.le_of_ble_eq_true rfl) ?_
    refine nk_ifeq (tgt := 26) dX8_next_14 (by decide) (fun h14 => ?_) (fun h14 => ?_)
    · skip
      try simp only [nk_b0, Int32.toInt_toInt64, Classical.not_not, nk_l0, nk_l1, nk_l2, nk_l60] at h14
      refine nk_ldc qX8_49 dX8_next_26 ?_
      refine nk_ireturn dX8_next_28 rfl ?_
      first
      | exact ⟨by unfold sp_next; rw [if_neg h5], rfl⟩
      | exact ⟨by unfold sp_next; rw [if_pos h5, if_neg h14], rfl⟩
      | exact ⟨by unfold sp_next; rw [if_pos h5, if_pos h14, sp_n_nI (by omega), sp_n_nI (by omega)], rfl⟩
    · skip
      try simp only [nk_b0, Int32.toInt_toInt64, Classical.not_not, nk_l0, nk_l1, nk_l2, nk_l60] at h14
      obtain ⟨j, hj, rfl⟩ := nk_getN h5
      obtain ⟨k, hk, rfl⟩ := nk_getN h14
      refine nk_aload_n (i := 0) dX8_next_17 rfl rfl ?_
      refine nk_iload_n (i := 1) dX8_next_18 rfl rfl ?_
      refine nk_iload_n (i := 2) dX8_next_19 rfl rfl ?_
      refine nk_cVi kX8_183 (s_X8_nextOf hi hm (by omega) (by omega)) dX8_next_20 mh_0 rfl rfl (by decide) (Nat.le_of_ble_eq_true rfl) ?_
      refine nk_goto (tgt := 28) dX8_next_23 (by decide) ?_
      refine nk_ireturn dX8_next_28 rfl ?_
      first
      | exact ⟨by unfold sp_next; rw [if_neg h5], rfl⟩
      | exact ⟨by unfold sp_next; rw [if_pos h5, if_neg h14], rfl⟩
      | exact ⟨by unfold sp_next; rw [if_pos h5, if_pos h14, sp_n_nI (by omega), sp_n_nI (by omega)], rfl⟩
set_option maxRecDepth 20000 in
theorem s_X8_beside {G : nk_EG} {ad : Nat → Nat} {A : Nat → Nat → Int32} {I : Nat → Int32} (hi : mInj ad) {m b : Nat} (hm : mSh (A 0) 0 m b) {s k x : Int32} : nk_Si G mX8_beside 4 [.ref (ad 0), .int s, .int k, .int x] (mh ad A I) (sp_beside m b (nk_mem (A 0) 0) s k x) (mh ad A I) := by
  have h4 := hm.2.2.1
  have h10 := hm.2.2.2
  have ht := nk_tp_le h10
  refine nk_S.of (by decide +kernel) (Nat.le_of_ble_eq_true rfl) rfl ?_
  refine nk_aload_n (i := 0) dX8_beside_0 rfl rfl ?_
  refine nk_iload_n (i := 1) dX8_beside_1 rfl rfl ?_
  refine nk_cVi kX8_154 (s_X8_isSet hi hm.1 hm.2.2.1) dX8_beside_2 mh_0 rfl rfl (by decide) (Nat.le_of_ble_eq_true rfl) ?_
  refine nk_ifeq (tgt := 27) dX8_beside_5 (by decide) (fun h5 => ?_) (fun h5 => ?_)
  · skip
    try simp only [nk_b0, Int32.toInt_toInt64, Classical.not_not, nk_l0, nk_l1, nk_l2, nk_l60] at h5
    refine nk_ldc qX8_49 dX8_beside_27 ?_
    refine nk_goto (tgt := 51) dX8_beside_29 (by decide) ?_
    refine nk_ireturn dX8_beside_51 rfl ?_
    first
    | exact ⟨by unfold sp_beside; rw [if_neg h5], rfl⟩
    | exact ⟨by unfold sp_beside; rw [if_pos h5, if_neg h14], rfl⟩
    | exact ⟨by unfold sp_beside; rw [if_pos h5, if_pos h14, if_neg h24], rfl⟩
    | exact ⟨by unfold sp_beside; rw [if_pos h5, if_pos h14, if_pos h24, sp_n_nI (by omega), sp_n_nI (by omega), if_pos h33]; rfl, rfl⟩
    | exact ⟨by unfold sp_beside; rw [if_pos h5, if_pos h14, if_pos h24, sp_n_nI (by omega), sp_n_nI (by omega), if_neg h33], rfl⟩
  · skip
    try simp only [nk_b0, Int32.toInt_toInt64, Classical.not_not, nk_l0, nk_l1, nk_l2, nk_l60] at h5
    refine nk_aload_n (i := 0) dX8_beside_8 rfl rfl ?_
    refine nk_iload_n (i := 2) dX8_beside_9 rfl rfl ?_
    refine nk_i2l dX8_beside_10 ?_
    refine nk_cVi kX8_157 (s_X8_isKey hi hm.2.1 hm.2.2.2) dX8_beside_11 mh_0 rfl rfl (by decide) (Nat.le_of_ble_eq_true rfl) ?_
    refine nk_ifeq (tgt := 27) dX8_beside_14 (by decide) (fun h14 => ?_) (fun h14 => ?_)
    · skip
      try simp only [nk_b0, Int32.toInt_toInt64, Classical.not_not, nk_l0, nk_l1, nk_l2, nk_l60] at h14
      refine nk_ldc qX8_49 dX8_beside_27 ?_
      refine nk_goto (tgt := 51) dX8_beside_29 (by decide) ?_
      refine nk_ireturn dX8_beside_51 rfl ?_
      first
      | exact ⟨by unfold sp_beside; rw [if_neg h5], rfl⟩
      | exact ⟨by unfold sp_beside; rw [if_pos h5, if_neg h14], rfl⟩
      | exact ⟨by unfold sp_beside; rw [if_pos h5, if_pos h14, if_neg h24], rfl⟩
      | exact ⟨by unfold sp_beside; rw [if_pos h5, if_pos h14, if_pos h24, sp_n_nI (by omega), sp_n_nI (by omega), if_pos h33]; rfl, rfl⟩
      | exact ⟨by unfold sp_beside; rw [if_pos h5, if_pos h14, if_pos h24, sp_n_nI (by omega), sp_n_nI (by omega), if_neg h33], rfl⟩
    · skip
      try simp only [nk_b0, Int32.toInt_toInt64, Classical.not_not, nk_l0, nk_l1, nk_l2, nk_l60] at h14
      refine nk_iload_n (i := 3) dX8_beside_17 rfl rfl ?_
      refine nk_i2l dX8_beside_18 ?_
      refine nk_lconst (v := 0) dX8_beside_19 rfl ?_
      refine nk_lconst (v := 1) dX8_beside_20 rfl ?_
      refine nk_cSi kX8_39 (s_X8_in) dX8_beside_21 rfl rfl (by decide) (Nat.le_of_ble_eq_true rfl) ?_
      refine nk_ifne (tgt := 32) dX8_beside_24 (by decide) (fun h24 => ?_) (fun h24 => ?_)
      · skip
        try simp only [nk_b0, Int32.toInt_toInt64, Classical.not_not, nk_l0, nk_l1, nk_l2, nk_l60] at h24
        obtain ⟨j, hj, rfl⟩ := nk_getN h5
        obtain ⟨k, hk, rfl⟩ := nk_getN h14
        refine nk_iload_n (i := 3) dX8_beside_32 rfl rfl ?_
        refine nk_ifne (tgt := 45) dX8_beside_33 (by decide) (fun h33 => ?_) (fun h33 => ?_)
        · skip
          try simp only [nk_b0, Int32.toInt_toInt64, Classical.not_not, nk_l0, nk_l1, nk_l2, nk_l60] at h33
          refine nk_aload_n (i := 0) dX8_beside_45 rfl rfl ?_
          refine nk_iload_n (i := 1) dX8_beside_46 rfl rfl ?_
          refine nk_iload_n (i := 2) dX8_beside_47 rfl rfl ?_
          refine nk_cVi kX8_144 (s_X8_below hi hm (by omega) (a := k) (by omega)) dX8_beside_48 mh_0 rfl rfl (by decide) (Nat.le_of_ble_eq_true rfl) ?_
          refine nk_ireturn dX8_beside_51 rfl ?_
          first
          | exact ⟨by unfold sp_beside; rw [if_neg h5], rfl⟩
          | exact ⟨by unfold sp_beside; rw [if_pos h5, if_neg h14], rfl⟩
          | exact ⟨by unfold sp_beside; rw [if_pos h5, if_pos h14, if_neg h24], rfl⟩
          | exact ⟨by unfold sp_beside; rw [if_pos h5, if_pos h14, if_pos h24, sp_n_nI (by omega), sp_n_nI (by omega), if_pos h33]; rfl, rfl⟩
          | exact ⟨by unfold sp_beside; rw [if_pos h5, if_pos h14, if_pos h24, sp_n_nI (by omega), sp_n_nI (by omega), if_neg h33], rfl⟩
        · skip
          try simp only [nk_b0, Int32.toInt_toInt64, Classical.not_not, nk_l0, nk_l1, nk_l2, nk_l60] at h33
          refine nk_aload_n (i := 0) dX8_beside_36 rfl rfl ?_
          refine nk_iload_n (i := 1) dX8_beside_37 rfl rfl ?_
          refine nk_iload_n (i := 2) dX8_beside_38 rfl rfl ?_
          refine nk_cVi kX8_141 (s_X8_above hi hm (by omega) (a := k + 1) (nI_1 k) (by omega)) dX8_beside_39 mh_0 rfl rfl (by decide) (Nat.le_of_ble_eq_true rfl) ?_
          refine nk_goto (tgt := 51) dX8_beside_42 (by decide) ?_
          refine nk_ireturn dX8_beside_51 rfl ?_
          first
          | exact ⟨by unfold sp_beside; rw [if_neg h5], rfl⟩
          | exact ⟨by unfold sp_beside; rw [if_pos h5, if_neg h14], rfl⟩
          | exact ⟨by unfold sp_beside; rw [if_pos h5, if_pos h14, if_neg h24], rfl⟩
          | exact ⟨by unfold sp_beside; rw [if_pos h5, if_pos h14, if_pos h24, sp_n_nI (by omega), sp_n_nI (by omega), if_pos h33]; rfl, rfl⟩
          | exact ⟨by unfold sp_beside; rw [if_pos h5, if_pos h14, if_pos h24, sp_n_nI (by omega), sp_n_nI (by omega), if_neg h33], rfl⟩
      · skip
        try simp only [nk_b0, Int32.toInt_toInt64, Classical.not_not, nk_l0, nk_l1, nk_l2, nk_l60] at h24
        refine nk_ldc qX8_49 dX8_beside_27 ?_
        refine nk_goto (tgt := 51) dX8_beside_29 (by decide) ?_
        refine nk_ireturn dX8_beside_51 rfl ?_
        first
        | exact ⟨by unfold sp_beside; rw [if_neg h5], rfl⟩
        | exact ⟨by unfold sp_beside; rw [if_pos h5, if_neg h14], rfl⟩
        | exact ⟨by unfold sp_beside; rw [if_pos h5, if_pos h14, if_neg h24], rfl⟩
        | exact ⟨by unfold sp_beside; rw [if_pos h5, if_pos h14, if_pos h24, sp_n_nI (by omega), sp_n_nI (by omega), if_pos h33]; rfl, rfl⟩
        | exact ⟨by unfold sp_beside; rw [if_pos h5, if_pos h14, if_pos h24, sp_n_nI (by omega), sp_n_nI (by omega), if_neg h33], rfl⟩
set_option maxRecDepth 20000 in
theorem s_X8_kind {G : nk_EG} {ad : Nat → Nat} {A : Nat → Nat → Int32} {I : Nat → Int32} (hi : mInj ad) {m b : Nat} (hm : mSh (A 0) 0 m b) {s : Int32} : nk_Si G mX8_kind 3 [.ref (ad 0), .int s] (mh ad A I) (sp_kind m (fun j => A 0 (2 + j)) s) (mh ad A I) := by
  have h4 := hm.2.2.1
  have h10 := hm.2.2.2
  have ht := nk_tp_le h10
  refine nk_S.of (by decide +kernel) (Nat.le_of_ble_eq_true rfl) rfl ?_
  refine nk_aload_n (i := 0) dX8_kind_0 rfl rfl ?_
  refine nk_iload_n (i := 1) dX8_kind_1 rfl rfl ?_
  refine nk_cVi kX8_154 (s_X8_isSet hi hm.1 hm.2.2.1) dX8_kind_2 mh_0 rfl rfl (by decide) (Nat.le_of_ble_eq_true rfl) ?_
  refine nk_ifeq (tgt := 19) dX8_kind_5 (by decide) (fun h5 => ?_) (fun h5 => ?_)
  · skip
    try simp only [nk_b0, Int32.toInt_toInt64, Classical.not_not, nk_l0, nk_l1, nk_l2, nk_l60] at h5
    refine nk_ldc qX8_49 dX8_kind_19 ?_
    refine nk_ireturn dX8_kind_21 rfl ?_
    first
    | exact ⟨by unfold sp_kind; rw [if_neg h5], rfl⟩
    | exact ⟨by unfold sp_kind; rw [if_pos h5, sp_n_nI (by omega)], rfl⟩
  · skip
    try simp only [nk_b0, Int32.toInt_toInt64, Classical.not_not, nk_l0, nk_l1, nk_l2, nk_l60] at h5
    obtain ⟨j, hj, rfl⟩ := nk_getN h5
    refine nk_aload_n (i := 0) dX8_kind_8 rfl rfl ?_
    refine nk_getf fX8_7 dX8_kind_9 mh_0 rfl ?_
    refine nk_iconst (v := 2) dX8_kind_12 (by decide) ?_
    refine nk_iload_n (i := 1) dX8_kind_13 rfl rfl ?_
    refine nk_iadd dX8_kind_14 ?_
    refine nk_ialdN (j := 2 + j) dX8_kind_15 (mh_1 hi) (nI_add 2 j) (by omega) (by decide) ?_
    refine nk_goto (tgt := 21) dX8_kind_16 (by decide) ?_
    refine nk_ireturn dX8_kind_21 rfl ?_
    first
    | exact ⟨by unfold sp_kind; rw [if_neg h5], rfl⟩
    | exact ⟨by unfold sp_kind; rw [if_pos h5, sp_n_nI (by omega)], rfl⟩

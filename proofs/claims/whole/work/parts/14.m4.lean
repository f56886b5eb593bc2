/-! the reference: ranks, the k-th, the nearest, chases, what all have -/
set_option maxRecDepth 20000 in
theorem l_X8_rank {G : nk_EG} {ad : Nat → Nat} {A : Nat → Nat → Int32} {I : Nat → Int32} (hi : mInj ad) {m b : Nat} (hm : mSh (A 0) 0 m b) {j k : Nat} (hj : j < 4) (hk : k ≤ 1024) : ∀ (n : Nat) (i : Nat) (h1 : i ≤ k) (h2 : k < i + n), nk_J G mX8_rank 4 (nk_ri (nI (fb_ct (nk_mem (A 0) 0 j) k)) (mh ad A I)) 0 0 25 [some (.ref (ad 0)), some (.int (nI j)), some (.int (nI k)), some (.int (nI (fb_ct (nk_mem (A 0) 0 j) i))), some (.int (nI i))] [] (mh ad A I) := by
  intro n
  induction n with
  | zero => intro i h1 h2; omega
  | succ n ih =>
    intro i h1 h2
    refine nk_iload dX8_rank_25 rfl ?_
    refine nk_iload_n (i := 2) dX8_rank_27 rfl rfl ?_
    refine nk_icmpge (tgt := 56) dX8_rank_28 (by decide) (fun h28 => ?_) (fun h28 => ?_)
    · skip
      refine nk_iload_n (i := 3) dX8_rank_56 rfl rfl ?_
      refine nk_ireturn dX8_rank_57 rfl ?_
      obtain rfl : i = k := by have := nk_leI (a := k) h28 (by omega) (by omega); omega
      exact ⟨rfl, rfl⟩
    · skip
      have hi2 := nk_nleI (a := k) h28 (by omega) (by omega)
      refine nk_iload_n (i := 3) dX8_rank_31 rfl rfl ?_
      refine nk_aload_n (i := 0) dX8_rank_32 rfl rfl ?_
      refine nk_iconst (v := 0) dX8_rank_33 (by decide) ?_
      refine nk_iload_n (i := 1) dX8_rank_34 rfl rfl ?_
      refine nk_iload dX8_rank_35 rfl ?_
      refine nk_cVi kX8_137 (s_X8_hasKey hi (base := 0) (s := j) (k := i) (by omega) (by omega)) dX8_rank_37 mh_0 rfl rfl (by decide) (Nat.le_of_ble_eq_true rfl) ?_
      refine nk_ifeq (tgt := 47) dX8_rank_40 (by decide) (fun h40 => ?_) (fun h40 => ?_)
      · skip
        rw [nk_b0] at h40
        refine nk_iconst (v := 0) dX8_rank_47 (by decide) ?_
        refine nk_iadd dX8_rank_48 ?_
        refine nk_top (y := nI (fb_ct (nk_mem (A 0) 0 j) (i + 1))) (by
          rw [fb_ct_succ]
          first | rw [if_neg h40] | rw [if_pos (Classical.not_not.mp h40)]
          first | exact nI_1 _ | exact Int32.add_zero _) ?_
        refine nk_istore_nT (i := 3) dX8_rank_49 rfl (by decide) ?_
        refine nk_iincT dX8_rank_50 rfl (nk_i1 i) (by decide) ?_
        refine nk_goto (tgt := 25) dX8_rank_53 (by decide) ?_
        exact ih (i + 1) (by omega) (by omega)
      · skip
        rw [nk_b0] at h40
        refine nk_iconst (v := 1) dX8_rank_43 (by decide) ?_
        refine nk_goto (tgt := 48) dX8_rank_44 (by decide) ?_
        refine nk_iadd dX8_rank_48 ?_
        refine nk_top (y := nI (fb_ct (nk_mem (A 0) 0 j) (i + 1))) (by
          rw [fb_ct_succ]
          first | rw [if_neg h40] | rw [if_pos (Classical.not_not.mp h40)]
          first | exact nI_1 _ | exact Int32.add_zero _) ?_
        refine nk_istore_nT (i := 3) dX8_rank_49 rfl (by decide) ?_
        refine nk_iincT dX8_rank_50 rfl (nk_i1 i) (by decide) ?_
        refine nk_goto (tgt := 25) dX8_rank_53 (by decide) ?_
        exact ih (i + 1) (by omega) (by omega)
set_option maxRecDepth 20000 in
theorem s_X8_rank {G : nk_EG} {ad : Nat → Nat} {A : Nat → Nat → Int32} {I : Nat → Int32} (hi : mInj ad) {m b : Nat} (hm : mSh (A 0) 0 m b) {s k : Int32} : nk_Si G mX8_rank 4 [.ref (ad 0), .int s, .int k] (mh ad A I) (sp_rank m b (nk_mem (A 0) 0) s k) (mh ad A I) := by
  have h4 := hm.2.2.1
  have h10 := hm.2.2.2
  have ht := nk_tp_le h10
  refine nk_S.of (by decide +kernel) (Nat.le_of_ble_eq_true rfl) rfl ?_
  refine nk_aload_n (i := 0) dX8_rank_0 rfl rfl ?_
  refine nk_iload_n (i := 1) dX8_rank_1 rfl rfl ?_
  refine nk_cVi kX8_154 (s_X8_isSet hi hm.1 hm.2.2.1) dX8_rank_2 mh_0 rfl rfl (by decide) (Nat.le_of_ble_eq_true rfl) ?_
  refine nk_ifeq (tgt := 17) dX8_rank_5 (by decide) (fun h5 => ?_) (fun h5 => ?_)
  · skip
    try simp only [nk_b0, Int32.toInt_toInt64, Classical.not_not, nk_l0, nk_l1, nk_l2, nk_l60] at h5
    refine nk_ldc qX8_49 dX8_rank_17 ?_
    refine nk_ireturn dX8_rank_19 rfl ?_
    first
    | exact ⟨by unfold sp_rank; rw [if_neg h5], rfl⟩
    | exact ⟨by unfold sp_rank; rw [if_pos h5, if_neg h14], rfl⟩
  · skip
    try simp only [nk_b0, Int32.toInt_toInt64, Classical.not_not, nk_l0, nk_l1, nk_l2, nk_l60] at h5
    refine nk_aload_n (i := 0) dX8_rank_8 rfl rfl ?_
    refine nk_iload_n (i := 2) dX8_rank_9 rfl rfl ?_
    refine nk_i2l dX8_rank_10 ?_
    refine nk_cVi kX8_157 (s_X8_isKey hi hm.2.1 hm.2.2.2) dX8_rank_11 mh_0 rfl rfl (by decide) (Nat.le_of_ble_eq_true rfl) ?_
    refine nk_ifne (tgt := 20) dX8_rank_14 (by decide) (fun h14 => ?_) (fun h14 => ?_)
    · skip
      try simp only [nk_b0, Int32.toInt_toInt64, Classical.not_not, nk_l0, nk_l1, nk_l2, nk_l60] at h14
      obtain ⟨j, hj, rfl⟩ := nk_getN h5
      obtain ⟨k, hk, rfl⟩ := nk_getN h14
      unfold sp_rank
      rw [if_pos h5, if_pos h14, sp_n_nI (by omega), sp_n_nI (by omega)]
      refine nk_iconst (v := 0) dX8_rank_20 (by decide) ?_
      refine nk_istore_nT (i := 3) dX8_rank_21 rfl (by decide) ?_
      refine nk_iconst (v := 0) dX8_rank_22 (by decide) ?_
      refine nk_istoreT dX8_rank_23 (by decide) ?_
      exact l_X8_rank hi hm (by omega) (by omega) (k + 1) 0 (by omega) (by omega)
    · skip
      try simp only [nk_b0, Int32.toInt_toInt64, Classical.not_not, nk_l0, nk_l1, nk_l2, nk_l60] at h14
      refine nk_ldc qX8_49 dX8_rank_17 ?_
      refine nk_ireturn dX8_rank_19 rfl ?_
      first
      | exact ⟨by unfold sp_rank; rw [if_neg h5], rfl⟩
      | exact ⟨by unfold sp_rank; rw [if_pos h5, if_neg h14], rfl⟩
set_option maxRecDepth 20000 in
theorem l_X8_nth {G : nk_EG} {ad : Nat → Nat} {A : Nat → Nat → Int32} {I : Nat → Int32} (hi : mInj ad) {m b : Nat} (hm : mSh (A 0) 0 m b) {j k : Nat} (hj : j < 4) (hk : k < 2 ^ 31) : ∀ (n : Nat) (i : Nat) (h1 : i ≤ k) (h2 : k < i + n), nk_J G mX8_nth 5 (nk_ri (nk_rN (sp_it (nk_mem (A 0) 0 j) (nk_tp b) k)) (mh ad A I)) 0 0 24 [some (.ref (ad 0)), some (.int (nI j)), some (.int (nI k)), some (.int (nk_rN (sp_it (nk_mem (A 0) 0 j) (nk_tp b) i))), some (.int (nI i))] [] (mh ad A I) := by
  intro n
  induction n with
  | zero => intro i h1 h2; omega
  | succ n ih =>
    intro i h1 h2
    have h4 := hm.2.2.1
    have h10 := hm.2.2.2
    have ht := nk_tp_le h10
    refine nk_iload dX8_nth_24 rfl ?_
    refine nk_iload_n (i := 2) dX8_nth_26 rfl rfl ?_
    refine nk_icmpge (tgt := 49) dX8_nth_27 (by decide) (fun h27 => ?_) (fun h27 => ?_)
    · skip
      refine nk_iload_n (i := 3) dX8_nth_49 rfl rfl ?_
      refine nk_ireturn dX8_nth_50 rfl ?_
      first
      | (have hk2 := nk_leI (a := k) h27 (by omega) (by omega)
         have e2 : i = k := Nat.le_antisymm h1 hk2
         subst e2
         exact ⟨rfl, rfl⟩)
      | exact ⟨by rw [h33, show k = i + (k - i) by omega, sp_it_none h33], rfl⟩
    · skip
      have hi2 := nk_nleI (a := k) h27 (by omega) (by omega)
      refine nk_iload_n (i := 3) dX8_nth_30 rfl rfl ?_
      refine nk_ldc qX8_140 dX8_nth_31 ?_
      refine nk_icmpeq (tgt := 49) dX8_nth_33 (by decide) (fun h33 => ?_) (fun h33 => ?_)
      · skip
        rw [nk_rN_none (fun q hq => by have := sp_it_lt hq; omega)] at h33
        refine nk_iload_n (i := 3) dX8_nth_49 rfl rfl ?_
        refine nk_ireturn dX8_nth_50 rfl ?_
        first
        | (have hk2 := nk_leI (a := k) h27 (by omega) (by omega)
           have e2 : i = k := Nat.le_antisymm h1 hk2
           subst e2
           exact ⟨rfl, rfl⟩)
        | exact ⟨by rw [h33, show k = i + (k - i) by omega, sp_it_none h33], rfl⟩
      · skip
        rw [nk_rN_none (fun q hq => by have := sp_it_lt hq; omega)] at h33
        obtain ⟨q, hq⟩ : ∃ q, sp_it (nk_mem (A 0) 0 j) (nk_tp b) i = some q := by
          cases h : sp_it (nk_mem (A 0) 0 j) (nk_tp b) i with
          | none => exact absurd h h33
          | some q => exact ⟨q, rfl⟩
        have hq2 := sp_it_lt hq
        refine nk_aload_n (i := 0) dX8_nth_36 rfl rfl ?_
        refine nk_iload_n (i := 1) dX8_nth_37 rfl rfl ?_
        refine nk_iload_n (i := 3) dX8_nth_38 rfl rfl ?_
        refine nk_top (y := nI q) (by rw [hq]; rfl) ?_
        refine nk_cVi kX8_141 (s_X8_above hi hm hj (a := q + 1) (nI_1 q) (by omega)) dX8_nth_39 mh_0 rfl rfl (by decide) (Nat.le_of_ble_eq_true rfl) ?_
        refine nk_istore_nT (i := 3) dX8_nth_42 rfl (by decide) ?_
        refine nk_iincT dX8_nth_43 rfl (nk_i1 i) (by decide) ?_
        refine nk_goto (tgt := 24) dX8_nth_46 (by decide) ?_
        exact (ih (i + 1) (by omega) (by omega)).to (by rw [sp_it, hq]; rfl) rfl rfl
set_option maxRecDepth 20000 in
theorem s_X8_nth {G : nk_EG} {ad : Nat → Nat} {A : Nat → Nat → Int32} {I : Nat → Int32} (hi : mInj ad) {m b : Nat} (hm : mSh (A 0) 0 m b) {s k : Int32} : nk_Si G mX8_nth 5 [.ref (ad 0), .int s, .int k] (mh ad A I) (sp_nth m b (nk_mem (A 0) 0) s k) (mh ad A I) := by
  have h4 := hm.2.2.1
  have h10 := hm.2.2.2
  have ht := nk_tp_le h10
  refine nk_S.of (by decide +kernel) (Nat.le_of_ble_eq_true rfl) rfl ?_
  refine nk_aload_n (i := 0) dX8_nth_0 rfl rfl ?_
  refine nk_iload_n (i := 1) dX8_nth_1 rfl rfl ?_
  refine nk_cVi kX8_154 (s_X8_isSet hi hm.1 hm.2.2.1) dX8_nth_2 mh_0 rfl rfl (by decide) (Nat.le_of_ble_eq_true rfl) ?_
  refine nk_ifeq (tgt := 12) dX8_nth_5 (by decide) (fun h5 => ?_) (fun h5 => ?_)
  · skip
    try simp only [nk_b0, Int32.toInt_toInt64, Classical.not_not, nk_l0, nk_l1, nk_l2, nk_l60] at h5
    refine nk_ldc qX8_49 dX8_nth_12 ?_
    refine nk_ireturn dX8_nth_14 rfl ?_
    first
    | exact ⟨by unfold sp_nth; rw [if_neg h5], rfl⟩
    | exact ⟨by unfold sp_nth; rw [if_pos h5, if_neg h9], rfl⟩
  · skip
    try simp only [nk_b0, Int32.toInt_toInt64, Classical.not_not, nk_l0, nk_l1, nk_l2, nk_l60] at h5
    refine nk_iload_n (i := 2) dX8_nth_8 rfl rfl ?_
    refine nk_ifge (tgt := 15) dX8_nth_9 (by decide) (fun h9 => ?_) (fun h9 => ?_)
    · skip
      try simp only [nk_b0, Int32.toInt_toInt64, Classical.not_not, nk_l0, nk_l1, nk_l2, nk_l60] at h9
      obtain ⟨j, hj, rfl⟩ := nk_getN h5
      obtain ⟨k, hk, rfl⟩ := nI_of (Int32.not_lt.mpr h9)
      unfold sp_nth
      rw [if_pos h5, if_pos h9, sp_n_nI (by omega), sp_n_nI (by omega)]
      refine nk_aload_n (i := 0) dX8_nth_15 rfl rfl ?_
      refine nk_iload_n (i := 1) dX8_nth_16 rfl rfl ?_
      refine nk_cVi kX8_147 (s_X8_leastOf hi hm (by have := hm.2.2.1; omega)) dX8_nth_17 mh_0 rfl rfl (by decide) (Nat.le_of_ble_eq_true rfl) ?_
      refine nk_istore_nT (i := 3) dX8_nth_20 rfl (by decide) ?_
      refine nk_iconst (v := 0) dX8_nth_21 (by decide) ?_
      refine nk_istoreT dX8_nth_22 (by decide) ?_
      exact l_X8_nth hi hm (by omega) hk (k + 1) 0 (by omega) (by omega)
    · skip
      try simp only [nk_b0, Int32.toInt_toInt64, Classical.not_not, nk_l0, nk_l1, nk_l2, nk_l60] at h9
      refine nk_ldc qX8_49 dX8_nth_12 ?_
      refine nk_ireturn dX8_nth_14 rfl ?_
      first
      | exact ⟨by unfold sp_nth; rw [if_neg h5], rfl⟩
      | exact ⟨by unfold sp_nth; rw [if_pos h5, if_neg h9], rfl⟩
set_option maxRecDepth 20000 in
theorem s_X8_near {G : nk_EG} {ad : Nat → Nat} {A : Nat → Nat → Int32} {I : Nat → Int32} (hi : mInj ad) {m b : Nat} (hm : mSh (A 0) 0 m b) {s k : Int32} : nk_Si G mX8_near 4 [.ref (ad 0), .int s, .int k] (mh ad A I) (sp_near m b (nk_mem (A 0) 0) s k) (mh ad A I) := by
  have h4 := hm.2.2.1
  have h10 := hm.2.2.2
  have ht := nk_tp_le h10
  refine nk_S.of (by decide +kernel) (Nat.le_of_ble_eq_true rfl) rfl ?_
  refine nk_aload_n (i := 0) dX8_near_0 rfl rfl ?_
  refine nk_iload_n (i := 1) dX8_near_1 rfl rfl ?_
  refine nk_cVi kX8_154 (s_X8_isSet hi hm.1 hm.2.2.1) dX8_near_2 mh_0 rfl rfl (by decide) (Nat.le_of_ble_eq_true rfl) ?_
  refine nk_ifeq (tgt := 17) dX8_near_5 (by decide) (fun h5 => ?_) (fun h5 => ?_)
  · skip
    try simp only [nk_b0, Int32.toInt_toInt64, Classical.not_not, nk_l0, nk_l1, nk_l2, nk_l60] at h5
    refine nk_ldc qX8_49 dX8_near_17 ?_
    refine nk_ireturn dX8_near_19 rfl ?_
    first
    | exact ⟨by unfold sp_near; rw [if_neg h5], rfl⟩
    | exact ⟨by unfold sp_near; rw [if_pos h5, if_neg h14], rfl⟩
  · skip
    try simp only [nk_b0, Int32.toInt_toInt64, Classical.not_not, nk_l0, nk_l1, nk_l2, nk_l60] at h5
    refine nk_aload_n (i := 0) dX8_near_8 rfl rfl ?_
    refine nk_iload_n (i := 2) dX8_near_9 rfl rfl ?_
    refine nk_i2l dX8_near_10 ?_
    refine nk_cVi kX8_157 (s_X8_isKey hi hm.2.1 hm.2.2.2) dX8_near_11 mh_0 rfl rfl (by decide) (Nat.le_of_ble_eq_true rfl) ?_
    refine nk_ifne (tgt := 20) dX8_near_14 (by decide) (fun h14 => ?_) (fun h14 => ?_)
    · skip
      try simp only [nk_b0, Int32.toInt_toInt64, Classical.not_not, nk_l0, nk_l1, nk_l2, nk_l60] at h14
      obtain ⟨j, hj, rfl⟩ := nk_getN h5
      obtain ⟨k, hk, rfl⟩ := nk_getN h14
      unfold sp_near sp_nr
      rw [if_pos h5, if_pos h14, sp_n_nI (by omega), sp_n_nI (by omega)]
      refine nk_aload_n (i := 0) dX8_near_20 rfl rfl ?_
      refine nk_iload_n (i := 1) dX8_near_21 rfl rfl ?_
      refine nk_iload_n (i := 2) dX8_near_22 rfl rfl ?_
      refine nk_cVi kX8_141 (s_X8_above hi hm (by omega) (a := k + 1) (nI_1 k) (by omega)) dX8_near_23 mh_0 rfl rfl (by decide) (Nat.le_of_ble_eq_true rfl) ?_
      refine nk_istore_nT (i := 3) dX8_near_26 rfl (by decide) ?_
      refine nk_aload_n (i := 0) dX8_near_27 rfl rfl ?_
      refine nk_iload_n (i := 1) dX8_near_28 rfl rfl ?_
      refine nk_iload_n (i := 2) dX8_near_29 rfl rfl ?_
      refine nk_cVi kX8_144 (s_X8_below hi hm (by omega) (a := k) (by omega)) dX8_near_30 mh_0 rfl rfl (by decide) (Nat.le_of_ble_eq_true rfl) ?_
      refine nk_istoreT dX8_near_33 (by decide) ?_
      refine nk_aload_n (i := 0) dX8_near_35 rfl rfl ?_
      refine nk_iconst (v := 0) dX8_near_36 (by decide) ?_
      refine nk_iload_n (i := 1) dX8_near_37 rfl rfl ?_
      refine nk_iload_n (i := 2) dX8_near_38 rfl rfl ?_
      refine nk_cVi kX8_137 (s_X8_hasKey hi (base := 0) (s := j) (k := k) (by omega) (by omega)) dX8_near_39 mh_0 rfl rfl (by decide) (Nat.le_of_ble_eq_true rfl) ?_
      refine nk_ifeq (tgt := 49) dX8_near_42 (by decide) (fun h42 => ?_) (fun h42 => ?_)
      · skip
        rw [nk_b0] at h42
        refine nk_iload_n (i := 3) dX8_near_49 rfl rfl ?_
        refine nk_ldc qX8_140 dX8_near_50 ?_
        refine nk_icmpne (tgt := 60) dX8_near_52 (by decide) (fun h52 => ?_) (fun h52 => ?_)
        · skip
          rw [nk_rN_none (nk_up_b (by omega))] at h52
          refine nk_iload dX8_near_60 rfl ?_
          refine nk_ldc qX8_140 dX8_near_62 ?_
          refine nk_icmpne (tgt := 71) dX8_near_64 (by decide) (fun h64 => ?_) (fun h64 => ?_)
          · skip
            rw [nk_rN_none (nk_dn_b (by omega))] at h64
            obtain ⟨u, hu⟩ : ∃ u, nk_up (nk_mem (A 0) 0 j) (k + 1) (nk_tp b - (k + 1)) = some u := Option.ne_none_iff_exists'.mp h52
            obtain ⟨v, hv⟩ : ∃ v, nk_dn (nk_mem (A 0) 0 j) k = some v := Option.ne_none_iff_exists'.mp h64
            have hu1 := nk_up_lt hu
            have hv1 := nk_dn_lt hv
            refine nk_iload_n (i := 2) dX8_near_71 rfl rfl ?_
            refine nk_iload dX8_near_72 rfl ?_
            refine nk_isub dX8_near_74 ?_
            refine nk_iload_n (i := 3) dX8_near_75 rfl rfl ?_
            refine nk_iload_n (i := 2) dX8_near_76 rfl rfl ?_
            refine nk_isub dX8_near_77 ?_
            rw [hu, hv]
            refine nk_top (y := nI (u - k)) (pk_sub (by omega)) ?_
            refine nk_J.to (st' := .int (nI (u - k)) :: .int (nI (k - v)) :: []) ?_ rfl (by rw [show nk_rN (some v) = nI v from rfl, pk_sub (by omega)]) rfl
            refine nk_icmpgt (tgt := 86) dX8_near_78 (by decide) (fun h78 => ?_) (fun h78 => ?_)
            · skip
              refine nk_iload_n (i := 3) dX8_near_86 rfl rfl ?_
              refine nk_ireturn dX8_near_87 rfl ?_
              first
              | exact ⟨by rw [if_pos (Classical.not_not.mp h42)]; rfl, rfl⟩
              | exact ⟨by rw [if_neg h42]; unfold sp_abv; rw [h52], rfl⟩
              | (obtain ⟨u, hu⟩ : ∃ u, nk_up (nk_mem (A 0) 0 j) (k + 1) (nk_tp b - (k + 1)) = some u := Option.ne_none_iff_exists'.mp h52
                 exact ⟨by rw [if_neg h42]; unfold sp_abv; rw [h64, hu], rfl⟩)
              | exact ⟨by rw [if_neg h42]; unfold sp_abv; (try rw [hu]); (try rw [hv]); show _ = some (Value.int (nk_rN (if k - v ≤ u - k then some v else some u))); rw [if_neg (by have := nk_ltI h78 (by omega) (by omega); omega)], rfl⟩
              | exact ⟨by rw [if_neg h42]; unfold sp_abv; (try rw [hu]); (try rw [hv]); show _ = some (Value.int (nk_rN (if k - v ≤ u - k then some v else some u))); rw [if_pos (by have := nk_nltI h78 (by omega) (by omega); omega)], rfl⟩
            · skip
              refine nk_iload dX8_near_81 rfl ?_
              refine nk_goto (tgt := 87) dX8_near_83 (by decide) ?_
              refine nk_ireturn dX8_near_87 rfl ?_
              first
              | exact ⟨by rw [if_pos (Classical.not_not.mp h42)]; rfl, rfl⟩
              | exact ⟨by rw [if_neg h42]; unfold sp_abv; rw [h52], rfl⟩
              | (obtain ⟨u, hu⟩ : ∃ u, nk_up (nk_mem (A 0) 0 j) (k + 1) (nk_tp b - (k + 1)) = some u := Option.ne_none_iff_exists'.mp h52
                 exact ⟨by rw [if_neg h42]; unfold sp_abv; rw [h64, hu], rfl⟩)
              | exact ⟨by rw [if_neg h42]; unfold sp_abv; (try rw [hu]); (try rw [hv]); show _ = some (Value.int (nk_rN (if k - v ≤ u - k then some v else some u))); rw [if_neg (by have := nk_ltI h78 (by omega) (by omega); omega)], rfl⟩
              | exact ⟨by rw [if_neg h42]; unfold sp_abv; (try rw [hu]); (try rw [hv]); show _ = some (Value.int (nk_rN (if k - v ≤ u - k then some v else some u))); rw [if_pos (by have := nk_nltI h78 (by omega) (by omega); omega)], rfl⟩
          · skip
            rw [nk_rN_none (nk_dn_b (by omega))] at h64
            refine nk_iload_n (i := 3) dX8_near_67 rfl rfl ?_
            refine nk_goto (tgt := 87) dX8_near_68 (by decide) ?_
            refine nk_ireturn dX8_near_87 rfl ?_
            first
            | exact ⟨by rw [if_pos (Classical.not_not.mp h42)]; rfl, rfl⟩
            | exact ⟨by rw [if_neg h42]; unfold sp_abv; rw [h52], rfl⟩
            | (obtain ⟨u, hu⟩ : ∃ u, nk_up (nk_mem (A 0) 0 j) (k + 1) (nk_tp b - (k + 1)) = some u := Option.ne_none_iff_exists'.mp h52
               exact ⟨by rw [if_neg h42]; unfold sp_abv; rw [h64, hu], rfl⟩)
            | exact ⟨by rw [if_neg h42]; unfold sp_abv; (try rw [hu]); (try rw [hv]); show _ = some (Value.int (nk_rN (if k - v ≤ u - k then some v else some u))); rw [if_neg (by have := nk_ltI h78 (by omega) (by omega); omega)], rfl⟩
            | exact ⟨by rw [if_neg h42]; unfold sp_abv; (try rw [hu]); (try rw [hv]); show _ = some (Value.int (nk_rN (if k - v ≤ u - k then some v else some u))); rw [if_pos (by have := nk_nltI h78 (by omega) (by omega); omega)], rfl⟩
        · skip
          rw [nk_rN_none (nk_up_b (by omega))] at h52
          refine nk_iload dX8_near_55 rfl ?_
          refine nk_goto (tgt := 87) dX8_near_57 (by decide) ?_
          refine nk_ireturn dX8_near_87 rfl ?_
          first
          | exact ⟨by rw [if_pos (Classical.not_not.mp h42)]; rfl, rfl⟩
          | exact ⟨by rw [if_neg h42]; unfold sp_abv; rw [h52], rfl⟩
          | (obtain ⟨u, hu⟩ : ∃ u, nk_up (nk_mem (A 0) 0 j) (k + 1) (nk_tp b - (k + 1)) = some u := Option.ne_none_iff_exists'.mp h52
             exact ⟨by rw [if_neg h42]; unfold sp_abv; rw [h64, hu], rfl⟩)
          | exact ⟨by rw [if_neg h42]; unfold sp_abv; (try rw [hu]); (try rw [hv]); show _ = some (Value.int (nk_rN (if k - v ≤ u - k then some v else some u))); rw [if_neg (by have := nk_ltI h78 (by omega) (by omega); omega)], rfl⟩
          | exact ⟨by rw [if_neg h42]; unfold sp_abv; (try rw [hu]); (try rw [hv]); show _ = some (Value.int (nk_rN (if k - v ≤ u - k then some v else some u))); rw [if_pos (by have := nk_nltI h78 (by omega) (by omega); omega)], rfl⟩
      · skip
        rw [nk_b0] at h42
        refine nk_iload_n (i := 2) dX8_near_45 rfl rfl ?_
        refine nk_goto (tgt := 87) dX8_near_46 (by decide) ?_
        refine nk_ireturn dX8_near_87 rfl ?_
        first
        | exact ⟨by rw [if_pos (Classical.not_not.mp h42)]; rfl, rfl⟩
        | exact ⟨by rw [if_neg h42]; unfold sp_abv; rw [h52], rfl⟩
        | (obtain ⟨u, hu⟩ : ∃ u, nk_up (nk_mem (A 0) 0 j) (k + 1) (nk_tp b - (k + 1)) = some u := Option.ne_none_iff_exists'.mp h52
           exact ⟨by rw [if_neg h42]; unfold sp_abv; rw [h64, hu], rfl⟩)
        | exact ⟨by rw [if_neg h42]; unfold sp_abv; (try rw [hu]); (try rw [hv]); show _ = some (Value.int (nk_rN (if k - v ≤ u - k then some v else some u))); rw [if_neg (by have := nk_ltI h78 (by omega) (by omega); omega)], rfl⟩
        | exact ⟨by rw [if_neg h42]; unfold sp_abv; (try rw [hu]); (try rw [hv]); show _ = some (Value.int (nk_rN (if k - v ≤ u - k then some v else some u))); rw [if_pos (by have := nk_nltI h78 (by omega) (by omega); omega)], rfl⟩
    · skip
      try simp only [nk_b0, Int32.toInt_toInt64, Classical.not_not, nk_l0, nk_l1, nk_l2, nk_l60] at h14
      refine nk_ldc qX8_49 dX8_near_17 ?_
      refine nk_ireturn dX8_near_19 rfl ?_
      first
      | exact ⟨by unfold sp_near; rw [if_neg h5], rfl⟩
      | exact ⟨by unfold sp_near; rw [if_pos h5, if_neg h14], rfl⟩
